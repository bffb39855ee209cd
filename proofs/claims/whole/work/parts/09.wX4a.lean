abbrev zR1 (g : zG) (qr : Nat) (ro : Nat → Int32) : va_W := [(qr, .inl (g.2.1, 785, .inl ro))]
abbrev zR2 (g : zG) (na nb : Nat) (qr qq : Nat) (ra : Nat → Int32) (rb : Nat → Int32) : va_W := [(qr, .inl (g.2.1, na, .inl ra)), (qq, .inl (g.2.1, nb, .inl rb))]
abbrev zMT (g : zG) (h0 h1 : Nat) (vn vt vd vk vi : Value) (rf : Int32) (sz : Int32) (ac : Int32) (sF : Int32) (sB : Int32) (sp : Int32) (ou : Int32) (tx : Nat → Int32) : va_W := [(h0, .inr (4, [.int rf, .ref h1, .int sz, vn, vt, vd, .int ac, vk, vi, .int sF, .int sB, .int sp, .int ou])), (h1, .inl (g.2.1, 120, .inl tx))]
abbrev zMR (g : zG) (h0 h1 qr : Nat) (vn vt vd vk vi : Value) (rf : Int32) (sz : Int32) (ac : Int32) (sF : Int32) (sB : Int32) (sp : Int32) (ou : Int32) (tx : Nat → Int32) (ro : Nat → Int32) : va_W := [(h0, .inr (4, [.int rf, .ref h1, .int sz, vn, vt, vd, .int ac, vk, vi, .int sF, .int sB, .int sp, .int ou])), (h1, .inl (g.2.1, 120, .inl tx)), (qr, .inl (g.2.1, 785, .inl ro))]
abbrev zMA (g : zG) (h0 h1 h2 h3 h4 h5 h6 : Nat) (rf : Int32) (sz : Int32) (ac : Int32) (sF : Int32) (sB : Int32) (sp : Int32) (ou : Int32) (tx : Nat → Int32) (nw : Nat → Int32) (tr : Nat → Int32) (di : Nat → Int32) (ke : Nat → Int32) (ik : Nat → Int32) : va_W := [(h0, .inr (4, [.int rf, .ref h1, .int sz, .ref h2, .ref h3, .ref h4, .int ac, .ref h5, .ref h6, .int sF, .int sB, .int sp, .int ou])), (h1, .inl (g.2.1, 120, .inl tx)), (h2, .inl (g.2.1, 785, .inl nw)), (h3, .inl (g.2.1, 785, .inl tr)), (h4, .inl (g.2.1, 10990, .inl di)), (h5, .inl (g.2.1, 1570, .inl ke)), (h6, .inl (g.2.2.2.1, 2, .inl ik))]
def fX4_in (a0 : Int64) (a2 : Int64) (a4 : Int64) : Option (Int32) :=
  if (lg_cmp a0 a2) < 0 then
    some 0
  else
    if 0 < (lg_cmp a0 a4) then
      some 0
    else
      some 1
set_option maxRecDepth 100000 in
set_option maxHeartbeats 4000000 in
theorem kX4_in (l : Launch) (g : zG) (a0 : Int64) (a2 : Int64) (a4 : Int64) {r : Int32} (h : fX4_in a0 a2 a4 = some r) : Mr l g yX4_in wsX4_in { frames := 0, cells := 0, slots := 0, locals := 0 } [.long a0, .long a2, .long a4] [] (zQi r) := by
  refine zr_in (cc := cX4_in) (maxL := 6) (ret := (some .boolean)) (by decide) rfl (Nat.le_of_ble_eq_true rfl) ?_
  intro p e s m below meth c hx hb hr hml hts hown hlocks hP hK ls hl
  replace hl : lv_has ls 6 [(0, .long a0), (2, .long a2), (4, .long a4)] := hl
  unfold fX4_in at h
  refine lv_lload_n hx hb dX4_in_0 rfl (lv_at hl 0 rfl) ?_
  refine lv_lload_n hx hb dX4_in_1 rfl (lv_at hl 1 rfl) ?_
  refine W.lcmp hx hb dX4_in_2 ?_
  refine lv_if_lt (tgt := 17) hx hb dX4_in_3 (by decide) (fun c1 => ?_) (fun c1 => ?_)
  · replace h := zt c1 h
    refine lv_iconst (v := 0) hx hb dX4_in_17 (by decide) ?_
    cases h
    exact zr_z hx hb hr hlocks (by decide) dX4_in_18
  · replace h := zf c1 h
    refine lv_lload_n hx hb dX4_in_6 rfl (lv_at hl 0 rfl) ?_
    refine lv_lload hx hb dX4_in_7 (lv_at hl 2 rfl) ?_
    refine W.lcmp hx hb dX4_in_9 ?_
    refine lv_if_gt (tgt := 17) hx hb dX4_in_10 (by decide) (fun c2 => ?_) (fun c2 => ?_)
    · replace h := zt c2 h
      refine lv_iconst (v := 0) hx hb dX4_in_17 (by decide) ?_
      cases h
      exact zr_z hx hb hr hlocks (by decide) dX4_in_18
    · replace h := zf c2 h
      refine lv_iconst (v := 1) hx hb dX4_in_13 (by decide) ?_
      refine lv_goto (tgt := 18) hx hb dX4_in_14 (by decide) ?_
      cases h
      exact zr_z hx hb hr hlocks (by decide) dX4_in_18
theorem hdS_X4_in : yX4_in.cls ≠ "java/lang/invoke/MethodHandle" ∧ yX4_in.cls ≠ "java/lang/invoke/VarHandle" ∧ (parseMethodDescriptor yX4_in.desc).map (fun d => d.parameters.length) = some 3 := by decide +kernel
def fX4_isBlock (a0 : Int32) : Option (Int32) :=
  ob (fX4_in a0.toInt64 0 (255)) fun r1 =>
  if ¬ (r1 &&& 1 = r1) then none else some r1
theorem mX4_isBlock_37 : Cond.constantLong RX4 37 (255) ∈ wsX4_isBlock := by decide +kernel
set_option maxRecDepth 100000 in
set_option maxHeartbeats 4000000 in
theorem kX4_isBlock (l : Launch) (g : zG) (a0 : Int32) {r : Int32} (h : fX4_isBlock a0 = some r) : Mr l g yX4_isBlock wsX4_isBlock { frames := 1, cells := 0, slots := 0, locals := 25 } [.int a0] [] (zQi r) := by
  refine zr_in (cc := cX4_isBlock) (maxL := 1) (ret := (some .boolean)) (by decide) rfl (Nat.le_of_ble_eq_true rfl) ?_
  intro p e s m below meth c hx hb hr hml hts hown hlocks hP hK ls hl
  replace hl : lv_has ls 1 [(0, .int a0)] := hl
  unfold fX4_isBlock at h
  refine lv_iload_n hx hb dX4_isBlock_0 rfl (lv_at hl 0 rfl) ?_
  refine lv_i2l (v := a0.toInt64) hx hb dX4_isBlock_1 rfl ?_
  refine lv_lconst (v := 0) hx hb dX4_isBlock_2 (by decide) ?_
  refine lv_ldc2 hx hb hown (hts _ mX4_isBlock_37) dX4_isBlock_3 ?_
  obtain ⟨r1, e1, h⟩ := zb h
  refine zS (As := [.long a0.toInt64, .long 0, .long (255)]) (rest := []) (zQi_q _) ⟨hx, hb, hml, hown, hts⟩ (kX4_in l g a0.toInt64 0 (255) e1) (va_cwS 3 hts gX4_isBlock_X4_in rfl rfl rfl hdS_X4_in ⟨Nat.le_of_ble_eq_true rfl, Nat.le_of_ble_eq_true rfl⟩) hK hP [] rfl rfl hl.1 rfl (Nat.le_of_ble_eq_true rfl) ⟨Nat.zero_le _, Nat.zero_le _⟩ dX4_isBlock_6 ?_
  obtain ⟨i2, h⟩ := zi h
  cases h
  exact zr_z hx hb hr hlocks (Decidable.of_not_not i2) dX4_isBlock_9
theorem hdS_X4_isBlock : yX4_isBlock.cls ≠ "java/lang/invoke/MethodHandle" ∧ yX4_isBlock.cls ≠ "java/lang/invoke/VarHandle" ∧ (parseMethodDescriptor yX4_isBlock.desc).map (fun d => d.parameters.length) = some 1 := by decide +kernel
def fX4_whyNotSpan (a0 : Int32) (a1 : Int32) : Option (Int32) :=
  ob (fX4_isBlock a0) fun r1 =>
  if r1 = 0 then
    some 1
  else
    ob (fX4_in a1.toInt64 1 (99)) fun r3 =>
    if r3 = 0 then
      some 2
    else
      if (a0 + a1) ≤ 256 then
        some 0
      else
        some 3
theorem mX4_whyNotSpan_47 : Cond.constantLong RX4 47 (99) ∈ wsX4_whyNotSpan := by decide +kernel
set_option maxRecDepth 100000 in
set_option maxHeartbeats 4000000 in
theorem kX4_whyNotSpan (l : Launch) (g : zG) (a0 : Int32) (a1 : Int32) {r : Int32} (h : fX4_whyNotSpan a0 a1 = some r) : Mr l g yX4_whyNotSpan wsX4_whyNotSpan { frames := 2, cells := 0, slots := 0, locals := 45 } [.int a0, .int a1] [] (zQi r) := by
  refine zr_in (cc := cX4_whyNotSpan) (maxL := 2) (ret := (some .int)) (by decide) rfl (Nat.le_of_ble_eq_true rfl) ?_
  intro p e s m below meth c hx hb hr hml hts hown hlocks hP hK ls hl
  replace hl : lv_has ls 2 [(0, .int a0), (1, .int a1)] := hl
  unfold fX4_whyNotSpan at h
  refine lv_iload_n hx hb dX4_whyNotSpan_0 rfl (lv_at hl 0 rfl) ?_
  obtain ⟨r1, e1, h⟩ := zb h
  refine zS (As := [.int a0]) (rest := []) (zQi_q _) ⟨hx, hb, hml, hown, hts⟩ (kX4_isBlock l g a0 e1) (va_cwS 1 hts gX4_whyNotSpan_X4_isBlock rfl rfl rfl hdS_X4_isBlock ⟨Nat.le_of_ble_eq_true rfl, Nat.le_of_ble_eq_true rfl⟩) hK hP [] rfl rfl hl.1 rfl (Nat.le_of_ble_eq_true rfl) ⟨Nat.zero_le _, Nat.zero_le _⟩ dX4_whyNotSpan_1 ?_
  refine lv_if_ne (tgt := 11) hx hb dX4_whyNotSpan_4 (by decide) (fun c2 => ?_) (fun c2 => ?_)
  · replace h := zf c2 h
    refine lv_iload_n hx hb dX4_whyNotSpan_11 rfl (lv_at hl 1 rfl) ?_
    refine lv_i2l (v := a1.toInt64) hx hb dX4_whyNotSpan_12 rfl ?_
    refine lv_lconst (v := 1) hx hb dX4_whyNotSpan_13 (by decide) ?_
    refine lv_ldc2 hx hb hown (hts _ mX4_whyNotSpan_47) dX4_whyNotSpan_14 ?_
    obtain ⟨r3, e3, h⟩ := zb h
    refine zS (As := [.long a1.toInt64, .long 1, .long (99)]) (rest := []) (zQi_q _) ⟨hx, hb, hml, hown, hts⟩ (kX4_in l g a1.toInt64 1 (99) e3) (va_cwS 3 hts gX4_whyNotSpan_X4_in rfl rfl rfl hdS_X4_in ⟨Nat.le_of_ble_eq_true rfl, Nat.le_of_ble_eq_true rfl⟩) hK hP [] rfl rfl hl.1 rfl (Nat.le_of_ble_eq_true rfl) ⟨Nat.zero_le _, Nat.zero_le _⟩ dX4_whyNotSpan_17 ?_
    refine lv_if_ne (tgt := 27) hx hb dX4_whyNotSpan_20 (by decide) (fun c4 => ?_) (fun c4 => ?_)
    · replace h := zf c4 h
      refine lv_iload_n hx hb dX4_whyNotSpan_27 rfl (lv_at hl 0 rfl) ?_
      refine lv_iload_n hx hb dX4_whyNotSpan_28 rfl (lv_at hl 1 rfl) ?_
      refine lv_iadd hx hb dX4_whyNotSpan_29 ?_
      refine lv_sipush (v := 256) hx hb dX4_whyNotSpan_30 (by decide) ?_
      refine lv_icmp_le (tgt := 40) hx hb dX4_whyNotSpan_33 (by decide) (fun c5 => ?_) (fun c5 => ?_)
      · replace h := zt c5 h
        refine lv_iconst (v := 0) hx hb dX4_whyNotSpan_40 (by decide) ?_
        cases h
        exact zr_i hx hb hr hlocks dX4_whyNotSpan_41
      · replace h := zf c5 h
        refine lv_iconst (v := 3) hx hb dX4_whyNotSpan_36 (by decide) ?_
        refine lv_goto (tgt := 41) hx hb dX4_whyNotSpan_37 (by decide) ?_
        cases h
        exact zr_i hx hb hr hlocks dX4_whyNotSpan_41
    · replace h := zt c4 h
      refine lv_iconst (v := 2) hx hb dX4_whyNotSpan_23 (by decide) ?_
      refine lv_goto (tgt := 41) hx hb dX4_whyNotSpan_24 (by decide) ?_
      cases h
      exact zr_i hx hb hr hlocks dX4_whyNotSpan_41
  · replace h := zt c2 h
    refine lv_iconst (v := 1) hx hb dX4_whyNotSpan_7 (by decide) ?_
    refine lv_goto (tgt := 41) hx hb dX4_whyNotSpan_8 (by decide) ?_
    cases h
    exact zr_i hx hb hr hlocks dX4_whyNotSpan_41
def fX4_least (a0 : Int32) (a1 : Int32) : Option (Int32) :=
  if a1 ≤ a0 then
    some a1
  else
    some a0
set_option maxRecDepth 100000 in
set_option maxHeartbeats 4000000 in
theorem kX4_least (l : Launch) (g : zG) (a0 : Int32) (a1 : Int32) {r : Int32} (h : fX4_least a0 a1 = some r) : Mr l g yX4_least wsX4_least { frames := 0, cells := 0, slots := 0, locals := 0 } [.int a0, .int a1] [] (zQi r) := by
  refine zr_in (cc := cX4_least) (maxL := 2) (ret := (some .int)) (by decide) rfl (Nat.le_of_ble_eq_true rfl) ?_
  intro p e s m below meth c hx hb hr hml hts hown hlocks hP hK ls hl
  replace hl : lv_has ls 2 [(0, .int a0), (1, .int a1)] := hl
  unfold fX4_least at h
  refine lv_iload_n hx hb dX4_least_0 rfl (lv_at hl 0 rfl) ?_
  refine lv_iload_n hx hb dX4_least_1 rfl (lv_at hl 1 rfl) ?_
  refine lv_icmp_ge (tgt := 9) hx hb dX4_least_2 (by decide) (fun c1 => ?_) (fun c1 => ?_)
  · replace h := zt c1 h
    refine lv_iload_n hx hb dX4_least_9 rfl (lv_at hl 1 rfl) ?_
    cases h
    exact zr_i hx hb hr hlocks dX4_least_10
  · replace h := zf c1 h
    refine lv_iload_n hx hb dX4_least_5 rfl (lv_at hl 0 rfl) ?_
    refine lv_goto (tgt := 10) hx hb dX4_least_6 (by decide) ?_
    cases h
    exact zr_i hx hb hr hlocks dX4_least_10
def fX4_greatest (a0 : Int32) : Option (Int32) :=
  if a0 = 0 then
    some 4
  else
    if a0 = 1 then
      some 20
    else
      if a0 = 2 then
        some 40
      else
        if a0 = 3 then
          some 50
        else
          if a0 = 4 then
            some 9
          else
            some 2
set_option maxRecDepth 100000 in
set_option maxHeartbeats 4000000 in
theorem kX4_greatest (l : Launch) (g : zG) (a0 : Int32) {r : Int32} (h : fX4_greatest a0 = some r) : Mr l g yX4_greatest wsX4_greatest { frames := 0, cells := 0, slots := 0, locals := 0 } [.int a0] [] (zQi r) := by
  refine zr_in (cc := cX4_greatest) (maxL := 1) (ret := (some .int)) (by decide) rfl (Nat.le_of_ble_eq_true rfl) ?_
  intro p e s m below meth c hx hb hr hml hts hown hlocks hP hK ls hl
  replace hl : lv_has ls 1 [(0, .int a0)] := hl
  unfold fX4_greatest at h
  refine lv_iload_n hx hb dX4_greatest_0 rfl (lv_at hl 0 rfl) ?_
  refine lv_if_ne (tgt := 8) hx hb dX4_greatest_1 (by decide) (fun c1 => ?_) (fun c1 => ?_)
  · replace h := zf c1 h
    refine lv_iload_n hx hb dX4_greatest_8 rfl (lv_at hl 0 rfl) ?_
    refine lv_iconst (v := 1) hx hb dX4_greatest_9 (by decide) ?_
    refine lv_icmp_ne (tgt := 18) hx hb dX4_greatest_10 (by decide) (fun c2 => ?_) (fun c2 => ?_)
    · replace h := zf c2 h
      refine lv_iload_n hx hb dX4_greatest_18 rfl (lv_at hl 0 rfl) ?_
      refine lv_iconst (v := 2) hx hb dX4_greatest_19 (by decide) ?_
      refine lv_icmp_ne (tgt := 28) hx hb dX4_greatest_20 (by decide) (fun c3 => ?_) (fun c3 => ?_)
      · replace h := zf c3 h
        refine lv_iload_n hx hb dX4_greatest_28 rfl (lv_at hl 0 rfl) ?_
        refine lv_iconst (v := 3) hx hb dX4_greatest_29 (by decide) ?_
        refine lv_icmp_ne (tgt := 38) hx hb dX4_greatest_30 (by decide) (fun c4 => ?_) (fun c4 => ?_)
        · replace h := zf c4 h
          refine lv_iload_n hx hb dX4_greatest_38 rfl (lv_at hl 0 rfl) ?_
          refine lv_iconst (v := 4) hx hb dX4_greatest_39 (by decide) ?_
          refine lv_icmp_ne (tgt := 48) hx hb dX4_greatest_40 (by decide) (fun c5 => ?_) (fun c5 => ?_)
          · replace h := zf c5 h
            refine lv_iconst (v := 2) hx hb dX4_greatest_48 (by decide) ?_
            cases h
            exact zr_i hx hb hr hlocks dX4_greatest_49
          · replace h := zt c5 h
            refine lv_bipush (v := 9) hx hb dX4_greatest_43 (by decide) ?_
            refine lv_goto (tgt := 49) hx hb dX4_greatest_45 (by decide) ?_
            cases h
            exact zr_i hx hb hr hlocks dX4_greatest_49
        · replace h := zt c4 h
          refine lv_bipush (v := 50) hx hb dX4_greatest_33 (by decide) ?_
          refine lv_goto (tgt := 49) hx hb dX4_greatest_35 (by decide) ?_
          cases h
          exact zr_i hx hb hr hlocks dX4_greatest_49
      · replace h := zt c3 h
        refine lv_bipush (v := 40) hx hb dX4_greatest_23 (by decide) ?_
        refine lv_goto (tgt := 49) hx hb dX4_greatest_25 (by decide) ?_
        cases h
        exact zr_i hx hb hr hlocks dX4_greatest_49
    · replace h := zt c2 h
      refine lv_bipush (v := 20) hx hb dX4_greatest_13 (by decide) ?_
      refine lv_goto (tgt := 49) hx hb dX4_greatest_15 (by decide) ?_
      cases h
      exact zr_i hx hb hr hlocks dX4_greatest_49
  · replace h := zt c1 h
    refine lv_iconst (v := 4) hx hb dX4_greatest_4 (by decide) ?_
    refine lv_goto (tgt := 49) hx hb dX4_greatest_5 (by decide) ?_
    cases h
    exact zr_i hx hb hr hlocks dX4_greatest_49
theorem hdS_X4_greatest : yX4_greatest.cls ≠ "java/lang/invoke/MethodHandle" ∧ yX4_greatest.cls ≠ "java/lang/invoke/VarHandle" ∧ (parseMethodDescriptor yX4_greatest.desc).map (fun d => d.parameters.length) = some 1 := by decide +kernel
def fX4_isSetting (a0 : Int32) (a1 : Int32) : Option (Int32) :=
  ob (fX4_in a0.toInt64 0 (5)) fun r1 =>
  if r1 = 0 then
    some 0
  else
    ob (fX4_greatest a0) fun r3 =>
    ob (fX4_in a1.toInt64 0 r3.toInt64) fun r4 =>
    if r4 = 0 then
      some 0
    else
      some 1
theorem mX4_isSetting_109 : Cond.constantLong RX4 109 (5) ∈ wsX4_isSetting := by decide +kernel
set_option maxRecDepth 100000 in
set_option maxHeartbeats 4000000 in
theorem kX4_isSetting (l : Launch) (g : zG) (a0 : Int32) (a1 : Int32) {r : Int32} (h : fX4_isSetting a0 a1 = some r) : Mr l g yX4_isSetting wsX4_isSetting { frames := 1, cells := 0, slots := 0, locals := 25 } [.int a0, .int a1] [] (zQi r) := by
  refine zr_in (cc := cX4_isSetting) (maxL := 2) (ret := (some .boolean)) (by decide) rfl (Nat.le_of_ble_eq_true rfl) ?_
  intro p e s m below meth c hx hb hr hml hts hown hlocks hP hK ls hl
  replace hl : lv_has ls 2 [(0, .int a0), (1, .int a1)] := hl
  unfold fX4_isSetting at h
  refine lv_iload_n hx hb dX4_isSetting_0 rfl (lv_at hl 0 rfl) ?_
  refine lv_i2l (v := a0.toInt64) hx hb dX4_isSetting_1 rfl ?_
  refine lv_lconst (v := 0) hx hb dX4_isSetting_2 (by decide) ?_
  refine lv_ldc2 hx hb hown (hts _ mX4_isSetting_109) dX4_isSetting_3 ?_
  obtain ⟨r1, e1, h⟩ := zb h
  refine zS (As := [.long a0.toInt64, .long 0, .long (5)]) (rest := []) (zQi_q _) ⟨hx, hb, hml, hown, hts⟩ (kX4_in l g a0.toInt64 0 (5) e1) (va_cwS 3 hts gX4_isSetting_X4_in rfl rfl rfl hdS_X4_in ⟨Nat.le_of_ble_eq_true rfl, Nat.le_of_ble_eq_true rfl⟩) hK hP [] rfl rfl hl.1 rfl (Nat.le_of_ble_eq_true rfl) ⟨Nat.zero_le _, Nat.zero_le _⟩ dX4_isSetting_6 ?_
  refine lv_if_eq (tgt := 30) hx hb dX4_isSetting_9 (by decide) (fun c2 => ?_) (fun c2 => ?_)
  · replace h := zt c2 h
    refine lv_iconst (v := 0) hx hb dX4_isSetting_30 (by decide) ?_
    cases h
    exact zr_z hx hb hr hlocks (by decide) dX4_isSetting_31
  · replace h := zf c2 h
    refine lv_iload_n hx hb dX4_isSetting_12 rfl (lv_at hl 1 rfl) ?_
    refine lv_i2l (v := a1.toInt64) hx hb dX4_isSetting_13 rfl ?_
    refine lv_lconst (v := 0) hx hb dX4_isSetting_14 (by decide) ?_
    refine lv_iload_n hx hb dX4_isSetting_15 rfl (lv_at hl 0 rfl) ?_
    obtain ⟨r3, e3, h⟩ := zb h
    refine zS (As := [.int a0]) (rest := [.long 0, .long a1.toInt64]) (zQi_q _) ⟨hx, hb, hml, hown, hts⟩ (kX4_greatest l g a0 e3) (va_cwS 1 hts gX4_isSetting_X4_greatest rfl rfl rfl hdS_X4_greatest ⟨Nat.le_of_ble_eq_true rfl, Nat.le_of_ble_eq_true rfl⟩) hK hP [] rfl rfl hl.1 rfl (Nat.le_of_ble_eq_true rfl) ⟨Nat.zero_le _, Nat.zero_le _⟩ dX4_isSetting_16 ?_
    refine lv_i2l (v := r3.toInt64) hx hb dX4_isSetting_19 rfl ?_
    obtain ⟨r4, e4, h⟩ := zb h
    refine zS (As := [.long a1.toInt64, .long 0, .long r3.toInt64]) (rest := []) (zQi_q _) ⟨hx, hb, hml, hown, hts⟩ (kX4_in l g a1.toInt64 0 r3.toInt64 e4) (va_cwS 3 hts gX4_isSetting_X4_in rfl rfl rfl hdS_X4_in ⟨Nat.le_of_ble_eq_true rfl, Nat.le_of_ble_eq_true rfl⟩) hK hP [] rfl rfl hl.1 rfl (Nat.le_of_ble_eq_true rfl) ⟨Nat.zero_le _, Nat.zero_le _⟩ dX4_isSetting_20 ?_
    refine lv_if_eq (tgt := 30) hx hb dX4_isSetting_23 (by decide) (fun c5 => ?_) (fun c5 => ?_)
    · replace h := zt c5 h
      refine lv_iconst (v := 0) hx hb dX4_isSetting_30 (by decide) ?_
      cases h
      exact zr_z hx hb hr hlocks (by decide) dX4_isSetting_31
    · replace h := zf c5 h
      refine lv_iconst (v := 1) hx hb dX4_isSetting_26 (by decide) ?_
      refine lv_goto (tgt := 31) hx hb dX4_isSetting_27 (by decide) ?_
      cases h
      exact zr_z hx hb hr hlocks (by decide) dX4_isSetting_31
def fX4_copyState_3 (na : Nat) (nb : Nat) (ra : Nat → Int32) : Nat → Int32 → Int32 → Int32 → (Nat → Int32) → Option ((Nat → Int32))
  | 0, _, _, _, _ => none
  | n + 1, v1, v3, v4, rb =>
    if 785 ≤ v4 then
        some rb
      else
        if (v1 + v4) < 0 ∨ na ≤ (v1 + v4).toNatClampNeg then none else
        if (v3 + v4) < 0 ∨ nb ≤ (v3 + v4).toNatClampNeg then none else
        fX4_copyState_3 na nb ra n v1 v3 (v4 + 1) (upd rb (v3 + v4).toNatClampNeg (ra (v1 + v4).toNatClampNeg))
def fX4_copyState (na : Nat) (nb : Nat) (ra : Nat → Int32) (rb : Nat → Int32) (a1 : Int32) (a3 : Int32) : Option ((Nat → Int32)) :=
  fX4_copyState_3 na nb ra 1000 a1 a3 0 rb
set_option maxRecDepth 100000 in
set_option maxHeartbeats 4000000 in
theorem kX4_copyState (l : Launch) (g : zG) (na nb : Nat) (qr qq : Nat) (ra : Nat → Int32) (rb : Nat → Int32) (a1 : Int32) (a3 : Int32) {rb' : Nat → Int32} (h : fX4_copyState na nb ra rb a1 a3 = some rb') : Mw l g yX4_copyState wsX4_copyState { frames := 0, cells := 0, slots := 0, locals := 0 } [.ref qr, .int a1, .ref qq, .int a3] (zR2 g na nb qr qq ra rb) (zWv g (zR2 g na nb qr qq ra rb')) := by
  refine zw_in (cc := cX4_copyState) (maxL := 5) (ret := none) (by decide) rfl (Nat.le_of_ble_eq_true rfl) ?_
  intro p e s m below meth c hx hb hr hml hts hown hlocks hK A hA hP hD hS ls hl
  replace hl : lv_has ls 5 [(0, .ref qr), (1, .int a1), (2, .ref qq), (3, .int a3)] := hl
  have loop_3 : ∀ (n : Nat) (v1 : Int32) (v3 : Int32) (v4 : Int32) (rb : (Nat → Int32)), fX4_copyState_3 na nb ra n v1 v3 v4 rb = some rb' → ∀ (H : Heap) (locs : List Loc), zP g (zR2 g na nb qr qq ra rb) H → va_D A (zR2 g na nb qr qq ra rb) → va_S A s.heap H locs → ∀ (ls : Array Slot), lv_has ls 5 [(0, .ref qr), (1, .int v1), (2, .ref qq), (3, .int v3), (4, .int v4)] → W p l e ({ frames := 0, cells := 0, slots := 0, locals := 0 } : Room) s m [.ref qr, .int a1, .ref qq, .int a3].toArray below meth c H locs 0 0 (MQ below (zWv g (zR2 g na nb qr qq ra rb') A) [.ref qr, .int a1, .ref qq, .int a3].toArray s 0 0 A) (F0 m 3 ls []) := by
    intro n
    induction n with
    | zero => intro v1 v3 v4 rb h H locs hP hD hS ls hl; exact zn h
    | succ n ih =>
      intro v1 v3 v4 rb h H locs hP hD hS ls hl
      rw [fX4_copyState_3] at h
      refine lv_iload hx hb dX4_copyState_3 (lv_at hl 4 rfl) ?_
      refine lv_sipush (v := 785) hx hb dX4_copyState_5 (by decide) ?_
      refine lv_icmp_ge (tgt := 29) hx hb dX4_copyState_8 (by decide) (fun c1 => ?_) (fun c1 => ?_)
      · replace h := zt c1 h
        cases h
        exact zw_v hx hb hr hlocks hP hS dX4_copyState_29
      · replace h := zf c1 h
        refine lv_aload_n hx hb dX4_copyState_11 rfl (lv_at hl 2 rfl) ?_
        refine lv_iload_n hx hb dX4_copyState_12 rfl (lv_at hl 3 rfl) ?_
        refine lv_iload hx hb dX4_copyState_13 (lv_at hl 4 rfl) ?_
        refine lv_iadd hx hb dX4_copyState_15 ?_
        refine lv_aload_n hx hb dX4_copyState_16 rfl (lv_at hl 0 rfl) ?_
        refine lv_iload_n hx hb dX4_copyState_17 rfl (lv_at hl 1 rfl) ?_
        refine lv_iload hx hb dX4_copyState_18 (lv_at hl 4 rfl) ?_
        refine lv_iadd hx hb dX4_copyState_20 ?_
        obtain ⟨i2, h⟩ := zi h
        refine za_ild hx hb hK hP 0 rfl _ rfl i2 dX4_copyState_21 ?_
        obtain ⟨i3, h⟩ := zi h
        refine za_ist hx hb hK hP hD hS 1 rfl _ rfl i3 dX4_copyState_22 (fun H locs hP hD hS => ?_)
        replace hP : zP g (zR2 g na nb qr qq ra (upd rb (v3 + v4).toNatClampNeg (ra (v1 + v4).toNatClampNeg))) H := hP
        replace hD : va_D A (zR2 g na nb qr qq ra (upd rb (v3 + v4).toNatClampNeg (ra (v1 + v4).toNatClampNeg))) := hD
        refine lv_iinc (v := (v4 + 1)) (lv' := [(4, .int (v4 + 1)), (0, .ref qr), (1, .int v1), (2, .ref qq), (3, .int v3)]) hx hb dX4_copyState_23 hl (k := 4) rfl rfl (by decide) rfl (fun ls hl => ?_)
        refine lv_goto (tgt := 3) hx hb dX4_copyState_26 (by decide) ?_
        exact ih v1 v3 (v4 + 1) (upd rb (v3 + v4).toNatClampNeg (ra (v1 + v4).toNatClampNeg)) h H locs hP hD hS ls (lv_sub hl [1, 2, 3, 4, 0] rfl)
  unfold fX4_copyState at h
  refine lv_iconst (v := 0) hx hb dX4_copyState_0 (by decide) ?_
  refine lv_istore (lv' := [(4, .int 0), (0, .ref qr), (1, .int a1), (2, .ref qq), (3, .int a3)]) hx hb dX4_copyState_1 hl (by decide) rfl (fun ls hl => ?_)
  exact loop_3 1000 a1 a3 0 rb h s.heap [] hP hD hS ls (lv_sub hl [1, 2, 3, 4, 0] rfl)
def fX4_begin_2  : Nat → Int32 → (Nat → Int32) → Option ((Nat → Int32))
  | 0, _, _ => none
  | n + 1, v1, ro =>
    if 785 ≤ v1 then
        some (upd (upd (upd (upd (upd ro 773 2) 774 2) 775 8) 776 3) 777 2)
      else
        if v1 < 512 then
          if v1 < 0 ∨ 785 ≤ v1.toNatClampNeg then none else
          fX4_begin_2 n (v1 + 1) (upd ro v1.toNatClampNeg 0)
        else
          if 768 ≤ v1 then
            if v1 < 0 ∨ 785 ≤ v1.toNatClampNeg then none else
            fX4_begin_2 n (v1 + 1) (upd ro v1.toNatClampNeg 0)
          else
            if v1 < 0 ∨ 785 ≤ v1.toNatClampNeg then none else
            fX4_begin_2 n (v1 + 1) (upd ro v1.toNatClampNeg (-1))
def fX4_begin (ro : Nat → Int32) : Option ((Nat → Int32)) :=
  fX4_begin_2 1000 0 ro
set_option maxRecDepth 100000 in
set_option maxHeartbeats 4000000 in
theorem kX4_begin (l : Launch) (g : zG) (qr : Nat) (ro : Nat → Int32) {ro' : Nat → Int32} (h : fX4_begin ro = some ro') : Mw l g yX4_begin wsX4_begin { frames := 0, cells := 0, slots := 0, locals := 0 } [.ref qr] (zR1 g qr ro) (zWv g (zR1 g qr ro')) := by
  refine zw_in (cc := cX4_begin) (maxL := 2) (ret := none) (by decide) rfl (Nat.le_of_ble_eq_true rfl) ?_
  intro p e s m below meth c hx hb hr hml hts hown hlocks hK A hA hP hD hS ls hl
  replace hl : lv_has ls 2 [(0, .ref qr)] := hl
  have loop_2 : ∀ (n : Nat) (v1 : Int32) (ro : (Nat → Int32)), fX4_begin_2 n v1 ro = some ro' → ∀ (H : Heap) (locs : List Loc), zP g (zR1 g qr ro) H → va_D A (zR1 g qr ro) → va_S A s.heap H locs → ∀ (ls : Array Slot), lv_has ls 2 [(0, .ref qr), (1, .int v1)] → W p l e ({ frames := 0, cells := 0, slots := 0, locals := 0 } : Room) s m [.ref qr].toArray below meth c H locs 0 0 (MQ below (zWv g (zR1 g qr ro') A) [.ref qr].toArray s 0 0 A) (F0 m 2 ls []) := by
    intro n
    induction n with
    | zero => intro v1 ro h H locs hP hD hS ls hl; exact zn h
    | succ n ih =>
      intro v1 ro h H locs hP hD hS ls hl
      rw [fX4_begin_2] at h
      refine lv_iload_n hx hb dX4_begin_2 rfl (lv_at hl 1 rfl) ?_
      refine lv_sipush (v := 785) hx hb dX4_begin_3 (by decide) ?_
      refine lv_icmp_ge (tgt := 37) hx hb dX4_begin_6 (by decide) (fun c1 => ?_) (fun c1 => ?_)
      · replace h := zt c1 h
        refine lv_aload_n hx hb dX4_begin_37 rfl (lv_at hl 0 rfl) ?_
        refine lv_sipush (v := 773) hx hb dX4_begin_38 (by decide) ?_
        refine lv_iconst (v := 2) hx hb dX4_begin_41 (by decide) ?_
        refine za_ist hx hb hK hP hD hS 0 rfl 773 (by decide) (by decide) dX4_begin_42 (fun H locs hP hD hS => ?_)
        replace hP : zP g (zR1 g qr (upd ro 773 2)) H := hP
        replace hD : va_D A (zR1 g qr (upd ro 773 2)) := hD
        refine lv_aload_n hx hb dX4_begin_43 rfl (lv_at hl 0 rfl) ?_
        refine lv_sipush (v := 774) hx hb dX4_begin_44 (by decide) ?_
        refine lv_iconst (v := 2) hx hb dX4_begin_47 (by decide) ?_
        refine za_ist hx hb hK hP hD hS 0 rfl 774 (by decide) (by decide) dX4_begin_48 (fun H locs hP hD hS => ?_)
        replace hP : zP g (zR1 g qr (upd (upd ro 773 2) 774 2)) H := hP
        replace hD : va_D A (zR1 g qr (upd (upd ro 773 2) 774 2)) := hD
        refine lv_aload_n hx hb dX4_begin_49 rfl (lv_at hl 0 rfl) ?_
        refine lv_sipush (v := 775) hx hb dX4_begin_50 (by decide) ?_
        refine lv_bipush (v := 8) hx hb dX4_begin_53 (by decide) ?_
        refine za_ist hx hb hK hP hD hS 0 rfl 775 (by decide) (by decide) dX4_begin_55 (fun H locs hP hD hS => ?_)
        replace hP : zP g (zR1 g qr (upd (upd (upd ro 773 2) 774 2) 775 8)) H := hP
        replace hD : va_D A (zR1 g qr (upd (upd (upd ro 773 2) 774 2) 775 8)) := hD
        refine lv_aload_n hx hb dX4_begin_56 rfl (lv_at hl 0 rfl) ?_
        refine lv_sipush (v := 776) hx hb dX4_begin_57 (by decide) ?_
        refine lv_iconst (v := 3) hx hb dX4_begin_60 (by decide) ?_
        refine za_ist hx hb hK hP hD hS 0 rfl 776 (by decide) (by decide) dX4_begin_61 (fun H locs hP hD hS => ?_)
        replace hP : zP g (zR1 g qr (upd (upd (upd (upd ro 773 2) 774 2) 775 8) 776 3)) H := hP
        replace hD : va_D A (zR1 g qr (upd (upd (upd (upd ro 773 2) 774 2) 775 8) 776 3)) := hD
        refine lv_aload_n hx hb dX4_begin_62 rfl (lv_at hl 0 rfl) ?_
        refine lv_sipush (v := 777) hx hb dX4_begin_63 (by decide) ?_
        refine lv_iconst (v := 2) hx hb dX4_begin_66 (by decide) ?_
        refine za_ist hx hb hK hP hD hS 0 rfl 777 (by decide) (by decide) dX4_begin_67 (fun H locs hP hD hS => ?_)
        replace hP : zP g (zR1 g qr (upd (upd (upd (upd (upd ro 773 2) 774 2) 775 8) 776 3) 777 2)) H := hP
        replace hD : va_D A (zR1 g qr (upd (upd (upd (upd (upd ro 773 2) 774 2) 775 8) 776 3) 777 2)) := hD
        cases h
        exact zw_v hx hb hr hlocks hP hS dX4_begin_68
      · replace h := zf c1 h
        refine lv_aload_n hx hb dX4_begin_9 rfl (lv_at hl 0 rfl) ?_
        refine lv_iload_n hx hb dX4_begin_10 rfl (lv_at hl 1 rfl) ?_
        refine lv_iload_n hx hb dX4_begin_11 rfl (lv_at hl 1 rfl) ?_
        refine lv_sipush (v := 512) hx hb dX4_begin_12 (by decide) ?_
        refine lv_icmp_lt (tgt := 29) hx hb dX4_begin_15 (by decide) (fun c2 => ?_) (fun c2 => ?_)
        · replace h := zt c2 h
          refine lv_iconst (v := 0) hx hb dX4_begin_29 (by decide) ?_
          obtain ⟨i3, h⟩ := zi h
          refine za_ist hx hb hK hP hD hS 0 rfl _ rfl i3 dX4_begin_30 (fun H locs hP hD hS => ?_)
          replace hP : zP g (zR1 g qr (upd ro v1.toNatClampNeg 0)) H := hP
          replace hD : va_D A (zR1 g qr (upd ro v1.toNatClampNeg 0)) := hD
          refine lv_iinc (v := (v1 + 1)) (lv' := [(1, .int (v1 + 1)), (0, .ref qr)]) hx hb dX4_begin_31 hl (k := 1) rfl rfl (by decide) rfl (fun ls hl => ?_)
          refine lv_goto (tgt := 2) hx hb dX4_begin_34 (by decide) ?_
          exact ih (v1 + 1) (upd ro v1.toNatClampNeg 0) h H locs hP hD hS ls (lv_sub hl [1, 0] rfl)
        · replace h := zf c2 h
          refine lv_iload_n hx hb dX4_begin_18 rfl (lv_at hl 1 rfl) ?_
          refine lv_sipush (v := 768) hx hb dX4_begin_19 (by decide) ?_
          refine lv_icmp_ge (tgt := 29) hx hb dX4_begin_22 (by decide) (fun c4 => ?_) (fun c4 => ?_)
          · replace h := zt c4 h
            refine lv_iconst (v := 0) hx hb dX4_begin_29 (by decide) ?_
            obtain ⟨i5, h⟩ := zi h
            refine za_ist hx hb hK hP hD hS 0 rfl _ rfl i5 dX4_begin_30 (fun H locs hP hD hS => ?_)
            replace hP : zP g (zR1 g qr (upd ro v1.toNatClampNeg 0)) H := hP
            replace hD : va_D A (zR1 g qr (upd ro v1.toNatClampNeg 0)) := hD
            refine lv_iinc (v := (v1 + 1)) (lv' := [(1, .int (v1 + 1)), (0, .ref qr)]) hx hb dX4_begin_31 hl (k := 1) rfl rfl (by decide) rfl (fun ls hl => ?_)
            refine lv_goto (tgt := 2) hx hb dX4_begin_34 (by decide) ?_
            exact ih (v1 + 1) (upd ro v1.toNatClampNeg 0) h H locs hP hD hS ls (lv_sub hl [1, 0] rfl)
          · replace h := zf c4 h
            refine lv_iconst (v := (-1)) hx hb dX4_begin_25 (by decide) ?_
            refine lv_goto (tgt := 30) hx hb dX4_begin_26 (by decide) ?_
            obtain ⟨i6, h⟩ := zi h
            refine za_ist hx hb hK hP hD hS 0 rfl _ rfl i6 dX4_begin_30 (fun H locs hP hD hS => ?_)
            replace hP : zP g (zR1 g qr (upd ro v1.toNatClampNeg (-1))) H := hP
            replace hD : va_D A (zR1 g qr (upd ro v1.toNatClampNeg (-1))) := hD
            refine lv_iinc (v := (v1 + 1)) (lv' := [(1, .int (v1 + 1)), (0, .ref qr)]) hx hb dX4_begin_31 hl (k := 1) rfl rfl (by decide) rfl (fun ls hl => ?_)
            refine lv_goto (tgt := 2) hx hb dX4_begin_34 (by decide) ?_
            exact ih (v1 + 1) (upd ro v1.toNatClampNeg (-1)) h H locs hP hD hS ls (lv_sub hl [1, 0] rfl)
  unfold fX4_begin at h
  refine lv_iconst (v := 0) hx hb dX4_begin_0 (by decide) ?_
  refine lv_istore_n (lv' := [(1, .int 0), (0, .ref qr)]) hx hb dX4_begin_1 rfl hl (by decide) rfl (fun ls hl => ?_)
  exact loop_2 1000 0 ro h s.heap [] hP hD hS ls (lv_sub hl [1, 0] rfl)
def fX4_isQueued (ro : Nat → Int32) (a1 : Int32) : Option (Int32) :=
  ob (fX4_isBlock a1) fun r1 =>
  if r1 = 0 then
    some 0
  else
    if (512 + a1) < 0 ∨ 785 ≤ (512 + a1).toNatClampNeg then none else
    if (ro (512 + a1).toNatClampNeg) = (-1) then
      some 0
    else
      some 1
set_option maxRecDepth 100000 in
set_option maxHeartbeats 4000000 in
theorem kX4_isQueued (l : Launch) (g : zG) (qr : Nat) (ro : Nat → Int32) (a1 : Int32) {r : Int32} (h : fX4_isQueued ro a1 = some r) : Mr l g yX4_isQueued wsX4_isQueued { frames := 2, cells := 0, slots := 0, locals := 45 } [.ref qr, .int a1] (zR1 g qr ro) (zQi r) := by
  refine zr_in (cc := cX4_isQueued) (maxL := 2) (ret := (some .boolean)) (by decide) rfl (Nat.le_of_ble_eq_true rfl) ?_
  intro p e s m below meth c hx hb hr hml hts hown hlocks hP hK ls hl
  replace hl : lv_has ls 2 [(0, .ref qr), (1, .int a1)] := hl
  unfold fX4_isQueued at h
  refine lv_iload_n hx hb dX4_isQueued_0 rfl (lv_at hl 1 rfl) ?_
  obtain ⟨r1, e1, h⟩ := zb h
  refine zS (As := [.int a1]) (rest := []) (zQi_q _) ⟨hx, hb, hml, hown, hts⟩ (kX4_isBlock l g a1 e1) (va_cwS 1 hts gX4_isQueued_X4_isBlock rfl rfl rfl hdS_X4_isBlock ⟨Nat.le_of_ble_eq_true rfl, Nat.le_of_ble_eq_true rfl⟩) hK hP [] rfl rfl hl.1 rfl (Nat.le_of_ble_eq_true rfl) ⟨Nat.zero_le _, Nat.zero_le _⟩ dX4_isQueued_1 ?_
  refine lv_if_eq (tgt := 22) hx hb dX4_isQueued_4 (by decide) (fun c2 => ?_) (fun c2 => ?_)
  · replace h := zt c2 h
    refine lv_iconst (v := 0) hx hb dX4_isQueued_22 (by decide) ?_
    cases h
    exact zr_z hx hb hr hlocks (by decide) dX4_isQueued_23
  · replace h := zf c2 h
    refine lv_aload_n hx hb dX4_isQueued_7 rfl (lv_at hl 0 rfl) ?_
    refine lv_sipush (v := 512) hx hb dX4_isQueued_8 (by decide) ?_
    refine lv_iload_n hx hb dX4_isQueued_11 rfl (lv_at hl 1 rfl) ?_
    refine lv_iadd hx hb dX4_isQueued_12 ?_
    obtain ⟨i3, h⟩ := zi h
    refine za_ild hx hb hK hP 0 rfl _ rfl i3 dX4_isQueued_13 ?_
    refine lv_iconst (v := (-1)) hx hb dX4_isQueued_14 (by decide) ?_
    refine lv_icmp_eq (tgt := 22) hx hb dX4_isQueued_15 (by decide) (fun c4 => ?_) (fun c4 => ?_)
    · replace h := zt c4 h
      refine lv_iconst (v := 0) hx hb dX4_isQueued_22 (by decide) ?_
      cases h
      exact zr_z hx hb hr hlocks (by decide) dX4_isQueued_23
    · replace h := zf c4 h
      refine lv_iconst (v := 1) hx hb dX4_isQueued_18 (by decide) ?_
      refine lv_goto (tgt := 23) hx hb dX4_isQueued_19 (by decide) ?_
      cases h
      exact zr_z hx hb hr hlocks (by decide) dX4_isQueued_23
def fX4_isPinned_2 (ro : Nat → Int32) : Nat → Int32 → Int32 → Option (Int32)
  | 0, _, _ => none
  | n + 1, v1, v2 =>
    if 3 ≤ v2 then
        some 0
      else
        if (779 + v2) < 0 ∨ 785 ≤ (779 + v2).toNatClampNeg then none else
        if v1 < (ro (779 + v2).toNatClampNeg) then
          fX4_isPinned_2 ro n v1 (v2 + 1)
        else
          if (779 + v2) < 0 ∨ 785 ≤ (779 + v2).toNatClampNeg then none else
          if (782 + v2) < 0 ∨ 785 ≤ (782 + v2).toNatClampNeg then none else
          if ((ro (779 + v2).toNatClampNeg) + (ro (782 + v2).toNatClampNeg)) ≤ v1 then
            fX4_isPinned_2 ro n v1 (v2 + 1)
          else
            some 1
def fX4_isPinned (ro : Nat → Int32) (a1 : Int32) : Option (Int32) :=
  fX4_isPinned_2 ro 1000 a1 0
set_option maxRecDepth 100000 in
set_option maxHeartbeats 4000000 in
theorem kX4_isPinned (l : Launch) (g : zG) (qr : Nat) (ro : Nat → Int32) (a1 : Int32) {r : Int32} (h : fX4_isPinned ro a1 = some r) : Mr l g yX4_isPinned wsX4_isPinned { frames := 0, cells := 0, slots := 0, locals := 0 } [.ref qr, .int a1] (zR1 g qr ro) (zQi r) := by
  refine zr_in (cc := cX4_isPinned) (maxL := 3) (ret := (some .boolean)) (by decide) rfl (Nat.le_of_ble_eq_true rfl) ?_
  intro p e s m below meth c hx hb hr hml hts hown hlocks hP hK ls hl
  replace hl : lv_has ls 3 [(0, .ref qr), (1, .int a1)] := hl
  have loop_2 : ∀ (n : Nat) (v1 : Int32) (v2 : Int32), fX4_isPinned_2 ro n v1 v2 = some r → ∀ (ls : Array Slot), lv_has ls 3 [(0, .ref qr), (1, .int v1), (2, .int v2)] → W p l e ({ frames := 0, cells := 0, slots := 0, locals := 0 } : Room) s m [.ref qr, .int a1].toArray below meth c s.heap [] 0 0 (MQ below (zQi r) [.ref qr, .int a1].toArray s 0 0 (fun _ => False)) (F0 m 2 ls []) := by
    intro n
    induction n with
    | zero => intro v1 v2 h ls hl; exact zn h
    | succ n ih =>
      intro v1 v2 h ls hl
      rw [fX4_isPinned_2] at h
      refine lv_iload_n hx hb dX4_isPinned_2 rfl (lv_at hl 2 rfl) ?_
      refine lv_iconst (v := 3) hx hb dX4_isPinned_3 (by decide) ?_
      refine lv_icmp_ge (tgt := 45) hx hb dX4_isPinned_4 (by decide) (fun c1 => ?_) (fun c1 => ?_)
      · replace h := zt c1 h
        refine lv_iconst (v := 0) hx hb dX4_isPinned_45 (by decide) ?_
        cases h
        exact zr_z hx hb hr hlocks (by decide) dX4_isPinned_46
      · replace h := zf c1 h
        refine lv_iload_n hx hb dX4_isPinned_7 rfl (lv_at hl 1 rfl) ?_
        refine lv_aload_n hx hb dX4_isPinned_8 rfl (lv_at hl 0 rfl) ?_
        refine lv_sipush (v := 779) hx hb dX4_isPinned_9 (by decide) ?_
        refine lv_iload_n hx hb dX4_isPinned_12 rfl (lv_at hl 2 rfl) ?_
        refine lv_iadd hx hb dX4_isPinned_13 ?_
        obtain ⟨i2, h⟩ := zi h
        refine za_ild hx hb hK hP 0 rfl _ rfl i2 dX4_isPinned_14 ?_
        refine lv_icmp_lt (tgt := 39) hx hb dX4_isPinned_15 (by decide) (fun c3 => ?_) (fun c3 => ?_)
        · replace h := zt c3 h
          refine lv_iinc (v := (v2 + 1)) (lv' := [(2, .int (v2 + 1)), (0, .ref qr), (1, .int v1)]) hx hb dX4_isPinned_39 hl (k := 2) rfl rfl (by decide) rfl (fun ls hl => ?_)
          refine lv_goto (tgt := 2) hx hb dX4_isPinned_42 (by decide) ?_
          exact ih v1 (v2 + 1) h ls (lv_sub hl [1, 2, 0] rfl)
        · replace h := zf c3 h
          refine lv_iload_n hx hb dX4_isPinned_18 rfl (lv_at hl 1 rfl) ?_
          refine lv_aload_n hx hb dX4_isPinned_19 rfl (lv_at hl 0 rfl) ?_
          refine lv_sipush (v := 779) hx hb dX4_isPinned_20 (by decide) ?_
          refine lv_iload_n hx hb dX4_isPinned_23 rfl (lv_at hl 2 rfl) ?_
          refine lv_iadd hx hb dX4_isPinned_24 ?_
          obtain ⟨i4, h⟩ := zi h
          refine za_ild hx hb hK hP 0 rfl _ rfl i4 dX4_isPinned_25 ?_
          refine lv_aload_n hx hb dX4_isPinned_26 rfl (lv_at hl 0 rfl) ?_
          refine lv_sipush (v := 782) hx hb dX4_isPinned_27 (by decide) ?_
          refine lv_iload_n hx hb dX4_isPinned_30 rfl (lv_at hl 2 rfl) ?_
          refine lv_iadd hx hb dX4_isPinned_31 ?_
          obtain ⟨i5, h⟩ := zi h
          refine za_ild hx hb hK hP 0 rfl _ rfl i5 dX4_isPinned_32 ?_
          refine lv_iadd hx hb dX4_isPinned_33 ?_
          refine lv_icmp_ge (tgt := 39) hx hb dX4_isPinned_34 (by decide) (fun c6 => ?_) (fun c6 => ?_)
          · replace h := zt c6 h
            refine lv_iinc (v := (v2 + 1)) (lv' := [(2, .int (v2 + 1)), (0, .ref qr), (1, .int v1)]) hx hb dX4_isPinned_39 hl (k := 2) rfl rfl (by decide) rfl (fun ls hl => ?_)
            refine lv_goto (tgt := 2) hx hb dX4_isPinned_42 (by decide) ?_
            exact ih v1 (v2 + 1) h ls (lv_sub hl [1, 2, 0] rfl)
          · replace h := zf c6 h
            refine lv_iconst (v := 1) hx hb dX4_isPinned_37 (by decide) ?_
            cases h
            exact zr_z hx hb hr hlocks (by decide) dX4_isPinned_38
  unfold fX4_isPinned at h
  refine lv_iconst (v := 0) hx hb dX4_isPinned_0 (by decide) ?_
  refine lv_istore_n (lv' := [(2, .int 0), (0, .ref qr), (1, .int a1)]) hx hb dX4_isPinned_1 rfl hl (by decide) rfl (fun ls hl => ?_)
  exact loop_2 1000 a1 0 h ls (lv_sub hl [1, 2, 0] rfl)
theorem hdS_X4_isPinned : yX4_isPinned.cls ≠ "java/lang/invoke/MethodHandle" ∧ yX4_isPinned.cls ≠ "java/lang/invoke/VarHandle" ∧ (parseMethodDescriptor yX4_isPinned.desc).map (fun d => d.parameters.length) = some 2 := by decide +kernel
def fX4_allPinned_4 (ro : Nat → Int32) : Nat → Int32 → Int32 → Option (Int32)
  | 0, _, _ => none
  | n + 1, v1, v2 =>
    if 256 ≤ v2 then
        some v1
      else
        ob (fX4_isPinned ro v2) fun r2 =>
        if r2 = 0 then
          fX4_allPinned_4 ro n (v1 + 0) (v2 + 1)
        else
          fX4_allPinned_4 ro n (v1 + 1) (v2 + 1)
def fX4_allPinned (ro : Nat → Int32) : Option (Int32) :=
  fX4_allPinned_4 ro 1000 0 0
set_option maxRecDepth 100000 in
set_option maxHeartbeats 4000000 in
theorem kX4_allPinned (l : Launch) (g : zG) (qr : Nat) (ro : Nat → Int32) {r : Int32} (h : fX4_allPinned ro = some r) : Mr l g yX4_allPinned wsX4_allPinned { frames := 1, cells := 0, slots := 0, locals := 22 } [.ref qr] (zR1 g qr ro) (zQi r) := by
  refine zr_in (cc := cX4_allPinned) (maxL := 3) (ret := (some .int)) (by decide) rfl (Nat.le_of_ble_eq_true rfl) ?_
  intro p e s m below meth c hx hb hr hml hts hown hlocks hP hK ls hl
  replace hl : lv_has ls 3 [(0, .ref qr)] := hl
  have loop_4 : ∀ (n : Nat) (v1 : Int32) (v2 : Int32), fX4_allPinned_4 ro n v1 v2 = some r → ∀ (ls : Array Slot), lv_has ls 3 [(0, .ref qr), (1, .int v1), (2, .int v2)] → W p l e ({ frames := 1, cells := 0, slots := 0, locals := 22 } : Room) s m [.ref qr].toArray below meth c s.heap [] 0 0 (MQ below (zQi r) [.ref qr].toArray s 0 0 (fun _ => False)) (F0 m 4 ls []) := by
    intro n
    induction n with
    | zero => intro v1 v2 h ls hl; exact zn h
    | succ n ih =>
      intro v1 v2 h ls hl
      rw [fX4_allPinned_4] at h
      refine lv_iload_n hx hb dX4_allPinned_4 rfl (lv_at hl 2 rfl) ?_
      refine lv_sipush (v := 256) hx hb dX4_allPinned_5 (by decide) ?_
      refine lv_icmp_ge (tgt := 33) hx hb dX4_allPinned_8 (by decide) (fun c1 => ?_) (fun c1 => ?_)
      · replace h := zt c1 h
        refine lv_iload_n hx hb dX4_allPinned_33 rfl (lv_at hl 1 rfl) ?_
        cases h
        exact zr_i hx hb hr hlocks dX4_allPinned_34
      · replace h := zf c1 h
        refine lv_iload_n hx hb dX4_allPinned_11 rfl (lv_at hl 1 rfl) ?_
        refine lv_aload_n hx hb dX4_allPinned_12 rfl (lv_at hl 0 rfl) ?_
        refine lv_iload_n hx hb dX4_allPinned_13 rfl (lv_at hl 2 rfl) ?_
        obtain ⟨r2, e2, h⟩ := zb h
        refine zS (As := [.ref qr, .int v2]) (rest := [.int v1]) (zQi_q _) ⟨hx, hb, hml, hown, hts⟩ (kX4_isPinned l g qr ro v2 e2) (va_cwS 2 hts gX4_allPinned_X4_isPinned rfl rfl rfl hdS_X4_isPinned ⟨Nat.le_of_ble_eq_true rfl, Nat.le_of_ble_eq_true rfl⟩) hK hP [0] rfl rfl hl.1 rfl (Nat.le_of_ble_eq_true rfl) ⟨Nat.zero_le _, Nat.zero_le _⟩ dX4_allPinned_14 ?_
        refine lv_if_eq (tgt := 24) hx hb dX4_allPinned_17 (by decide) (fun c3 => ?_) (fun c3 => ?_)
        · replace h := zt c3 h
          refine lv_iconst (v := 0) hx hb dX4_allPinned_24 (by decide) ?_
          refine lv_iadd hx hb dX4_allPinned_25 ?_
          refine lv_istore_n (lv' := [(1, .int (v1 + 0)), (0, .ref qr), (2, .int v2)]) hx hb dX4_allPinned_26 rfl hl (by decide) rfl (fun ls hl => ?_)
          refine lv_iinc (v := (v2 + 1)) (lv' := [(2, .int (v2 + 1)), (1, .int (v1 + 0)), (0, .ref qr)]) hx hb dX4_allPinned_27 hl (k := 2) rfl rfl (by decide) rfl (fun ls hl => ?_)
          refine lv_goto (tgt := 4) hx hb dX4_allPinned_30 (by decide) ?_
          exact ih (v1 + 0) (v2 + 1) h ls (lv_sub hl [2, 1, 0] rfl)
        · replace h := zf c3 h
          refine lv_iconst (v := 1) hx hb dX4_allPinned_20 (by decide) ?_
          refine lv_goto (tgt := 25) hx hb dX4_allPinned_21 (by decide) ?_
          refine lv_iadd hx hb dX4_allPinned_25 ?_
          refine lv_istore_n (lv' := [(1, .int (v1 + 1)), (0, .ref qr), (2, .int v2)]) hx hb dX4_allPinned_26 rfl hl (by decide) rfl (fun ls hl => ?_)
          refine lv_iinc (v := (v2 + 1)) (lv' := [(2, .int (v2 + 1)), (1, .int (v1 + 1)), (0, .ref qr)]) hx hb dX4_allPinned_27 hl (k := 2) rfl rfl (by decide) rfl (fun ls hl => ?_)
          refine lv_goto (tgt := 4) hx hb dX4_allPinned_30 (by decide) ?_
          exact ih (v1 + 1) (v2 + 1) h ls (lv_sub hl [2, 1, 0] rfl)
  unfold fX4_allPinned at h
  refine lv_iconst (v := 0) hx hb dX4_allPinned_0 (by decide) ?_
  refine lv_istore_n (lv' := [(1, .int 0), (0, .ref qr)]) hx hb dX4_allPinned_1 rfl hl (by decide) rfl (fun ls hl => ?_)
  refine lv_iconst (v := 0) hx hb dX4_allPinned_2 (by decide) ?_
  refine lv_istore_n (lv' := [(2, .int 0), (1, .int 0), (0, .ref qr)]) hx hb dX4_allPinned_3 rfl hl (by decide) rfl (fun ls hl => ?_)
  exact loop_4 1000 0 0 h ls (lv_sub hl [2, 1, 0] rfl)
theorem hdS_X4_isQueued : yX4_isQueued.cls ≠ "java/lang/invoke/MethodHandle" ∧ yX4_isQueued.cls ≠ "java/lang/invoke/VarHandle" ∧ (parseMethodDescriptor yX4_isQueued.desc).map (fun d => d.parameters.length) = some 2 := by decide +kernel
def fX4_begins (ro : Nat → Int32) (a1 : Int32) : Option (Int32) :=
  ob (fX4_isQueued ro a1) fun r1 =>
  if r1 = 0 then
    some 0
  else
    ob (fX4_isQueued ro (a1 - 1)) fun r3 =>
    if r3 = 0 then
      some 1
    else
      some 0
set_option maxRecDepth 100000 in
set_option maxHeartbeats 4000000 in
theorem kX4_begins (l : Launch) (g : zG) (qr : Nat) (ro : Nat → Int32) (a1 : Int32) {r : Int32} (h : fX4_begins ro a1 = some r) : Mr l g yX4_begins wsX4_begins { frames := 3, cells := 0, slots := 0, locals := 66 } [.ref qr, .int a1] (zR1 g qr ro) (zQi r) := by
  refine zr_in (cc := cX4_begins) (maxL := 2) (ret := (some .boolean)) (by decide) rfl (Nat.le_of_ble_eq_true rfl) ?_
  intro p e s m below meth c hx hb hr hml hts hown hlocks hP hK ls hl
  replace hl : lv_has ls 2 [(0, .ref qr), (1, .int a1)] := hl
  unfold fX4_begins at h
  refine lv_aload_n hx hb dX4_begins_0 rfl (lv_at hl 0 rfl) ?_
  refine lv_iload_n hx hb dX4_begins_1 rfl (lv_at hl 1 rfl) ?_
  obtain ⟨r1, e1, h⟩ := zb h
  refine zS (As := [.ref qr, .int a1]) (rest := []) (zQi_q _) ⟨hx, hb, hml, hown, hts⟩ (kX4_isQueued l g qr ro a1 e1) (va_cwS 2 hts gX4_begins_X4_isQueued rfl rfl rfl hdS_X4_isQueued ⟨Nat.le_of_ble_eq_true rfl, Nat.le_of_ble_eq_true rfl⟩) hK hP [0] rfl rfl hl.1 rfl (Nat.le_of_ble_eq_true rfl) ⟨Nat.zero_le _, Nat.zero_le _⟩ dX4_begins_2 ?_
  refine lv_if_eq (tgt := 22) hx hb dX4_begins_5 (by decide) (fun c2 => ?_) (fun c2 => ?_)
  · replace h := zt c2 h
    refine lv_iconst (v := 0) hx hb dX4_begins_22 (by decide) ?_
    cases h
    exact zr_z hx hb hr hlocks (by decide) dX4_begins_23
  · replace h := zf c2 h
    refine lv_aload_n hx hb dX4_begins_8 rfl (lv_at hl 0 rfl) ?_
    refine lv_iload_n hx hb dX4_begins_9 rfl (lv_at hl 1 rfl) ?_
    refine lv_iconst (v := 1) hx hb dX4_begins_10 (by decide) ?_
    refine lv_isub hx hb dX4_begins_11 ?_
    obtain ⟨r3, e3, h⟩ := zb h
    refine zS (As := [.ref qr, .int (a1 - 1)]) (rest := []) (zQi_q _) ⟨hx, hb, hml, hown, hts⟩ (kX4_isQueued l g qr ro (a1 - 1) e3) (va_cwS 2 hts gX4_begins_X4_isQueued rfl rfl rfl hdS_X4_isQueued ⟨Nat.le_of_ble_eq_true rfl, Nat.le_of_ble_eq_true rfl⟩) hK hP [0] rfl rfl hl.1 rfl (Nat.le_of_ble_eq_true rfl) ⟨Nat.zero_le _, Nat.zero_le _⟩ dX4_begins_12 ?_
    refine lv_if_ne (tgt := 22) hx hb dX4_begins_15 (by decide) (fun c4 => ?_) (fun c4 => ?_)
    · replace h := zf c4 h
      refine lv_iconst (v := 0) hx hb dX4_begins_22 (by decide) ?_
      cases h
      exact zr_z hx hb hr hlocks (by decide) dX4_begins_23
    · replace h := zt c4 h
      refine lv_iconst (v := 1) hx hb dX4_begins_18 (by decide) ?_
      refine lv_goto (tgt := 23) hx hb dX4_begins_19 (by decide) ?_
      cases h
      exact zr_z hx hb hr hlocks (by decide) dX4_begins_23
theorem hdS_X4_begins : yX4_begins.cls ≠ "java/lang/invoke/MethodHandle" ∧ yX4_begins.cls ≠ "java/lang/invoke/VarHandle" ∧ (parseMethodDescriptor yX4_begins.desc).map (fun d => d.parameters.length) = some 2 := by decide +kernel
def fX4_ranges_4 (ro : Nat → Int32) : Nat → Int32 → Int32 → Option (Int32)
  | 0, _, _ => none
  | n + 1, v1, v2 =>
    if 256 ≤ v2 then
        some v1
      else
        ob (fX4_begins ro v2) fun r2 =>
        if r2 = 0 then
          fX4_ranges_4 ro n (v1 + 0) (v2 + 1)
        else
          fX4_ranges_4 ro n (v1 + 1) (v2 + 1)
def fX4_ranges (ro : Nat → Int32) : Option (Int32) :=
  fX4_ranges_4 ro 1000 0 0
set_option maxRecDepth 100000 in
set_option maxHeartbeats 4000000 in
theorem kX4_ranges (l : Launch) (g : zG) (qr : Nat) (ro : Nat → Int32) {r : Int32} (h : fX4_ranges ro = some r) : Mr l g yX4_ranges wsX4_ranges { frames := 4, cells := 0, slots := 0, locals := 87 } [.ref qr] (zR1 g qr ro) (zQi r) := by
  refine zr_in (cc := cX4_ranges) (maxL := 3) (ret := (some .int)) (by decide) rfl (Nat.le_of_ble_eq_true rfl) ?_
  intro p e s m below meth c hx hb hr hml hts hown hlocks hP hK ls hl
  replace hl : lv_has ls 3 [(0, .ref qr)] := hl
  have loop_4 : ∀ (n : Nat) (v1 : Int32) (v2 : Int32), fX4_ranges_4 ro n v1 v2 = some r → ∀ (ls : Array Slot), lv_has ls 3 [(0, .ref qr), (1, .int v1), (2, .int v2)] → W p l e ({ frames := 4, cells := 0, slots := 0, locals := 87 } : Room) s m [.ref qr].toArray below meth c s.heap [] 0 0 (MQ below (zQi r) [.ref qr].toArray s 0 0 (fun _ => False)) (F0 m 4 ls []) := by
    intro n
    induction n with
    | zero => intro v1 v2 h ls hl; exact zn h
    | succ n ih =>
      intro v1 v2 h ls hl
      rw [fX4_ranges_4] at h
      refine lv_iload_n hx hb dX4_ranges_4 rfl (lv_at hl 2 rfl) ?_
      refine lv_sipush (v := 256) hx hb dX4_ranges_5 (by decide) ?_
      refine lv_icmp_ge (tgt := 33) hx hb dX4_ranges_8 (by decide) (fun c1 => ?_) (fun c1 => ?_)
      · replace h := zt c1 h
        refine lv_iload_n hx hb dX4_ranges_33 rfl (lv_at hl 1 rfl) ?_
        cases h
        exact zr_i hx hb hr hlocks dX4_ranges_34
      · replace h := zf c1 h
        refine lv_iload_n hx hb dX4_ranges_11 rfl (lv_at hl 1 rfl) ?_
        refine lv_aload_n hx hb dX4_ranges_12 rfl (lv_at hl 0 rfl) ?_
        refine lv_iload_n hx hb dX4_ranges_13 rfl (lv_at hl 2 rfl) ?_
        obtain ⟨r2, e2, h⟩ := zb h
        refine zS (As := [.ref qr, .int v2]) (rest := [.int v1]) (zQi_q _) ⟨hx, hb, hml, hown, hts⟩ (kX4_begins l g qr ro v2 e2) (va_cwS 2 hts gX4_ranges_X4_begins rfl rfl rfl hdS_X4_begins ⟨Nat.le_of_ble_eq_true rfl, Nat.le_of_ble_eq_true rfl⟩) hK hP [0] rfl rfl hl.1 rfl (Nat.le_of_ble_eq_true rfl) ⟨Nat.zero_le _, Nat.zero_le _⟩ dX4_ranges_14 ?_
        refine lv_if_eq (tgt := 24) hx hb dX4_ranges_17 (by decide) (fun c3 => ?_) (fun c3 => ?_)
        · replace h := zt c3 h
          refine lv_iconst (v := 0) hx hb dX4_ranges_24 (by decide) ?_
          refine lv_iadd hx hb dX4_ranges_25 ?_
          refine lv_istore_n (lv' := [(1, .int (v1 + 0)), (0, .ref qr), (2, .int v2)]) hx hb dX4_ranges_26 rfl hl (by decide) rfl (fun ls hl => ?_)
          refine lv_iinc (v := (v2 + 1)) (lv' := [(2, .int (v2 + 1)), (1, .int (v1 + 0)), (0, .ref qr)]) hx hb dX4_ranges_27 hl (k := 2) rfl rfl (by decide) rfl (fun ls hl => ?_)
          refine lv_goto (tgt := 4) hx hb dX4_ranges_30 (by decide) ?_
          exact ih (v1 + 0) (v2 + 1) h ls (lv_sub hl [2, 1, 0] rfl)
        · replace h := zf c3 h
          refine lv_iconst (v := 1) hx hb dX4_ranges_20 (by decide) ?_
          refine lv_goto (tgt := 25) hx hb dX4_ranges_21 (by decide) ?_
          refine lv_iadd hx hb dX4_ranges_25 ?_
          refine lv_istore_n (lv' := [(1, .int (v1 + 1)), (0, .ref qr), (2, .int v2)]) hx hb dX4_ranges_26 rfl hl (by decide) rfl (fun ls hl => ?_)
          refine lv_iinc (v := (v2 + 1)) (lv' := [(2, .int (v2 + 1)), (1, .int (v1 + 1)), (0, .ref qr)]) hx hb dX4_ranges_27 hl (k := 2) rfl rfl (by decide) rfl (fun ls hl => ?_)
          refine lv_goto (tgt := 4) hx hb dX4_ranges_30 (by decide) ?_
          exact ih (v1 + 1) (v2 + 1) h ls (lv_sub hl [2, 1, 0] rfl)
  unfold fX4_ranges at h
  refine lv_iconst (v := 0) hx hb dX4_ranges_0 (by decide) ?_
  refine lv_istore_n (lv' := [(1, .int 0), (0, .ref qr)]) hx hb dX4_ranges_1 rfl hl (by decide) rfl (fun ls hl => ?_)
  refine lv_iconst (v := 0) hx hb dX4_ranges_2 (by decide) ?_
  refine lv_istore_n (lv' := [(2, .int 0), (1, .int 0), (0, .ref qr)]) hx hb dX4_ranges_3 rfl hl (by decide) rfl (fun ls hl => ?_)
  exact loop_4 1000 0 0 h ls (lv_sub hl [2, 1, 0] rfl)
def fX4_queuedBlocks_4 (ro : Nat → Int32) : Nat → Int32 → Int32 → Option (Int32)
  | 0, _, _ => none
  | n + 1, v1, v2 =>
    if 256 ≤ v2 then
        some v1
      else
        ob (fX4_isQueued ro v2) fun r2 =>
        if r2 = 0 then
          fX4_queuedBlocks_4 ro n (v1 + 0) (v2 + 1)
        else
          fX4_queuedBlocks_4 ro n (v1 + 1) (v2 + 1)
def fX4_queuedBlocks (ro : Nat → Int32) : Option (Int32) :=
  fX4_queuedBlocks_4 ro 1000 0 0
set_option maxRecDepth 100000 in
set_option maxHeartbeats 4000000 in
theorem kX4_queuedBlocks (l : Launch) (g : zG) (qr : Nat) (ro : Nat → Int32) {r : Int32} (h : fX4_queuedBlocks ro = some r) : Mr l g yX4_queuedBlocks wsX4_queuedBlocks { frames := 3, cells := 0, slots := 0, locals := 66 } [.ref qr] (zR1 g qr ro) (zQi r) := by
  refine zr_in (cc := cX4_queuedBlocks) (maxL := 3) (ret := (some .int)) (by decide) rfl (Nat.le_of_ble_eq_true rfl) ?_
  intro p e s m below meth c hx hb hr hml hts hown hlocks hP hK ls hl
  replace hl : lv_has ls 3 [(0, .ref qr)] := hl
  have loop_4 : ∀ (n : Nat) (v1 : Int32) (v2 : Int32), fX4_queuedBlocks_4 ro n v1 v2 = some r → ∀ (ls : Array Slot), lv_has ls 3 [(0, .ref qr), (1, .int v1), (2, .int v2)] → W p l e ({ frames := 3, cells := 0, slots := 0, locals := 66 } : Room) s m [.ref qr].toArray below meth c s.heap [] 0 0 (MQ below (zQi r) [.ref qr].toArray s 0 0 (fun _ => False)) (F0 m 4 ls []) := by
    intro n
    induction n with
    | zero => intro v1 v2 h ls hl; exact zn h
    | succ n ih =>
      intro v1 v2 h ls hl
      rw [fX4_queuedBlocks_4] at h
      refine lv_iload_n hx hb dX4_queuedBlocks_4 rfl (lv_at hl 2 rfl) ?_
      refine lv_sipush (v := 256) hx hb dX4_queuedBlocks_5 (by decide) ?_
      refine lv_icmp_ge (tgt := 33) hx hb dX4_queuedBlocks_8 (by decide) (fun c1 => ?_) (fun c1 => ?_)
      · replace h := zt c1 h
        refine lv_iload_n hx hb dX4_queuedBlocks_33 rfl (lv_at hl 1 rfl) ?_
        cases h
        exact zr_i hx hb hr hlocks dX4_queuedBlocks_34
      · replace h := zf c1 h
        refine lv_iload_n hx hb dX4_queuedBlocks_11 rfl (lv_at hl 1 rfl) ?_
        refine lv_aload_n hx hb dX4_queuedBlocks_12 rfl (lv_at hl 0 rfl) ?_
        refine lv_iload_n hx hb dX4_queuedBlocks_13 rfl (lv_at hl 2 rfl) ?_
        obtain ⟨r2, e2, h⟩ := zb h
        refine zS (As := [.ref qr, .int v2]) (rest := [.int v1]) (zQi_q _) ⟨hx, hb, hml, hown, hts⟩ (kX4_isQueued l g qr ro v2 e2) (va_cwS 2 hts gX4_queuedBlocks_X4_isQueued rfl rfl rfl hdS_X4_isQueued ⟨Nat.le_of_ble_eq_true rfl, Nat.le_of_ble_eq_true rfl⟩) hK hP [0] rfl rfl hl.1 rfl (Nat.le_of_ble_eq_true rfl) ⟨Nat.zero_le _, Nat.zero_le _⟩ dX4_queuedBlocks_14 ?_
        refine lv_if_eq (tgt := 24) hx hb dX4_queuedBlocks_17 (by decide) (fun c3 => ?_) (fun c3 => ?_)
        · replace h := zt c3 h
          refine lv_iconst (v := 0) hx hb dX4_queuedBlocks_24 (by decide) ?_
          refine lv_iadd hx hb dX4_queuedBlocks_25 ?_
          refine lv_istore_n (lv' := [(1, .int (v1 + 0)), (0, .ref qr), (2, .int v2)]) hx hb dX4_queuedBlocks_26 rfl hl (by decide) rfl (fun ls hl => ?_)
          refine lv_iinc (v := (v2 + 1)) (lv' := [(2, .int (v2 + 1)), (1, .int (v1 + 0)), (0, .ref qr)]) hx hb dX4_queuedBlocks_27 hl (k := 2) rfl rfl (by decide) rfl (fun ls hl => ?_)
          refine lv_goto (tgt := 4) hx hb dX4_queuedBlocks_30 (by decide) ?_
          exact ih (v1 + 0) (v2 + 1) h ls (lv_sub hl [2, 1, 0] rfl)
        · replace h := zf c3 h
          refine lv_iconst (v := 1) hx hb dX4_queuedBlocks_20 (by decide) ?_
          refine lv_goto (tgt := 25) hx hb dX4_queuedBlocks_21 (by decide) ?_
          refine lv_iadd hx hb dX4_queuedBlocks_25 ?_
          refine lv_istore_n (lv' := [(1, .int (v1 + 1)), (0, .ref qr), (2, .int v2)]) hx hb dX4_queuedBlocks_26 rfl hl (by decide) rfl (fun ls hl => ?_)
          refine lv_iinc (v := (v2 + 1)) (lv' := [(2, .int (v2 + 1)), (1, .int (v1 + 1)), (0, .ref qr)]) hx hb dX4_queuedBlocks_27 hl (k := 2) rfl rfl (by decide) rfl (fun ls hl => ?_)
          refine lv_goto (tgt := 4) hx hb dX4_queuedBlocks_30 (by decide) ?_
          exact ih (v1 + 1) (v2 + 1) h ls (lv_sub hl [2, 1, 0] rfl)
  unfold fX4_queuedBlocks at h
  refine lv_iconst (v := 0) hx hb dX4_queuedBlocks_0 (by decide) ?_
  refine lv_istore_n (lv' := [(1, .int 0), (0, .ref qr)]) hx hb dX4_queuedBlocks_1 rfl hl (by decide) rfl (fun ls hl => ?_)
  refine lv_iconst (v := 0) hx hb dX4_queuedBlocks_2 (by decide) ?_
  refine lv_istore_n (lv' := [(2, .int 0), (1, .int 0), (0, .ref qr)]) hx hb dX4_queuedBlocks_3 rfl hl (by decide) rfl (fun ls hl => ?_)
  exact loop_4 1000 0 0 h ls (lv_sub hl [2, 1, 0] rfl)
def fX4_endOf_2 (ro : Nat → Int32) : Nat → Int32 → Option (Int32)
  | 0, _ => none
  | n + 1, v2 =>
    ob (fX4_isQueued ro v2) fun r1 =>
      if r1 = 0 then
        some v2
      else
        fX4_endOf_2 ro n (v2 + 1)
def fX4_endOf (ro : Nat → Int32) (a1 : Int32) : Option (Int32) :=
  fX4_endOf_2 ro 1000 a1
set_option maxRecDepth 100000 in
set_option maxHeartbeats 4000000 in
theorem kX4_endOf (l : Launch) (g : zG) (qr : Nat) (ro : Nat → Int32) (a1 : Int32) {r : Int32} (h : fX4_endOf ro a1 = some r) : Mr l g yX4_endOf wsX4_endOf { frames := 3, cells := 0, slots := 0, locals := 66 } [.ref qr, .int a1] (zR1 g qr ro) (zQi r) := by
  refine zr_in (cc := cX4_endOf) (maxL := 3) (ret := (some .int)) (by decide) rfl (Nat.le_of_ble_eq_true rfl) ?_
  intro p e s m below meth c hx hb hr hml hts hown hlocks hP hK ls hl
  replace hl : lv_has ls 3 [(0, .ref qr), (1, .int a1)] := hl
  have loop_2 : ∀ (n : Nat) (v2 : Int32), fX4_endOf_2 ro n v2 = some r → ∀ (ls : Array Slot), lv_has ls 3 [(0, .ref qr), (2, .int v2)] → W p l e ({ frames := 3, cells := 0, slots := 0, locals := 66 } : Room) s m [.ref qr, .int a1].toArray below meth c s.heap [] 0 0 (MQ below (zQi r) [.ref qr, .int a1].toArray s 0 0 (fun _ => False)) (F0 m 2 ls []) := by
    intro n
    induction n with
    | zero => intro v2 h ls hl; exact zn h
    | succ n ih =>
      intro v2 h ls hl
      rw [fX4_endOf_2] at h
      refine lv_aload_n hx hb dX4_endOf_2 rfl (lv_at hl 0 rfl) ?_
      refine lv_iload_n hx hb dX4_endOf_3 rfl (lv_at hl 1 rfl) ?_
      obtain ⟨r1, e1, h⟩ := zb h
      refine zS (As := [.ref qr, .int v2]) (rest := []) (zQi_q _) ⟨hx, hb, hml, hown, hts⟩ (kX4_isQueued l g qr ro v2 e1) (va_cwS 2 hts gX4_endOf_X4_isQueued rfl rfl rfl hdS_X4_isQueued ⟨Nat.le_of_ble_eq_true rfl, Nat.le_of_ble_eq_true rfl⟩) hK hP [0] rfl rfl hl.1 rfl (Nat.le_of_ble_eq_true rfl) ⟨Nat.zero_le _, Nat.zero_le _⟩ dX4_endOf_4 ?_
      refine lv_if_eq (tgt := 16) hx hb dX4_endOf_7 (by decide) (fun c2 => ?_) (fun c2 => ?_)
      · replace h := zt c2 h
        refine lv_iload_n hx hb dX4_endOf_16 rfl (lv_at hl 1 rfl) ?_
        cases h
        exact zr_i hx hb hr hlocks dX4_endOf_17
      · replace h := zf c2 h
        refine lv_iinc (v := (v2 + 1)) (lv' := [(2, .int (v2 + 1)), (0, .ref qr)]) hx hb dX4_endOf_10 hl (k := 1) rfl rfl (by decide) rfl (fun ls hl => ?_)
        refine lv_goto (tgt := 2) hx hb dX4_endOf_13 (by decide) ?_
        exact ih (v2 + 1) h ls (lv_sub hl [1, 0] rfl)
  unfold fX4_endOf at h
  refine lv_iload_n hx hb dX4_endOf_0 rfl (lv_at hl 1 rfl) ?_
  refine lv_istore_n (lv' := [(2, .int a1), (0, .ref qr), (1, .int a1)]) hx hb dX4_endOf_1 rfl hl (by decide) rfl (fun ls hl => ?_)
  exact loop_2 1000 a1 h ls (lv_sub hl [1, 0] rfl)
def fX4_startOf_2 (ro : Nat → Int32) : Nat → Int32 → Option (Int32)
  | 0, _ => none
  | n + 1, v2 =>
    ob (fX4_isQueued ro (v2 - 1)) fun r1 =>
      if r1 = 0 then
        some v2
      else
        fX4_startOf_2 ro n (v2 + (-1))
def fX4_startOf (ro : Nat → Int32) (a1 : Int32) : Option (Int32) :=
  fX4_startOf_2 ro 1000 a1
set_option maxRecDepth 100000 in
set_option maxHeartbeats 4000000 in
theorem kX4_startOf (l : Launch) (g : zG) (qr : Nat) (ro : Nat → Int32) (a1 : Int32) {r : Int32} (h : fX4_startOf ro a1 = some r) : Mr l g yX4_startOf wsX4_startOf { frames := 3, cells := 0, slots := 0, locals := 66 } [.ref qr, .int a1] (zR1 g qr ro) (zQi r) := by
  refine zr_in (cc := cX4_startOf) (maxL := 3) (ret := (some .int)) (by decide) rfl (Nat.le_of_ble_eq_true rfl) ?_
  intro p e s m below meth c hx hb hr hml hts hown hlocks hP hK ls hl
  replace hl : lv_has ls 3 [(0, .ref qr), (1, .int a1)] := hl
  have loop_2 : ∀ (n : Nat) (v2 : Int32), fX4_startOf_2 ro n v2 = some r → ∀ (ls : Array Slot), lv_has ls 3 [(0, .ref qr), (2, .int v2)] → W p l e ({ frames := 3, cells := 0, slots := 0, locals := 66 } : Room) s m [.ref qr, .int a1].toArray below meth c s.heap [] 0 0 (MQ below (zQi r) [.ref qr, .int a1].toArray s 0 0 (fun _ => False)) (F0 m 2 ls []) := by
    intro n
    induction n with
    | zero => intro v2 h ls hl; exact zn h
    | succ n ih =>
      intro v2 h ls hl
      rw [fX4_startOf_2] at h
      refine lv_aload_n hx hb dX4_startOf_2 rfl (lv_at hl 0 rfl) ?_
      refine lv_iload_n hx hb dX4_startOf_3 rfl (lv_at hl 1 rfl) ?_
      refine lv_iconst (v := 1) hx hb dX4_startOf_4 (by decide) ?_
      refine lv_isub hx hb dX4_startOf_5 ?_
      obtain ⟨r1, e1, h⟩ := zb h
      refine zS (As := [.ref qr, .int (v2 - 1)]) (rest := []) (zQi_q _) ⟨hx, hb, hml, hown, hts⟩ (kX4_isQueued l g qr ro (v2 - 1) e1) (va_cwS 2 hts gX4_startOf_X4_isQueued rfl rfl rfl hdS_X4_isQueued ⟨Nat.le_of_ble_eq_true rfl, Nat.le_of_ble_eq_true rfl⟩) hK hP [0] rfl rfl hl.1 rfl (Nat.le_of_ble_eq_true rfl) ⟨Nat.zero_le _, Nat.zero_le _⟩ dX4_startOf_6 ?_
      refine lv_if_eq (tgt := 18) hx hb dX4_startOf_9 (by decide) (fun c2 => ?_) (fun c2 => ?_)
      · replace h := zt c2 h
        refine lv_iload_n hx hb dX4_startOf_18 rfl (lv_at hl 1 rfl) ?_
        cases h
        exact zr_i hx hb hr hlocks dX4_startOf_19
      · replace h := zf c2 h
        refine lv_iinc (v := (v2 + (-1))) (lv' := [(2, .int (v2 + (-1))), (0, .ref qr)]) hx hb dX4_startOf_12 hl (k := 1) rfl rfl (by decide) rfl (fun ls hl => ?_)
        refine lv_goto (tgt := 2) hx hb dX4_startOf_15 (by decide) ?_
        exact ih (v2 + (-1)) h ls (lv_sub hl [1, 0] rfl)
  unfold fX4_startOf at h
  refine lv_iload_n hx hb dX4_startOf_0 rfl (lv_at hl 1 rfl) ?_
  refine lv_istore_n (lv' := [(2, .int a1), (0, .ref qr), (1, .int a1)]) hx hb dX4_startOf_1 rfl hl (by decide) rfl (fun ls hl => ?_)
  exact loop_2 1000 a1 h ls (lv_sub hl [1, 0] rfl)
theorem hdS_X4_endOf : yX4_endOf.cls ≠ "java/lang/invoke/MethodHandle" ∧ yX4_endOf.cls ≠ "java/lang/invoke/VarHandle" ∧ (parseMethodDescriptor yX4_endOf.desc).map (fun d => d.parameters.length) = some 2 := by decide +kernel
theorem hdS_X4_ranges : yX4_ranges.cls ≠ "java/lang/invoke/MethodHandle" ∧ yX4_ranges.cls ≠ "java/lang/invoke/VarHandle" ∧ (parseMethodDescriptor yX4_ranges.desc).map (fun d => d.parameters.length) = some 1 := by decide +kernel
def fX4_limit_66  : Nat → Int32 → Int32 → (Nat → Int32) → Option ((Nat → Int32))
  | 0, _, _, _ => none
  | n + 1, v2, v3, ro =>
    if v2 ≤ v3 then
        some ro
      else
        if (512 + v3) < 0 ∨ 785 ≤ (512 + v3).toNatClampNeg then none else
        fX4_limit_66 n v2 (v3 + 1) (upd ro (512 + v3).toNatClampNeg (-1))
def fX4_limit_13  : Nat → Int32 → Int32 → (Nat → Int32) → Option (Int32)
  | 0, _, _, _ => none
  | n + 1, v1, v2, ro =>
    if 256 ≤ v2 then
        some v1
      else
        ob (fX4_begins ro v2) fun r4 =>
        if r4 = 0 then
          fX4_limit_13 n v1 (v2 + 1) ro
        else
          if v1 = (-1) then
            fX4_limit_13 n v2 (v2 + 1) ro
          else
            ob (fX4_endOf ro v2) fun r7 =>
            ob (fX4_endOf ro v1) fun r8 =>
            if (r8 - v1) ≤ (r7 - v2) then
              fX4_limit_13 n v1 (v2 + 1) ro
            else
              fX4_limit_13 n v2 (v2 + 1) ro
def fX4_limit_0  : Nat → (Nat → Int32) → Option ((Nat → Int32))
  | 0, _ => none
  | n + 1, ro =>
    ob (fX4_ranges ro) fun r10 =>
      if r10 ≤ 16 then
        some ro
      else
        ob (fX4_limit_13 1000 (-1) 0 ro) fun v1_12 =>
        ob (fX4_endOf ro v1_12) fun r13 =>
        ob (fX4_limit_66 1000 r13 v1_12 ro) fun ro14 =>
        fX4_limit_0 n (upd ro14 772 ((ro14 772) + 1))
def fX4_limit (ro : Nat → Int32) : Option ((Nat → Int32)) :=
  ob (fX4_ranges ro) fun r15 =>
  if r15 ≤ 16 then
    some ro
  else
    ob (fX4_limit_13 1000 (-1) 0 ro) fun v1_17 =>
    ob (fX4_endOf ro v1_17) fun r18 =>
    ob (fX4_limit_66 1000 r18 v1_17 ro) fun ro19 =>
    fX4_limit_0 1000 (upd ro19 772 ((ro19 772) + 1))
set_option maxRecDepth 100000 in
set_option maxHeartbeats 4000000 in
theorem kX4_limit (l : Launch) (g : zG) (qr : Nat) (ro : Nat → Int32) {ro' : Nat → Int32} (h : fX4_limit ro = some ro') : Mw l g yX4_limit wsX4_limit { frames := 5, cells := 0, slots := 0, locals := 109 } [.ref qr] (zR1 g qr ro) (zWv g (zR1 g qr ro')) := by
  refine zw_in (cc := cX4_limit) (maxL := 4) (ret := none) (by decide) rfl (Nat.le_of_ble_eq_true rfl) ?_
  intro p e s m below meth c hx hb hr hml hts hown hlocks hK A hA hP hD hS ls hl
  replace hl : lv_has ls 4 [(0, .ref qr)] := hl
  have loop_66 : ∀ (n : Nat) (v2 : Int32) (v3 : Int32) (ro : (Nat → Int32)) (ro_o : (Nat → Int32)), fX4_limit_66 n v2 v3 ro = some ro_o → (∀ (H : Heap) (locs : List Loc), zP g (zR1 g qr ro_o) H → va_D A (zR1 g qr ro_o) → va_S A s.heap H locs → ∀ (ls : Array Slot), lv_has ls 4 [(0, .ref qr)] → W p l e ({ frames := 5, cells := 0, slots := 0, locals := 109 } : Room) s m [.ref qr].toArray below meth c H locs 0 0 (MQ below (zWv g (zR1 g qr ro') A) [.ref qr].toArray s 0 0 A) (F0 m 85 ls [])) → ∀ (H : Heap) (locs : List Loc), zP g (zR1 g qr ro) H → va_D A (zR1 g qr ro) → va_S A s.heap H locs → ∀ (ls : Array Slot), lv_has ls 4 [(0, .ref qr), (2, .int v2), (3, .int v3)] → W p l e ({ frames := 5, cells := 0, slots := 0, locals := 109 } : Room) s m [.ref qr].toArray below meth c H locs 0 0 (MQ below (zWv g (zR1 g qr ro') A) [.ref qr].toArray s 0 0 A) (F0 m 66 ls []) := by
    intro n
    induction n with
    | zero => intro v2 v3 ro ro_o h kk H locs hP hD hS ls hl; exact zn h
    | succ n ih =>
      intro v2 v3 ro ro_o h kk H locs hP hD hS ls hl
      rw [fX4_limit_66] at h
      refine lv_iload_n hx hb dX4_limit_66 rfl (lv_at hl 2 rfl) ?_
      refine lv_iload_n hx hb dX4_limit_67 rfl (lv_at hl 1 rfl) ?_
      refine lv_icmp_ge (tgt := 85) hx hb dX4_limit_68 (by decide) (fun c1 => ?_) (fun c1 => ?_)
      · replace h := zt c1 h
        cases h
        exact kk H locs hP hD hS ls (lv_sub hl [0] rfl)
      · replace h := zf c1 h
        refine lv_aload_n hx hb dX4_limit_71 rfl (lv_at hl 0 rfl) ?_
        refine lv_sipush (v := 512) hx hb dX4_limit_72 (by decide) ?_
        refine lv_iload_n hx hb dX4_limit_75 rfl (lv_at hl 2 rfl) ?_
        refine lv_iadd hx hb dX4_limit_76 ?_
        refine lv_iconst (v := (-1)) hx hb dX4_limit_77 (by decide) ?_
        obtain ⟨i2, h⟩ := zi h
        refine za_ist hx hb hK hP hD hS 0 rfl _ rfl i2 dX4_limit_78 (fun H locs hP hD hS => ?_)
        replace hP : zP g (zR1 g qr (upd ro (512 + v3).toNatClampNeg (-1))) H := hP
        replace hD : va_D A (zR1 g qr (upd ro (512 + v3).toNatClampNeg (-1))) := hD
        refine lv_iinc (v := (v3 + 1)) (lv' := [(3, .int (v3 + 1)), (0, .ref qr), (2, .int v2)]) hx hb dX4_limit_79 hl (k := 2) rfl rfl (by decide) rfl (fun ls hl => ?_)
        refine lv_goto (tgt := 66) hx hb dX4_limit_82 (by decide) ?_
        exact ih v2 (v3 + 1) (upd ro (512 + v3).toNatClampNeg (-1)) _ h kk H locs hP hD hS ls (lv_sub hl [1, 2, 0] rfl)
  have loop_13 : ∀ (n : Nat) (v1 : Int32) (v2 : Int32) (ro : (Nat → Int32)) (v1_o : Int32), fX4_limit_13 n v1 v2 ro = some v1_o → (∀ (H : Heap) (locs : List Loc), zP g (zR1 g qr ro) H → va_D A (zR1 g qr ro) → va_S A s.heap H locs → ∀ (ls : Array Slot), lv_has ls 4 [(0, .ref qr), (1, .int v1_o)] → W p l e ({ frames := 5, cells := 0, slots := 0, locals := 109 } : Room) s m [.ref qr].toArray below meth c H locs 0 0 (MQ below (zWv g (zR1 g qr ro') A) [.ref qr].toArray s 0 0 A) (F0 m 58 ls [])) → ∀ (H : Heap) (locs : List Loc), zP g (zR1 g qr ro) H → va_D A (zR1 g qr ro) → va_S A s.heap H locs → ∀ (ls : Array Slot), lv_has ls 4 [(0, .ref qr), (1, .int v1), (2, .int v2)] → W p l e ({ frames := 5, cells := 0, slots := 0, locals := 109 } : Room) s m [.ref qr].toArray below meth c H locs 0 0 (MQ below (zWv g (zR1 g qr ro') A) [.ref qr].toArray s 0 0 A) (F0 m 13 ls []) := by
    intro n
    induction n with
    | zero => intro v1 v2 ro v1_o h kk H locs hP hD hS ls hl; exact zn h
    | succ n ih =>
      intro v1 v2 ro v1_o h kk H locs hP hD hS ls hl
      rw [fX4_limit_13] at h
      refine lv_iload_n hx hb dX4_limit_13 rfl (lv_at hl 2 rfl) ?_
      refine lv_sipush (v := 256) hx hb dX4_limit_14 (by decide) ?_
      refine lv_icmp_ge (tgt := 58) hx hb dX4_limit_17 (by decide) (fun c3 => ?_) (fun c3 => ?_)
      · replace h := zt c3 h
        cases h
        exact kk H locs hP hD hS ls (lv_sub hl [0, 1] rfl)
      · replace h := zf c3 h
        refine lv_aload_n hx hb dX4_limit_20 rfl (lv_at hl 0 rfl) ?_
        refine lv_iload_n hx hb dX4_limit_21 rfl (lv_at hl 2 rfl) ?_
        obtain ⟨r4, e4, h⟩ := zb h
        refine zS (As := [.ref qr, .int v2]) (rest := []) (zQi_q _) ⟨hx, hb, hml, hown, hts⟩ (kX4_begins l g qr ro v2 e4) (va_cwS 2 hts gX4_limit_X4_begins rfl rfl rfl hdS_X4_begins ⟨Nat.le_of_ble_eq_true rfl, Nat.le_of_ble_eq_true rfl⟩) hK hP [0] rfl rfl hl.1 rfl (Nat.le_of_ble_eq_true rfl) ⟨Nat.zero_le _, Nat.zero_le _⟩ dX4_limit_22 ?_
        refine lv_if_eq (tgt := 52) hx hb dX4_limit_25 (by decide) (fun c5 => ?_) (fun c5 => ?_)
        · replace h := zt c5 h
          refine lv_iinc (v := (v2 + 1)) (lv' := [(2, .int (v2 + 1)), (0, .ref qr), (1, .int v1)]) hx hb dX4_limit_52 hl (k := 2) rfl rfl (by decide) rfl (fun ls hl => ?_)
          refine lv_goto (tgt := 13) hx hb dX4_limit_55 (by decide) ?_
          exact ih v1 (v2 + 1) ro _ h kk H locs hP hD hS ls (lv_sub hl [1, 2, 0] rfl)
        · replace h := zf c5 h
          refine lv_iload_n hx hb dX4_limit_28 rfl (lv_at hl 1 rfl) ?_
          refine lv_iconst (v := (-1)) hx hb dX4_limit_29 (by decide) ?_
          refine lv_icmp_eq (tgt := 50) hx hb dX4_limit_30 (by decide) (fun c6 => ?_) (fun c6 => ?_)
          · replace h := zt c6 h
            refine lv_iload_n hx hb dX4_limit_50 rfl (lv_at hl 2 rfl) ?_
            refine lv_istore_n (lv' := [(1, .int v2), (0, .ref qr), (2, .int v2)]) hx hb dX4_limit_51 rfl hl (by decide) rfl (fun ls hl => ?_)
            refine lv_iinc (v := (v2 + 1)) (lv' := [(2, .int (v2 + 1)), (1, .int v2), (0, .ref qr)]) hx hb dX4_limit_52 hl (k := 2) rfl rfl (by decide) rfl (fun ls hl => ?_)
            refine lv_goto (tgt := 13) hx hb dX4_limit_55 (by decide) ?_
            exact ih v2 (v2 + 1) ro _ h kk H locs hP hD hS ls (lv_sub hl [2, 1, 0] rfl)
          · replace h := zf c6 h
            refine lv_aload_n hx hb dX4_limit_33 rfl (lv_at hl 0 rfl) ?_
            refine lv_iload_n hx hb dX4_limit_34 rfl (lv_at hl 2 rfl) ?_
            obtain ⟨r7, e7, h⟩ := zb h
            refine zS (As := [.ref qr, .int v2]) (rest := []) (zQi_q _) ⟨hx, hb, hml, hown, hts⟩ (kX4_endOf l g qr ro v2 e7) (va_cwS 2 hts gX4_limit_X4_endOf rfl rfl rfl hdS_X4_endOf ⟨Nat.le_of_ble_eq_true rfl, Nat.le_of_ble_eq_true rfl⟩) hK hP [0] rfl rfl hl.1 rfl (Nat.le_of_ble_eq_true rfl) ⟨Nat.zero_le _, Nat.zero_le _⟩ dX4_limit_35 ?_
            refine lv_iload_n hx hb dX4_limit_38 rfl (lv_at hl 2 rfl) ?_
            refine lv_isub hx hb dX4_limit_39 ?_
            refine lv_aload_n hx hb dX4_limit_40 rfl (lv_at hl 0 rfl) ?_
            refine lv_iload_n hx hb dX4_limit_41 rfl (lv_at hl 1 rfl) ?_
            obtain ⟨r8, e8, h⟩ := zb h
            refine zS (As := [.ref qr, .int v1]) (rest := [.int (r7 - v2)]) (zQi_q _) ⟨hx, hb, hml, hown, hts⟩ (kX4_endOf l g qr ro v1 e8) (va_cwS 2 hts gX4_limit_X4_endOf rfl rfl rfl hdS_X4_endOf ⟨Nat.le_of_ble_eq_true rfl, Nat.le_of_ble_eq_true rfl⟩) hK hP [0] rfl rfl hl.1 rfl (Nat.le_of_ble_eq_true rfl) ⟨Nat.zero_le _, Nat.zero_le _⟩ dX4_limit_42 ?_
            refine lv_iload_n hx hb dX4_limit_45 rfl (lv_at hl 1 rfl) ?_
            refine lv_isub hx hb dX4_limit_46 ?_
            refine lv_icmp_ge (tgt := 52) hx hb dX4_limit_47 (by decide) (fun c9 => ?_) (fun c9 => ?_)
            · replace h := zt c9 h
              refine lv_iinc (v := (v2 + 1)) (lv' := [(2, .int (v2 + 1)), (0, .ref qr), (1, .int v1)]) hx hb dX4_limit_52 hl (k := 2) rfl rfl (by decide) rfl (fun ls hl => ?_)
              refine lv_goto (tgt := 13) hx hb dX4_limit_55 (by decide) ?_
              exact ih v1 (v2 + 1) ro _ h kk H locs hP hD hS ls (lv_sub hl [1, 2, 0] rfl)
            · replace h := zf c9 h
              refine lv_iload_n hx hb dX4_limit_50 rfl (lv_at hl 2 rfl) ?_
              refine lv_istore_n (lv' := [(1, .int v2), (0, .ref qr), (2, .int v2)]) hx hb dX4_limit_51 rfl hl (by decide) rfl (fun ls hl => ?_)
              refine lv_iinc (v := (v2 + 1)) (lv' := [(2, .int (v2 + 1)), (1, .int v2), (0, .ref qr)]) hx hb dX4_limit_52 hl (k := 2) rfl rfl (by decide) rfl (fun ls hl => ?_)
              refine lv_goto (tgt := 13) hx hb dX4_limit_55 (by decide) ?_
              exact ih v2 (v2 + 1) ro _ h kk H locs hP hD hS ls (lv_sub hl [2, 1, 0] rfl)
  have loop_0 : ∀ (n : Nat) (ro : (Nat → Int32)), fX4_limit_0 n ro = some ro' → ∀ (H : Heap) (locs : List Loc), zP g (zR1 g qr ro) H → va_D A (zR1 g qr ro) → va_S A s.heap H locs → ∀ (ls : Array Slot), lv_has ls 4 [(0, .ref qr)] → W p l e ({ frames := 5, cells := 0, slots := 0, locals := 109 } : Room) s m [.ref qr].toArray below meth c H locs 0 0 (MQ below (zWv g (zR1 g qr ro') A) [.ref qr].toArray s 0 0 A) (F0 m 0 ls []) := by
    intro n
    induction n with
    | zero => intro ro h H locs hP hD hS ls hl; exact zn h
    | succ n ih =>
      intro ro h H locs hP hD hS ls hl
      rw [fX4_limit_0] at h
      refine lv_aload_n hx hb dX4_limit_0 rfl (lv_at hl 0 rfl) ?_
      obtain ⟨r10, e10, h⟩ := zb h
      refine zS (As := [.ref qr]) (rest := []) (zQi_q _) ⟨hx, hb, hml, hown, hts⟩ (kX4_ranges l g qr ro e10) (va_cwS 1 hts gX4_limit_X4_ranges rfl rfl rfl hdS_X4_ranges ⟨Nat.le_of_ble_eq_true rfl, Nat.le_of_ble_eq_true rfl⟩) hK hP [0] rfl rfl hl.1 rfl (Nat.le_of_ble_eq_true rfl) ⟨Nat.zero_le _, Nat.zero_le _⟩ dX4_limit_1 ?_
      refine lv_bipush (v := 16) hx hb dX4_limit_4 (by decide) ?_
      refine lv_icmp_le (tgt := 97) hx hb dX4_limit_6 (by decide) (fun c11 => ?_) (fun c11 => ?_)
      · replace h := zt c11 h
        cases h
        exact zw_v hx hb hr hlocks hP hS dX4_limit_97
      · replace h := zf c11 h
        refine lv_iconst (v := (-1)) hx hb dX4_limit_9 (by decide) ?_
        refine lv_istore_n (lv' := [(1, .int (-1)), (0, .ref qr)]) hx hb dX4_limit_10 rfl hl (by decide) rfl (fun ls hl => ?_)
        refine lv_iconst (v := 0) hx hb dX4_limit_11 (by decide) ?_
        refine lv_istore_n (lv' := [(2, .int 0), (1, .int (-1)), (0, .ref qr)]) hx hb dX4_limit_12 rfl hl (by decide) rfl (fun ls hl => ?_)
        obtain ⟨v1_12, e12, h⟩ := zb h
        refine loop_13 1000 (-1) 0 ro _ e12 (fun H locs hP hD hS ls hl => ?_) H locs hP hD hS ls (lv_sub hl [2, 1, 0] rfl)
        refine lv_aload_n hx hb dX4_limit_58 rfl (lv_at hl 0 rfl) ?_
        refine lv_iload_n hx hb dX4_limit_59 rfl (lv_at hl 1 rfl) ?_
        obtain ⟨r13, e13, h⟩ := zb h
        refine zS (As := [.ref qr, .int v1_12]) (rest := []) (zQi_q _) ⟨hx, hb, hml, hown, hts⟩ (kX4_endOf l g qr ro v1_12 e13) (va_cwS 2 hts gX4_limit_X4_endOf rfl rfl rfl hdS_X4_endOf ⟨Nat.le_of_ble_eq_true rfl, Nat.le_of_ble_eq_true rfl⟩) hK hP [0] rfl rfl hl.1 rfl (Nat.le_of_ble_eq_true rfl) ⟨Nat.zero_le _, Nat.zero_le _⟩ dX4_limit_60 ?_
        refine lv_istore_n (lv' := [(2, .int r13), (0, .ref qr), (1, .int v1_12)]) hx hb dX4_limit_63 rfl hl (by decide) rfl (fun ls hl => ?_)
        refine lv_iload_n hx hb dX4_limit_64 rfl (lv_at hl 2 rfl) ?_
        refine lv_istore_n (lv' := [(3, .int v1_12), (2, .int r13), (0, .ref qr), (1, .int v1_12)]) hx hb dX4_limit_65 rfl hl (by decide) rfl (fun ls hl => ?_)
        obtain ⟨ro14, e14, h⟩ := zb h
        refine loop_66 1000 r13 v1_12 ro _ e14 (fun H locs hP hD hS ls hl => ?_) H locs hP hD hS ls (lv_sub hl [2, 1, 0] rfl)
        refine lv_aload_n hx hb dX4_limit_85 rfl (lv_at hl 0 rfl) ?_
        refine lv_sipush (v := 772) hx hb dX4_limit_86 (by decide) ?_
        refine lv_dup2_11 hx hb dX4_limit_89 rfl rfl ?_
        refine za_ild hx hb hK hP 0 rfl 772 (by decide) (by decide) dX4_limit_90 ?_
        refine lv_iconst (v := 1) hx hb dX4_limit_91 (by decide) ?_
        refine lv_iadd hx hb dX4_limit_92 ?_
        refine za_ist hx hb hK hP hD hS 0 rfl 772 (by decide) (by decide) dX4_limit_93 (fun H locs hP hD hS => ?_)
        replace hP : zP g (zR1 g qr (upd ro14 772 ((ro14 772) + 1))) H := hP
        replace hD : va_D A (zR1 g qr (upd ro14 772 ((ro14 772) + 1))) := hD
        refine lv_goto (tgt := 0) hx hb dX4_limit_94 (by decide) ?_
        exact ih (upd ro14 772 ((ro14 772) + 1)) h H locs hP hD hS ls (lv_sub hl [0] rfl)
  unfold fX4_limit at h
  refine lv_aload_n hx hb dX4_limit_0 rfl (lv_at hl 0 rfl) ?_
  obtain ⟨r15, e15, h⟩ := zb h
  refine zS (As := [.ref qr]) (rest := []) (zQi_q _) ⟨hx, hb, hml, hown, hts⟩ (kX4_ranges l g qr ro e15) (va_cwS 1 hts gX4_limit_X4_ranges rfl rfl rfl hdS_X4_ranges ⟨Nat.le_of_ble_eq_true rfl, Nat.le_of_ble_eq_true rfl⟩) hK hP [0] rfl rfl hl.1 rfl (Nat.le_of_ble_eq_true rfl) ⟨Nat.zero_le _, Nat.zero_le _⟩ dX4_limit_1 ?_
  refine lv_bipush (v := 16) hx hb dX4_limit_4 (by decide) ?_
  refine lv_icmp_le (tgt := 97) hx hb dX4_limit_6 (by decide) (fun c16 => ?_) (fun c16 => ?_)
  · replace h := zt c16 h
    cases h
    exact zw_v hx hb hr hlocks hP hS dX4_limit_97
  · replace h := zf c16 h
    refine lv_iconst (v := (-1)) hx hb dX4_limit_9 (by decide) ?_
    refine lv_istore_n (lv' := [(1, .int (-1)), (0, .ref qr)]) hx hb dX4_limit_10 rfl hl (by decide) rfl (fun ls hl => ?_)
    refine lv_iconst (v := 0) hx hb dX4_limit_11 (by decide) ?_
    refine lv_istore_n (lv' := [(2, .int 0), (1, .int (-1)), (0, .ref qr)]) hx hb dX4_limit_12 rfl hl (by decide) rfl (fun ls hl => ?_)
    obtain ⟨v1_17, e17, h⟩ := zb h
    refine loop_13 1000 (-1) 0 ro _ e17 (fun H locs hP hD hS ls hl => ?_) s.heap [] hP hD hS ls (lv_sub hl [2, 1, 0] rfl)
    refine lv_aload_n hx hb dX4_limit_58 rfl (lv_at hl 0 rfl) ?_
    refine lv_iload_n hx hb dX4_limit_59 rfl (lv_at hl 1 rfl) ?_
    obtain ⟨r18, e18, h⟩ := zb h
    refine zS (As := [.ref qr, .int v1_17]) (rest := []) (zQi_q _) ⟨hx, hb, hml, hown, hts⟩ (kX4_endOf l g qr ro v1_17 e18) (va_cwS 2 hts gX4_limit_X4_endOf rfl rfl rfl hdS_X4_endOf ⟨Nat.le_of_ble_eq_true rfl, Nat.le_of_ble_eq_true rfl⟩) hK hP [0] rfl rfl hl.1 rfl (Nat.le_of_ble_eq_true rfl) ⟨Nat.zero_le _, Nat.zero_le _⟩ dX4_limit_60 ?_
    refine lv_istore_n (lv' := [(2, .int r18), (0, .ref qr), (1, .int v1_17)]) hx hb dX4_limit_63 rfl hl (by decide) rfl (fun ls hl => ?_)
    refine lv_iload_n hx hb dX4_limit_64 rfl (lv_at hl 2 rfl) ?_
    refine lv_istore_n (lv' := [(3, .int v1_17), (2, .int r18), (0, .ref qr), (1, .int v1_17)]) hx hb dX4_limit_65 rfl hl (by decide) rfl (fun ls hl => ?_)
    obtain ⟨ro19, e19, h⟩ := zb h
    refine loop_66 1000 r18 v1_17 ro _ e19 (fun H locs hP hD hS ls hl => ?_) H locs hP hD hS ls (lv_sub hl [2, 1, 0] rfl)
    refine lv_aload_n hx hb dX4_limit_85 rfl (lv_at hl 0 rfl) ?_
    refine lv_sipush (v := 772) hx hb dX4_limit_86 (by decide) ?_
    refine lv_dup2_11 hx hb dX4_limit_89 rfl rfl ?_
    refine za_ild hx hb hK hP 0 rfl 772 (by decide) (by decide) dX4_limit_90 ?_
    refine lv_iconst (v := 1) hx hb dX4_limit_91 (by decide) ?_
    refine lv_iadd hx hb dX4_limit_92 ?_
    refine za_ist hx hb hK hP hD hS 0 rfl 772 (by decide) (by decide) dX4_limit_93 (fun H locs hP hD hS => ?_)
    replace hP : zP g (zR1 g qr (upd ro19 772 ((ro19 772) + 1))) H := hP
    replace hD : va_D A (zR1 g qr (upd ro19 772 ((ro19 772) + 1))) := hD
    refine lv_goto (tgt := 0) hx hb dX4_limit_94 (by decide) ?_
    exact loop_0 1000 (upd ro19 772 ((ro19 772) + 1)) h H locs hP hD hS ls (lv_sub hl [0] rfl)
theorem hdS_X4_limit : yX4_limit.cls ≠ "java/lang/invoke/MethodHandle" ∧ yX4_limit.cls ≠ "java/lang/invoke/VarHandle" ∧ (parseMethodDescriptor yX4_limit.desc).map (fun d => d.parameters.length) = some 1 := by decide +kernel
def fX4_writeOn_5  : Nat → Int32 → Int32 → Int32 → Int32 → (Nat → Int32) → Option (Int32 × (Nat → Int32))
  | 0, _, _, _, _, _ => none
  | n + 1, v1, v2, v3, v4, ro =>
    if (v1 + v2) ≤ v4 then
        ob (fX4_limit (upd ro 769 0)) fun ro2 =>
        some (v3, ro2)
      else
        ob (fX4_isQueued ro v4) fun r3 =>
        if r3 = 0 then
          if (0 + v4) < 0 ∨ 785 ≤ (0 + v4).toNatClampNeg then none else
          if (256 + v4) < 0 ∨ 785 ≤ (256 + v4).toNatClampNeg then none else
          if (512 + v4) < 0 ∨ 785 ≤ (512 + v4).toNatClampNeg then none else
          fX4_writeOn_5 n v1 v2 (v3 + 0) (v4 + 1) (upd (upd (upd ro (0 + v4).toNatClampNeg 1) (256 + v4).toNatClampNeg 1) (512 + v4).toNatClampNeg (-1))
        else
          if (0 + v4) < 0 ∨ 785 ≤ (0 + v4).toNatClampNeg then none else
          if (256 + v4) < 0 ∨ 785 ≤ (256 + v4).toNatClampNeg then none else
          if (512 + v4) < 0 ∨ 785 ≤ (512 + v4).toNatClampNeg then none else
          fX4_writeOn_5 n v1 v2 (v3 + 1) (v4 + 1) (upd (upd (upd ro (0 + v4).toNatClampNeg 1) (256 + v4).toNatClampNeg 1) (512 + v4).toNatClampNeg (-1))
def fX4_writeOn (ro : Nat → Int32) (a1 : Int32) (a2 : Int32) : Option (Int32 × (Nat → Int32)) :=
  fX4_writeOn_5 1000 a1 a2 0 a1 ro
set_option maxRecDepth 100000 in
set_option maxHeartbeats 4000000 in
theorem kX4_writeOn (l : Launch) (g : zG) (qr : Nat) (ro : Nat → Int32) (a1 : Int32) (a2 : Int32) {r : Int32} {ro' : Nat → Int32} (h : fX4_writeOn ro a1 a2 = some (r, ro')) : Mw l g yX4_writeOn wsX4_writeOn { frames := 6, cells := 0, slots := 0, locals := 132 } [.ref qr, .int a1, .int a2] (zR1 g qr ro) (zWi g (zR1 g qr ro') r) := by
  refine zw_in (cc := cX4_writeOn) (maxL := 5) (ret := (some .int)) (by decide) rfl (Nat.le_of_ble_eq_true rfl) ?_
  intro p e s m below meth c hx hb hr hml hts hown hlocks hK A hA hP hD hS ls hl
  replace hl : lv_has ls 5 [(0, .ref qr), (1, .int a1), (2, .int a2)] := hl
  have loop_5 : ∀ (n : Nat) (v1 : Int32) (v2 : Int32) (v3 : Int32) (v4 : Int32) (ro : (Nat → Int32)), fX4_writeOn_5 n v1 v2 v3 v4 ro = some (r, ro') → ∀ (H : Heap) (locs : List Loc), zP g (zR1 g qr ro) H → va_D A (zR1 g qr ro) → va_S A s.heap H locs → ∀ (ls : Array Slot), lv_has ls 5 [(0, .ref qr), (1, .int v1), (2, .int v2), (3, .int v3), (4, .int v4)] → W p l e ({ frames := 6, cells := 0, slots := 0, locals := 132 } : Room) s m [.ref qr, .int a1, .int a2].toArray below meth c H locs 0 0 (MQ below (zWi g (zR1 g qr ro') r A) [.ref qr, .int a1, .int a2].toArray s 0 0 A) (F0 m 5 ls []) := by
    intro n
    induction n with
    | zero => intro v1 v2 v3 v4 ro h H locs hP hD hS ls hl; exact zn h
    | succ n ih =>
      intro v1 v2 v3 v4 ro h H locs hP hD hS ls hl
      rw [fX4_writeOn_5] at h
      refine lv_iload hx hb dX4_writeOn_5 (lv_at hl 4 rfl) ?_
      refine lv_iload_n hx hb dX4_writeOn_7 rfl (lv_at hl 1 rfl) ?_
      refine lv_iload_n hx hb dX4_writeOn_8 rfl (lv_at hl 2 rfl) ?_
      refine lv_iadd hx hb dX4_writeOn_9 ?_
      refine lv_icmp_ge (tgt := 61) hx hb dX4_writeOn_10 (by decide) (fun c1 => ?_) (fun c1 => ?_)
      · replace h := zt c1 h
        refine lv_aload_n hx hb dX4_writeOn_61 rfl (lv_at hl 0 rfl) ?_
        refine lv_sipush (v := 769) hx hb dX4_writeOn_62 (by decide) ?_
        refine lv_iconst (v := 0) hx hb dX4_writeOn_65 (by decide) ?_
        refine za_ist hx hb hK hP hD hS 0 rfl 769 (by decide) (by decide) dX4_writeOn_66 (fun H locs hP hD hS => ?_)
        replace hP : zP g (zR1 g qr (upd ro 769 0)) H := hP
        replace hD : va_D A (zR1 g qr (upd ro 769 0)) := hD
        refine lv_aload_n hx hb dX4_writeOn_67 rfl (lv_at hl 0 rfl) ?_
        obtain ⟨ro2, e2, h⟩ := zb h
        refine zSw (As := [.ref qr]) (rest := []) (zWv_q g _) ⟨hx, hb, hml, hown, hts⟩ (kX4_limit l g qr (upd ro 769 0) e2) (va_cwS 1 hts gX4_writeOn_X4_limit rfl rfl rfl hdS_X4_limit ⟨Nat.le_of_ble_eq_true rfl, Nat.le_of_ble_eq_true rfl⟩) hK hP hD hS hA [0] (by decide) rfl rfl rfl hl.1 rfl (Nat.le_of_ble_eq_true rfl) ⟨Nat.zero_le _, Nat.zero_le _⟩ dX4_writeOn_68 (fun H locs hP hD hS => ?_)
        replace hP : zP g (zR1 g qr ro2) H := hP
        replace hD : va_D A (zR1 g qr ro2) := hD
        refine lv_iload_n hx hb dX4_writeOn_71 rfl (lv_at hl 3 rfl) ?_
        cases h
        exact zw_i hx hb hr hlocks hP hS dX4_writeOn_72
      · replace h := zf c1 h
        refine lv_iload_n hx hb dX4_writeOn_13 rfl (lv_at hl 3 rfl) ?_
        refine lv_aload_n hx hb dX4_writeOn_14 rfl (lv_at hl 0 rfl) ?_
        refine lv_iload hx hb dX4_writeOn_15 (lv_at hl 4 rfl) ?_
        obtain ⟨r3, e3, h⟩ := zb h
        refine zS (As := [.ref qr, .int v4]) (rest := [.int v3]) (zQi_q _) ⟨hx, hb, hml, hown, hts⟩ (kX4_isQueued l g qr ro v4 e3) (va_cwS 2 hts gX4_writeOn_X4_isQueued rfl rfl rfl hdS_X4_isQueued ⟨Nat.le_of_ble_eq_true rfl, Nat.le_of_ble_eq_true rfl⟩) hK hP [0] rfl rfl hl.1 rfl (Nat.le_of_ble_eq_true rfl) ⟨Nat.zero_le _, Nat.zero_le _⟩ dX4_writeOn_17 ?_
        refine lv_if_eq (tgt := 27) hx hb dX4_writeOn_20 (by decide) (fun c4 => ?_) (fun c4 => ?_)
        · replace h := zt c4 h
          refine lv_iconst (v := 0) hx hb dX4_writeOn_27 (by decide) ?_
          refine lv_iadd hx hb dX4_writeOn_28 ?_
          refine lv_istore_n (lv' := [(3, .int (v3 + 0)), (0, .ref qr), (1, .int v1), (2, .int v2), (4, .int v4)]) hx hb dX4_writeOn_29 rfl hl (by decide) rfl (fun ls hl => ?_)
          refine lv_aload_n hx hb dX4_writeOn_30 rfl (lv_at hl 1 rfl) ?_
          refine lv_iconst (v := 0) hx hb dX4_writeOn_31 (by decide) ?_
          refine lv_iload hx hb dX4_writeOn_32 (lv_at hl 4 rfl) ?_
          refine lv_iadd hx hb dX4_writeOn_34 ?_
          refine lv_iconst (v := 1) hx hb dX4_writeOn_35 (by decide) ?_
          obtain ⟨i5, h⟩ := zi h
          refine za_ist hx hb hK hP hD hS 0 rfl _ rfl i5 dX4_writeOn_36 (fun H locs hP hD hS => ?_)
          replace hP : zP g (zR1 g qr (upd ro (0 + v4).toNatClampNeg 1)) H := hP
          replace hD : va_D A (zR1 g qr (upd ro (0 + v4).toNatClampNeg 1)) := hD
          refine lv_aload_n hx hb dX4_writeOn_37 rfl (lv_at hl 1 rfl) ?_
          refine lv_sipush (v := 256) hx hb dX4_writeOn_38 (by decide) ?_
          refine lv_iload hx hb dX4_writeOn_41 (lv_at hl 4 rfl) ?_
          refine lv_iadd hx hb dX4_writeOn_43 ?_
          refine lv_iconst (v := 1) hx hb dX4_writeOn_44 (by decide) ?_
          obtain ⟨i6, h⟩ := zi h
          refine za_ist hx hb hK hP hD hS 0 rfl _ rfl i6 dX4_writeOn_45 (fun H locs hP hD hS => ?_)
          replace hP : zP g (zR1 g qr (upd (upd ro (0 + v4).toNatClampNeg 1) (256 + v4).toNatClampNeg 1)) H := hP
          replace hD : va_D A (zR1 g qr (upd (upd ro (0 + v4).toNatClampNeg 1) (256 + v4).toNatClampNeg 1)) := hD
          refine lv_aload_n hx hb dX4_writeOn_46 rfl (lv_at hl 1 rfl) ?_
          refine lv_sipush (v := 512) hx hb dX4_writeOn_47 (by decide) ?_
          refine lv_iload hx hb dX4_writeOn_50 (lv_at hl 4 rfl) ?_
          refine lv_iadd hx hb dX4_writeOn_52 ?_
          refine lv_iconst (v := (-1)) hx hb dX4_writeOn_53 (by decide) ?_
          obtain ⟨i7, h⟩ := zi h
          refine za_ist hx hb hK hP hD hS 0 rfl _ rfl i7 dX4_writeOn_54 (fun H locs hP hD hS => ?_)
          replace hP : zP g (zR1 g qr (upd (upd (upd ro (0 + v4).toNatClampNeg 1) (256 + v4).toNatClampNeg 1) (512 + v4).toNatClampNeg (-1))) H := hP
          replace hD : va_D A (zR1 g qr (upd (upd (upd ro (0 + v4).toNatClampNeg 1) (256 + v4).toNatClampNeg 1) (512 + v4).toNatClampNeg (-1))) := hD
          refine lv_iinc (v := (v4 + 1)) (lv' := [(4, .int (v4 + 1)), (3, .int (v3 + 0)), (0, .ref qr), (1, .int v1), (2, .int v2)]) hx hb dX4_writeOn_55 hl (k := 4) rfl rfl (by decide) rfl (fun ls hl => ?_)
          refine lv_goto (tgt := 5) hx hb dX4_writeOn_58 (by decide) ?_
          exact ih v1 v2 (v3 + 0) (v4 + 1) (upd (upd (upd ro (0 + v4).toNatClampNeg 1) (256 + v4).toNatClampNeg 1) (512 + v4).toNatClampNeg (-1)) h H locs hP hD hS ls (lv_sub hl [2, 3, 4, 1, 0] rfl)
        · replace h := zf c4 h
          refine lv_iconst (v := 1) hx hb dX4_writeOn_23 (by decide) ?_
          refine lv_goto (tgt := 28) hx hb dX4_writeOn_24 (by decide) ?_
          refine lv_iadd hx hb dX4_writeOn_28 ?_
          refine lv_istore_n (lv' := [(3, .int (v3 + 1)), (0, .ref qr), (1, .int v1), (2, .int v2), (4, .int v4)]) hx hb dX4_writeOn_29 rfl hl (by decide) rfl (fun ls hl => ?_)
          refine lv_aload_n hx hb dX4_writeOn_30 rfl (lv_at hl 1 rfl) ?_
          refine lv_iconst (v := 0) hx hb dX4_writeOn_31 (by decide) ?_
          refine lv_iload hx hb dX4_writeOn_32 (lv_at hl 4 rfl) ?_
          refine lv_iadd hx hb dX4_writeOn_34 ?_
          refine lv_iconst (v := 1) hx hb dX4_writeOn_35 (by decide) ?_
          obtain ⟨i8, h⟩ := zi h
          refine za_ist hx hb hK hP hD hS 0 rfl _ rfl i8 dX4_writeOn_36 (fun H locs hP hD hS => ?_)
          replace hP : zP g (zR1 g qr (upd ro (0 + v4).toNatClampNeg 1)) H := hP
          replace hD : va_D A (zR1 g qr (upd ro (0 + v4).toNatClampNeg 1)) := hD
          refine lv_aload_n hx hb dX4_writeOn_37 rfl (lv_at hl 1 rfl) ?_
          refine lv_sipush (v := 256) hx hb dX4_writeOn_38 (by decide) ?_
          refine lv_iload hx hb dX4_writeOn_41 (lv_at hl 4 rfl) ?_
          refine lv_iadd hx hb dX4_writeOn_43 ?_
          refine lv_iconst (v := 1) hx hb dX4_writeOn_44 (by decide) ?_
          obtain ⟨i9, h⟩ := zi h
          refine za_ist hx hb hK hP hD hS 0 rfl _ rfl i9 dX4_writeOn_45 (fun H locs hP hD hS => ?_)
          replace hP : zP g (zR1 g qr (upd (upd ro (0 + v4).toNatClampNeg 1) (256 + v4).toNatClampNeg 1)) H := hP
          replace hD : va_D A (zR1 g qr (upd (upd ro (0 + v4).toNatClampNeg 1) (256 + v4).toNatClampNeg 1)) := hD
          refine lv_aload_n hx hb dX4_writeOn_46 rfl (lv_at hl 1 rfl) ?_
          refine lv_sipush (v := 512) hx hb dX4_writeOn_47 (by decide) ?_
          refine lv_iload hx hb dX4_writeOn_50 (lv_at hl 4 rfl) ?_
          refine lv_iadd hx hb dX4_writeOn_52 ?_
          refine lv_iconst (v := (-1)) hx hb dX4_writeOn_53 (by decide) ?_
          obtain ⟨i10, h⟩ := zi h
          refine za_ist hx hb hK hP hD hS 0 rfl _ rfl i10 dX4_writeOn_54 (fun H locs hP hD hS => ?_)
          replace hP : zP g (zR1 g qr (upd (upd (upd ro (0 + v4).toNatClampNeg 1) (256 + v4).toNatClampNeg 1) (512 + v4).toNatClampNeg (-1))) H := hP
          replace hD : va_D A (zR1 g qr (upd (upd (upd ro (0 + v4).toNatClampNeg 1) (256 + v4).toNatClampNeg 1) (512 + v4).toNatClampNeg (-1))) := hD
          refine lv_iinc (v := (v4 + 1)) (lv' := [(4, .int (v4 + 1)), (3, .int (v3 + 1)), (0, .ref qr), (1, .int v1), (2, .int v2)]) hx hb dX4_writeOn_55 hl (k := 4) rfl rfl (by decide) rfl (fun ls hl => ?_)
          refine lv_goto (tgt := 5) hx hb dX4_writeOn_58 (by decide) ?_
          exact ih v1 v2 (v3 + 1) (v4 + 1) (upd (upd (upd ro (0 + v4).toNatClampNeg 1) (256 + v4).toNatClampNeg 1) (512 + v4).toNatClampNeg (-1)) h H locs hP hD hS ls (lv_sub hl [2, 3, 4, 1, 0] rfl)
  unfold fX4_writeOn at h
  refine lv_iconst (v := 0) hx hb dX4_writeOn_0 (by decide) ?_
  refine lv_istore_n (lv' := [(3, .int 0), (0, .ref qr), (1, .int a1), (2, .int a2)]) hx hb dX4_writeOn_1 rfl hl (by decide) rfl (fun ls hl => ?_)
  refine lv_iload_n hx hb dX4_writeOn_2 rfl (lv_at hl 2 rfl) ?_
  refine lv_istore (lv' := [(4, .int a1), (3, .int 0), (0, .ref qr), (1, .int a1), (2, .int a2)]) hx hb dX4_writeOn_3 hl (by decide) rfl (fun ls hl => ?_)
  exact loop_5 1000 a1 a2 0 a1 ro h s.heap [] hP hD hS ls (lv_sub hl [2, 3, 4, 1, 0] rfl)
theorem hdS_X4_startOf : yX4_startOf.cls ≠ "java/lang/invoke/MethodHandle" ∧ yX4_startOf.cls ≠ "java/lang/invoke/VarHandle" ∧ (parseMethodDescriptor yX4_startOf.desc).map (fun d => d.parameters.length) = some 2 := by decide +kernel
def fX4_freeOn_103  : Nat → Int32 → Int32 → Int32 → Int32 → Int32 → Int32 → (Nat → Int32) → Option ((Nat → Int32))
  | 0, _, _, _, _, _, _, _ => none
  | n + 1, v1, v2, v3, v4, v6, v7, ro =>
    if v6 ≤ v7 then
        some ro
      else
        if (512 + v7) < 0 ∨ 785 ≤ (512 + v7).toNatClampNeg then none else
        fX4_freeOn_103 n v1 v2 v3 v4 v6 (v7 + 1) (upd ro (512 + v7).toNatClampNeg (ro 768))
def fX4_freeOn_57  : Nat → Int32 → Int32 → Int32 → Int32 → (Nat → Int32) → Option (Int32 × (Nat → Int32))
  | 0, _, _, _, _, _ => none
  | n + 1, v1, v2, v3, v4, ro =>
    if (v1 + v2) ≤ v4 then
        ob (fX4_limit (upd ro 769 0)) fun ro4 =>
        some (v3, ro4)
      else
        if (512 + v4) < 0 ∨ 785 ≤ (512 + v4).toNatClampNeg then none else
        if (ro (512 + v4).toNatClampNeg) = ((ro 768) + 1) then
          ob (fX4_startOf ro v4) fun r7 =>
          ob (fX4_endOf ro v4) fun r8 =>
          ob (fX4_freeOn_103 1000 v1 v2 v3 v4 r8 r7 ro) fun ro9 =>
          fX4_freeOn_57 n v1 v2 v3 (v4 + 1) ro9
        else
          fX4_freeOn_57 n v1 v2 v3 (v4 + 1) ro
def fX4_freeOn_5  : Nat → Int32 → Int32 → Int32 → Int32 → (Nat → Int32) → Option (Int32 × (Nat → Int32))
  | 0, _, _, _, _, _ => none
  | n + 1, v1, v2, v3, v4, ro =>
    if (v1 + v2) ≤ v4 then
        fX4_freeOn_57 1000 v1 v2 v3 v1 ro
      else
        if (0 + v4) < 0 ∨ 785 ≤ (0 + v4).toNatClampNeg then none else
        if (ro (0 + v4).toNatClampNeg) = 1 then
          if (0 + v4) < 0 ∨ 785 ≤ (0 + v4).toNatClampNeg then none else
          if (512 + v4) < 0 ∨ 785 ≤ (512 + v4).toNatClampNeg then none else
          fX4_freeOn_5 n v1 v2 (v3 + 1) (v4 + 1) (upd (upd ro (0 + v4).toNatClampNeg 0) (512 + v4).toNatClampNeg (((upd ro (0 + v4).toNatClampNeg 0) 768) + 1))
        else
          fX4_freeOn_5 n v1 v2 v3 (v4 + 1) ro
def fX4_freeOn (ro : Nat → Int32) (a1 : Int32) (a2 : Int32) : Option (Int32 × (Nat → Int32)) :=
  fX4_freeOn_5 1000 a1 a2 0 a1 ro
set_option maxRecDepth 100000 in
set_option maxHeartbeats 4000000 in
theorem kX4_freeOn (l : Launch) (g : zG) (qr : Nat) (ro : Nat → Int32) (a1 : Int32) (a2 : Int32) {r : Int32} {ro' : Nat → Int32} (h : fX4_freeOn ro a1 a2 = some (r, ro')) : Mw l g yX4_freeOn wsX4_freeOn { frames := 6, cells := 0, slots := 0, locals := 132 } [.ref qr, .int a1, .int a2] (zR1 g qr ro) (zWi g (zR1 g qr ro') r) := by
  refine zw_in (cc := cX4_freeOn) (maxL := 8) (ret := (some .int)) (by decide) rfl (Nat.le_of_ble_eq_true rfl) ?_
  intro p e s m below meth c hx hb hr hml hts hown hlocks hK A hA hP hD hS ls hl
  replace hl : lv_has ls 8 [(0, .ref qr), (1, .int a1), (2, .int a2)] := hl
  have loop_103 : ∀ (n : Nat) (v1 : Int32) (v2 : Int32) (v3 : Int32) (v4 : Int32) (v6 : Int32) (v7 : Int32) (ro : (Nat → Int32)) (ro_o : (Nat → Int32)), fX4_freeOn_103 n v1 v2 v3 v4 v6 v7 ro = some ro_o → (∀ (H : Heap) (locs : List Loc), zP g (zR1 g qr ro_o) H → va_D A (zR1 g qr ro_o) → va_S A s.heap H locs → ∀ (ls : Array Slot), lv_has ls 8 [(0, .ref qr), (1, .int v1), (2, .int v2), (3, .int v3), (4, .int v4)] → W p l e ({ frames := 6, cells := 0, slots := 0, locals := 132 } : Room) s m [.ref qr, .int a1, .int a2].toArray below meth c H locs 0 0 (MQ below (zWi g (zR1 g qr ro') r A) [.ref qr, .int a1, .int a2].toArray s 0 0 A) (F0 m 129 ls [])) → ∀ (H : Heap) (locs : List Loc), zP g (zR1 g qr ro) H → va_D A (zR1 g qr ro) → va_S A s.heap H locs → ∀ (ls : Array Slot), lv_has ls 8 [(0, .ref qr), (1, .int v1), (2, .int v2), (3, .int v3), (4, .int v4), (6, .int v6), (7, .int v7)] → W p l e ({ frames := 6, cells := 0, slots := 0, locals := 132 } : Room) s m [.ref qr, .int a1, .int a2].toArray below meth c H locs 0 0 (MQ below (zWi g (zR1 g qr ro') r A) [.ref qr, .int a1, .int a2].toArray s 0 0 A) (F0 m 103 ls []) := by
    intro n
    induction n with
    | zero => intro v1 v2 v3 v4 v6 v7 ro ro_o h kk H locs hP hD hS ls hl; exact zn h
    | succ n ih =>
      intro v1 v2 v3 v4 v6 v7 ro ro_o h kk H locs hP hD hS ls hl
      rw [fX4_freeOn_103] at h
      refine lv_iload hx hb dX4_freeOn_103 (lv_at hl 6 rfl) ?_
      refine lv_iload hx hb dX4_freeOn_105 (lv_at hl 5 rfl) ?_
      refine lv_icmp_ge (tgt := 129) hx hb dX4_freeOn_107 (by decide) (fun c1 => ?_) (fun c1 => ?_)
      · replace h := zt c1 h
        cases h
        exact kk H locs hP hD hS ls (lv_sub hl [0, 1, 2, 3, 4] rfl)
      · replace h := zf c1 h
        refine lv_aload_n hx hb dX4_freeOn_110 rfl (lv_at hl 0 rfl) ?_
        refine lv_sipush (v := 512) hx hb dX4_freeOn_111 (by decide) ?_
        refine lv_iload hx hb dX4_freeOn_114 (lv_at hl 6 rfl) ?_
        refine lv_iadd hx hb dX4_freeOn_116 ?_
        refine lv_aload_n hx hb dX4_freeOn_117 rfl (lv_at hl 0 rfl) ?_
        refine lv_sipush (v := 768) hx hb dX4_freeOn_118 (by decide) ?_
        refine za_ild hx hb hK hP 0 rfl 768 (by decide) (by decide) dX4_freeOn_121 ?_
        obtain ⟨i2, h⟩ := zi h
        refine za_ist hx hb hK hP hD hS 0 rfl _ rfl i2 dX4_freeOn_122 (fun H locs hP hD hS => ?_)
        replace hP : zP g (zR1 g qr (upd ro (512 + v7).toNatClampNeg (ro 768))) H := hP
        replace hD : va_D A (zR1 g qr (upd ro (512 + v7).toNatClampNeg (ro 768))) := hD
        refine lv_iinc (v := (v7 + 1)) (lv' := [(7, .int (v7 + 1)), (0, .ref qr), (1, .int v1), (2, .int v2), (3, .int v3), (4, .int v4), (6, .int v6)]) hx hb dX4_freeOn_123 hl (k := 6) rfl rfl (by decide) rfl (fun ls hl => ?_)
        refine lv_goto (tgt := 103) hx hb dX4_freeOn_126 (by decide) ?_
        exact ih v1 v2 v3 v4 v6 (v7 + 1) (upd ro (512 + v7).toNatClampNeg (ro 768)) _ h kk H locs hP hD hS ls (lv_sub hl [1, 2, 3, 4, 5, 6, 0] rfl)
  have loop_57 : ∀ (n : Nat) (v1 : Int32) (v2 : Int32) (v3 : Int32) (v4 : Int32) (ro : (Nat → Int32)), fX4_freeOn_57 n v1 v2 v3 v4 ro = some (r, ro') → ∀ (H : Heap) (locs : List Loc), zP g (zR1 g qr ro) H → va_D A (zR1 g qr ro) → va_S A s.heap H locs → ∀ (ls : Array Slot), lv_has ls 8 [(0, .ref qr), (1, .int v1), (2, .int v2), (3, .int v3), (4, .int v4)] → W p l e ({ frames := 6, cells := 0, slots := 0, locals := 132 } : Room) s m [.ref qr, .int a1, .int a2].toArray below meth c H locs 0 0 (MQ below (zWi g (zR1 g qr ro') r A) [.ref qr, .int a1, .int a2].toArray s 0 0 A) (F0 m 57 ls []) := by
    intro n
    induction n with
    | zero => intro v1 v2 v3 v4 ro h H locs hP hD hS ls hl; exact zn h
    | succ n ih =>
      intro v1 v2 v3 v4 ro h H locs hP hD hS ls hl
      rw [fX4_freeOn_57] at h
      refine lv_iload hx hb dX4_freeOn_57 (lv_at hl 4 rfl) ?_
      refine lv_iload_n hx hb dX4_freeOn_59 rfl (lv_at hl 1 rfl) ?_
      refine lv_iload_n hx hb dX4_freeOn_60 rfl (lv_at hl 2 rfl) ?_
      refine lv_iadd hx hb dX4_freeOn_61 ?_
      refine lv_icmp_ge (tgt := 135) hx hb dX4_freeOn_62 (by decide) (fun c3 => ?_) (fun c3 => ?_)
      · replace h := zt c3 h
        refine lv_aload_n hx hb dX4_freeOn_135 rfl (lv_at hl 0 rfl) ?_
        refine lv_sipush (v := 769) hx hb dX4_freeOn_136 (by decide) ?_
        refine lv_iconst (v := 0) hx hb dX4_freeOn_139 (by decide) ?_
        refine za_ist hx hb hK hP hD hS 0 rfl 769 (by decide) (by decide) dX4_freeOn_140 (fun H locs hP hD hS => ?_)
        replace hP : zP g (zR1 g qr (upd ro 769 0)) H := hP
        replace hD : va_D A (zR1 g qr (upd ro 769 0)) := hD
        refine lv_aload_n hx hb dX4_freeOn_141 rfl (lv_at hl 0 rfl) ?_
        obtain ⟨ro4, e4, h⟩ := zb h
        refine zSw (As := [.ref qr]) (rest := []) (zWv_q g _) ⟨hx, hb, hml, hown, hts⟩ (kX4_limit l g qr (upd ro 769 0) e4) (va_cwS 1 hts gX4_freeOn_X4_limit rfl rfl rfl hdS_X4_limit ⟨Nat.le_of_ble_eq_true rfl, Nat.le_of_ble_eq_true rfl⟩) hK hP hD hS hA [0] (by decide) rfl rfl rfl hl.1 rfl (Nat.le_of_ble_eq_true rfl) ⟨Nat.zero_le _, Nat.zero_le _⟩ dX4_freeOn_142 (fun H locs hP hD hS => ?_)
        replace hP : zP g (zR1 g qr ro4) H := hP
        replace hD : va_D A (zR1 g qr ro4) := hD
        refine lv_iload_n hx hb dX4_freeOn_145 rfl (lv_at hl 3 rfl) ?_
        cases h
        exact zw_i hx hb hr hlocks hP hS dX4_freeOn_146
      · replace h := zf c3 h
        refine lv_aload_n hx hb dX4_freeOn_65 rfl (lv_at hl 0 rfl) ?_
        refine lv_sipush (v := 512) hx hb dX4_freeOn_66 (by decide) ?_
        refine lv_iload hx hb dX4_freeOn_69 (lv_at hl 4 rfl) ?_
        refine lv_iadd hx hb dX4_freeOn_71 ?_
        obtain ⟨i5, h⟩ := zi h
        refine za_ild hx hb hK hP 0 rfl _ rfl i5 dX4_freeOn_72 ?_
        refine lv_aload_n hx hb dX4_freeOn_73 rfl (lv_at hl 0 rfl) ?_
        refine lv_sipush (v := 768) hx hb dX4_freeOn_74 (by decide) ?_
        refine za_ild hx hb hK hP 0 rfl 768 (by decide) (by decide) dX4_freeOn_77 ?_
        refine lv_iconst (v := 1) hx hb dX4_freeOn_78 (by decide) ?_
        refine lv_iadd hx hb dX4_freeOn_79 ?_
        refine lv_icmp_ne (tgt := 129) hx hb dX4_freeOn_80 (by decide) (fun c6 => ?_) (fun c6 => ?_)
        · replace h := zf c6 h
          refine lv_iinc (v := (v4 + 1)) (lv' := [(4, .int (v4 + 1)), (0, .ref qr), (1, .int v1), (2, .int v2), (3, .int v3)]) hx hb dX4_freeOn_129 hl (k := 4) rfl rfl (by decide) rfl (fun ls hl => ?_)
          refine lv_goto (tgt := 57) hx hb dX4_freeOn_132 (by decide) ?_
          exact ih v1 v2 v3 (v4 + 1) ro h H locs hP hD hS ls (lv_sub hl [1, 2, 3, 4, 0] rfl)
        · replace h := zt c6 h
          refine lv_aload_n hx hb dX4_freeOn_83 rfl (lv_at hl 0 rfl) ?_
          refine lv_iload hx hb dX4_freeOn_84 (lv_at hl 4 rfl) ?_
          obtain ⟨r7, e7, h⟩ := zb h
          refine zS (As := [.ref qr, .int v4]) (rest := []) (zQi_q _) ⟨hx, hb, hml, hown, hts⟩ (kX4_startOf l g qr ro v4 e7) (va_cwS 2 hts gX4_freeOn_X4_startOf rfl rfl rfl hdS_X4_startOf ⟨Nat.le_of_ble_eq_true rfl, Nat.le_of_ble_eq_true rfl⟩) hK hP [0] rfl rfl hl.1 rfl (Nat.le_of_ble_eq_true rfl) ⟨Nat.zero_le _, Nat.zero_le _⟩ dX4_freeOn_86 ?_
          refine lv_istore (lv' := [(5, .int r7), (0, .ref qr), (1, .int v1), (2, .int v2), (3, .int v3), (4, .int v4)]) hx hb dX4_freeOn_89 hl (by decide) rfl (fun ls hl => ?_)
          refine lv_aload_n hx hb dX4_freeOn_91 rfl (lv_at hl 1 rfl) ?_
          refine lv_iload hx hb dX4_freeOn_92 (lv_at hl 5 rfl) ?_
          obtain ⟨r8, e8, h⟩ := zb h
          refine zS (As := [.ref qr, .int v4]) (rest := []) (zQi_q _) ⟨hx, hb, hml, hown, hts⟩ (kX4_endOf l g qr ro v4 e8) (va_cwS 2 hts gX4_freeOn_X4_endOf rfl rfl rfl hdS_X4_endOf ⟨Nat.le_of_ble_eq_true rfl, Nat.le_of_ble_eq_true rfl⟩) hK hP [0] rfl rfl hl.1 rfl (Nat.le_of_ble_eq_true rfl) ⟨Nat.zero_le _, Nat.zero_le _⟩ dX4_freeOn_94 ?_
          refine lv_istore (lv' := [(6, .int r8), (5, .int r7), (0, .ref qr), (1, .int v1), (2, .int v2), (3, .int v3), (4, .int v4)]) hx hb dX4_freeOn_97 hl (by decide) rfl (fun ls hl => ?_)
          refine lv_iload hx hb dX4_freeOn_99 (lv_at hl 1 rfl) ?_
          refine lv_istore (lv' := [(7, .int r7), (6, .int r8), (5, .int r7), (0, .ref qr), (1, .int v1), (2, .int v2), (3, .int v3), (4, .int v4)]) hx hb dX4_freeOn_101 hl (by decide) rfl (fun ls hl => ?_)
          obtain ⟨ro9, e9, h⟩ := zb h
          refine loop_103 1000 v1 v2 v3 v4 r8 r7 ro _ e9 (fun H locs hP hD hS ls hl => ?_) H locs hP hD hS ls (lv_sub hl [3, 4, 5, 6, 7, 1, 0] rfl)
          refine lv_iinc (v := (v4 + 1)) (lv' := [(4, .int (v4 + 1)), (0, .ref qr), (1, .int v1), (2, .int v2), (3, .int v3)]) hx hb dX4_freeOn_129 hl (k := 4) rfl rfl (by decide) rfl (fun ls hl => ?_)
          refine lv_goto (tgt := 57) hx hb dX4_freeOn_132 (by decide) ?_
          exact ih v1 v2 v3 (v4 + 1) ro9 h H locs hP hD hS ls (lv_sub hl [1, 2, 3, 4, 0] rfl)
  have loop_5 : ∀ (n : Nat) (v1 : Int32) (v2 : Int32) (v3 : Int32) (v4 : Int32) (ro : (Nat → Int32)), fX4_freeOn_5 n v1 v2 v3 v4 ro = some (r, ro') → ∀ (H : Heap) (locs : List Loc), zP g (zR1 g qr ro) H → va_D A (zR1 g qr ro) → va_S A s.heap H locs → ∀ (ls : Array Slot), lv_has ls 8 [(0, .ref qr), (1, .int v1), (2, .int v2), (3, .int v3), (4, .int v4)] → W p l e ({ frames := 6, cells := 0, slots := 0, locals := 132 } : Room) s m [.ref qr, .int a1, .int a2].toArray below meth c H locs 0 0 (MQ below (zWi g (zR1 g qr ro') r A) [.ref qr, .int a1, .int a2].toArray s 0 0 A) (F0 m 5 ls []) := by
    intro n
    induction n with
    | zero => intro v1 v2 v3 v4 ro h H locs hP hD hS ls hl; exact zn h
    | succ n ih =>
      intro v1 v2 v3 v4 ro h H locs hP hD hS ls hl
      rw [fX4_freeOn_5] at h
      refine lv_iload hx hb dX4_freeOn_5 (lv_at hl 4 rfl) ?_
      refine lv_iload_n hx hb dX4_freeOn_7 rfl (lv_at hl 1 rfl) ?_
      refine lv_iload_n hx hb dX4_freeOn_8 rfl (lv_at hl 2 rfl) ?_
      refine lv_iadd hx hb dX4_freeOn_9 ?_
      refine lv_icmp_ge (tgt := 54) hx hb dX4_freeOn_10 (by decide) (fun c10 => ?_) (fun c10 => ?_)
      · replace h := zt c10 h
        refine lv_iload_n hx hb dX4_freeOn_54 rfl (lv_at hl 1 rfl) ?_
        refine lv_istore (lv' := [(4, .int v1), (0, .ref qr), (1, .int v1), (2, .int v2), (3, .int v3)]) hx hb dX4_freeOn_55 hl (by decide) rfl (fun ls hl => ?_)
        exact loop_57 1000 v1 v2 v3 v1 ro h H locs hP hD hS ls (lv_sub hl [1, 2, 3, 4, 0] rfl)
      · replace h := zf c10 h
        refine lv_aload_n hx hb dX4_freeOn_13 rfl (lv_at hl 0 rfl) ?_
        refine lv_iconst (v := 0) hx hb dX4_freeOn_14 (by decide) ?_
        refine lv_iload hx hb dX4_freeOn_15 (lv_at hl 4 rfl) ?_
        refine lv_iadd hx hb dX4_freeOn_17 ?_
        obtain ⟨i11, h⟩ := zi h
        refine za_ild hx hb hK hP 0 rfl _ rfl i11 dX4_freeOn_18 ?_
        refine lv_iconst (v := 1) hx hb dX4_freeOn_19 (by decide) ?_
        refine lv_icmp_ne (tgt := 48) hx hb dX4_freeOn_20 (by decide) (fun c12 => ?_) (fun c12 => ?_)
        · replace h := zf c12 h
          refine lv_iinc (v := (v4 + 1)) (lv' := [(4, .int (v4 + 1)), (0, .ref qr), (1, .int v1), (2, .int v2), (3, .int v3)]) hx hb dX4_freeOn_48 hl (k := 4) rfl rfl (by decide) rfl (fun ls hl => ?_)
          refine lv_goto (tgt := 5) hx hb dX4_freeOn_51 (by decide) ?_
          exact ih v1 v2 v3 (v4 + 1) ro h H locs hP hD hS ls (lv_sub hl [1, 2, 3, 4, 0] rfl)
        · replace h := zt c12 h
          refine lv_iinc (v := (v3 + 1)) (lv' := [(3, .int (v3 + 1)), (0, .ref qr), (1, .int v1), (2, .int v2), (4, .int v4)]) hx hb dX4_freeOn_23 hl (k := 3) rfl rfl (by decide) rfl (fun ls hl => ?_)
          refine lv_aload_n hx hb dX4_freeOn_26 rfl (lv_at hl 1 rfl) ?_
          refine lv_iconst (v := 0) hx hb dX4_freeOn_27 (by decide) ?_
          refine lv_iload hx hb dX4_freeOn_28 (lv_at hl 4 rfl) ?_
          refine lv_iadd hx hb dX4_freeOn_30 ?_
          refine lv_iconst (v := 0) hx hb dX4_freeOn_31 (by decide) ?_
          obtain ⟨i13, h⟩ := zi h
          refine za_ist hx hb hK hP hD hS 0 rfl _ rfl i13 dX4_freeOn_32 (fun H locs hP hD hS => ?_)
          replace hP : zP g (zR1 g qr (upd ro (0 + v4).toNatClampNeg 0)) H := hP
          replace hD : va_D A (zR1 g qr (upd ro (0 + v4).toNatClampNeg 0)) := hD
          refine lv_aload_n hx hb dX4_freeOn_33 rfl (lv_at hl 1 rfl) ?_
          refine lv_sipush (v := 512) hx hb dX4_freeOn_34 (by decide) ?_
          refine lv_iload hx hb dX4_freeOn_37 (lv_at hl 4 rfl) ?_
          refine lv_iadd hx hb dX4_freeOn_39 ?_
          refine lv_aload_n hx hb dX4_freeOn_40 rfl (lv_at hl 1 rfl) ?_
          refine lv_sipush (v := 768) hx hb dX4_freeOn_41 (by decide) ?_
          refine za_ild hx hb hK hP 0 rfl 768 (by decide) (by decide) dX4_freeOn_44 ?_
          refine lv_iconst (v := 1) hx hb dX4_freeOn_45 (by decide) ?_
          refine lv_iadd hx hb dX4_freeOn_46 ?_
          obtain ⟨i14, h⟩ := zi h
          refine za_ist hx hb hK hP hD hS 0 rfl _ rfl i14 dX4_freeOn_47 (fun H locs hP hD hS => ?_)
          replace hP : zP g (zR1 g qr (upd (upd ro (0 + v4).toNatClampNeg 0) (512 + v4).toNatClampNeg (((upd ro (0 + v4).toNatClampNeg 0) 768) + 1))) H := hP
          replace hD : va_D A (zR1 g qr (upd (upd ro (0 + v4).toNatClampNeg 0) (512 + v4).toNatClampNeg (((upd ro (0 + v4).toNatClampNeg 0) 768) + 1))) := hD
          refine lv_iinc (v := (v4 + 1)) (lv' := [(4, .int (v4 + 1)), (3, .int (v3 + 1)), (0, .ref qr), (1, .int v1), (2, .int v2)]) hx hb dX4_freeOn_48 hl (k := 4) rfl rfl (by decide) rfl (fun ls hl => ?_)
          refine lv_goto (tgt := 5) hx hb dX4_freeOn_51 (by decide) ?_
          exact ih v1 v2 (v3 + 1) (v4 + 1) (upd (upd ro (0 + v4).toNatClampNeg 0) (512 + v4).toNatClampNeg (((upd ro (0 + v4).toNatClampNeg 0) 768) + 1)) h H locs hP hD hS ls (lv_sub hl [2, 3, 4, 1, 0] rfl)
  unfold fX4_freeOn at h
  refine lv_iconst (v := 0) hx hb dX4_freeOn_0 (by decide) ?_
  refine lv_istore_n (lv' := [(3, .int 0), (0, .ref qr), (1, .int a1), (2, .int a2)]) hx hb dX4_freeOn_1 rfl hl (by decide) rfl (fun ls hl => ?_)
  refine lv_iload_n hx hb dX4_freeOn_2 rfl (lv_at hl 2 rfl) ?_
  refine lv_istore (lv' := [(4, .int a1), (3, .int 0), (0, .ref qr), (1, .int a1), (2, .int a2)]) hx hb dX4_freeOn_3 hl (by decide) rfl (fun ls hl => ?_)
  exact loop_5 1000 a1 a2 0 a1 ro h s.heap [] hP hD hS ls (lv_sub hl [2, 3, 4, 1, 0] rfl)
theorem hdS_X4_allPinned : yX4_allPinned.cls ≠ "java/lang/invoke/MethodHandle" ∧ yX4_allPinned.cls ≠ "java/lang/invoke/VarHandle" ∧ (parseMethodDescriptor yX4_allPinned.desc).map (fun d => d.parameters.length) = some 1 := by decide +kernel
def fX4_pinOn (ro : Nat → Int32) (a1 : Int32) (a2 : Int32) (a3 : Int32) : Option (Int32 × (Nat → Int32)) :=
  if (779 + a1) < 0 ∨ 785 ≤ (779 + a1).toNatClampNeg then none else
  if (782 + a1) < 0 ∨ 785 ≤ (782 + a1).toNatClampNeg then none else
  ob (fX4_allPinned (upd (upd ro (779 + a1).toNatClampNeg a2) (782 + a1).toNatClampNeg a3)) fun r3 =>
  some (r3, (upd (upd ro (779 + a1).toNatClampNeg a2) (782 + a1).toNatClampNeg a3))
set_option maxRecDepth 100000 in
set_option maxHeartbeats 4000000 in
theorem kX4_pinOn (l : Launch) (g : zG) (qr : Nat) (ro : Nat → Int32) (a1 : Int32) (a2 : Int32) (a3 : Int32) {r : Int32} {ro' : Nat → Int32} (h : fX4_pinOn ro a1 a2 a3 = some (r, ro')) : Mw l g yX4_pinOn wsX4_pinOn { frames := 2, cells := 0, slots := 0, locals := 44 } [.ref qr, .int a1, .int a2, .int a3] (zR1 g qr ro) (zWi g (zR1 g qr ro') r) := by
  refine zw_in (cc := cX4_pinOn) (maxL := 4) (ret := (some .int)) (by decide) rfl (Nat.le_of_ble_eq_true rfl) ?_
  intro p e s m below meth c hx hb hr hml hts hown hlocks hK A hA hP hD hS ls hl
  replace hl : lv_has ls 4 [(0, .ref qr), (1, .int a1), (2, .int a2), (3, .int a3)] := hl
  unfold fX4_pinOn at h
  refine lv_aload_n hx hb dX4_pinOn_0 rfl (lv_at hl 0 rfl) ?_
  refine lv_sipush (v := 779) hx hb dX4_pinOn_1 (by decide) ?_
  refine lv_iload_n hx hb dX4_pinOn_4 rfl (lv_at hl 1 rfl) ?_
  refine lv_iadd hx hb dX4_pinOn_5 ?_
  refine lv_iload_n hx hb dX4_pinOn_6 rfl (lv_at hl 2 rfl) ?_
  obtain ⟨i1, h⟩ := zi h
  refine za_ist hx hb hK hP hD hS 0 rfl _ rfl i1 dX4_pinOn_7 (fun H locs hP hD hS => ?_)
  replace hP : zP g (zR1 g qr (upd ro (779 + a1).toNatClampNeg a2)) H := hP
  replace hD : va_D A (zR1 g qr (upd ro (779 + a1).toNatClampNeg a2)) := hD
  refine lv_aload_n hx hb dX4_pinOn_8 rfl (lv_at hl 0 rfl) ?_
  refine lv_sipush (v := 782) hx hb dX4_pinOn_9 (by decide) ?_
  refine lv_iload_n hx hb dX4_pinOn_12 rfl (lv_at hl 1 rfl) ?_
  refine lv_iadd hx hb dX4_pinOn_13 ?_
  refine lv_iload_n hx hb dX4_pinOn_14 rfl (lv_at hl 3 rfl) ?_
  obtain ⟨i2, h⟩ := zi h
  refine za_ist hx hb hK hP hD hS 0 rfl _ rfl i2 dX4_pinOn_15 (fun H locs hP hD hS => ?_)
  replace hP : zP g (zR1 g qr (upd (upd ro (779 + a1).toNatClampNeg a2) (782 + a1).toNatClampNeg a3)) H := hP
  replace hD : va_D A (zR1 g qr (upd (upd ro (779 + a1).toNatClampNeg a2) (782 + a1).toNatClampNeg a3)) := hD
  refine lv_aload_n hx hb dX4_pinOn_16 rfl (lv_at hl 0 rfl) ?_
  obtain ⟨r3, e3, h⟩ := zb h
  refine zS (As := [.ref qr]) (rest := []) (zQi_q _) ⟨hx, hb, hml, hown, hts⟩ (kX4_allPinned l g qr (upd (upd ro (779 + a1).toNatClampNeg a2) (782 + a1).toNatClampNeg a3) e3) (va_cwS 1 hts gX4_pinOn_X4_allPinned rfl rfl rfl hdS_X4_allPinned ⟨Nat.le_of_ble_eq_true rfl, Nat.le_of_ble_eq_true rfl⟩) hK hP [0] rfl rfl hl.1 rfl (Nat.le_of_ble_eq_true rfl) ⟨Nat.zero_le _, Nat.zero_le _⟩ dX4_pinOn_17 ?_
  cases h
  exact zw_i hx hb hr hlocks hP hS dX4_pinOn_20
def fX4_granule (ro : Nat → Int32) : Option (Int32) :=
  some (1 <<< ((ro 773) &&& 31))
set_option maxRecDepth 100000 in
set_option maxHeartbeats 4000000 in
theorem kX4_granule (l : Launch) (g : zG) (qr : Nat) (ro : Nat → Int32) {r : Int32} (h : fX4_granule ro = some r) : Mr l g yX4_granule wsX4_granule { frames := 0, cells := 0, slots := 0, locals := 0 } [.ref qr] (zR1 g qr ro) (zQi r) := by
  refine zr_in (cc := cX4_granule) (maxL := 1) (ret := (some .int)) (by decide) rfl (Nat.le_of_ble_eq_true rfl) ?_
  intro p e s m below meth c hx hb hr hml hts hown hlocks hP hK ls hl
  replace hl : lv_has ls 1 [(0, .ref qr)] := hl
  unfold fX4_granule at h
  refine lv_iconst (v := 1) hx hb dX4_granule_0 (by decide) ?_
  refine lv_aload_n hx hb dX4_granule_1 rfl (lv_at hl 0 rfl) ?_
  refine lv_sipush (v := 773) hx hb dX4_granule_2 (by decide) ?_
  refine za_ild hx hb hK hP 0 rfl 773 (by decide) (by decide) dX4_granule_5 ?_
  refine lv_ishl hx hb dX4_granule_6 ?_
  cases h
  exact zr_i hx hb hr hlocks dX4_granule_7
theorem hdS_X4_granule : yX4_granule.cls ≠ "java/lang/invoke/MethodHandle" ∧ yX4_granule.cls ≠ "java/lang/invoke/VarHandle" ∧ (parseMethodDescriptor yX4_granule.desc).map (fun d => d.parameters.length) = some 1 := by decide +kernel
def fX4_isGood_30 (ro : Nat → Int32) : Nat → Int32 → Int32 → Int32 → Option (Int32)
  | 0, _, _, _ => none
  | n + 1, v1, v2, v3 =>
    if (v1 + v2) ≤ v3 then
        some 1
      else
        ob (fX4_isQueued ro v3) fun r2 =>
        if r2 = 0 then
          some 0
        else
          ob (fX4_isPinned ro v3) fun r4 =>
          if r4 = 0 then
            fX4_isGood_30 ro n v1 v2 (v3 + 1)
          else
            some 0
def fX4_isGood (ro : Nat → Int32) (a1 : Int32) : Option (Int32) :=
  ob (fX4_granule ro) fun r6 =>
  ob (fX4_in a1.toInt64 0 ((256 - r6).toInt64)) fun r7 =>
  if r7 = 0 then
    some 0
  else
    if r6 = 0 then none else
    if (irem a1 r6) ≤ 0 then
      fX4_isGood_30 ro 1000 a1 r6 a1
    else
      some 0
set_option maxRecDepth 100000 in
set_option maxHeartbeats 4000000 in
theorem kX4_isGood (l : Launch) (g : zG) (qr : Nat) (ro : Nat → Int32) (a1 : Int32) {r : Int32} (h : fX4_isGood ro a1 = some r) : Mr l g yX4_isGood wsX4_isGood { frames := 3, cells := 0, slots := 0, locals := 66 } [.ref qr, .int a1] (zR1 g qr ro) (zQi r) := by
  refine zr_in (cc := cX4_isGood) (maxL := 4) (ret := (some .boolean)) (by decide) rfl (Nat.le_of_ble_eq_true rfl) ?_
  intro p e s m below meth c hx hb hr hml hts hown hlocks hP hK ls hl
  replace hl : lv_has ls 4 [(0, .ref qr), (1, .int a1)] := hl
  have loop_30 : ∀ (n : Nat) (v1 : Int32) (v2 : Int32) (v3 : Int32), fX4_isGood_30 ro n v1 v2 v3 = some r → ∀ (ls : Array Slot), lv_has ls 4 [(0, .ref qr), (1, .int v1), (2, .int v2), (3, .int v3)] → W p l e ({ frames := 3, cells := 0, slots := 0, locals := 66 } : Room) s m [.ref qr, .int a1].toArray below meth c s.heap [] 0 0 (MQ below (zQi r) [.ref qr, .int a1].toArray s 0 0 (fun _ => False)) (F0 m 30 ls []) := by
    intro n
    induction n with
    | zero => intro v1 v2 v3 h ls hl; exact zn h
    | succ n ih =>
      intro v1 v2 v3 h ls hl
      rw [fX4_isGood_30] at h
      refine lv_iload_n hx hb dX4_isGood_30 rfl (lv_at hl 3 rfl) ?_
      refine lv_iload_n hx hb dX4_isGood_31 rfl (lv_at hl 1 rfl) ?_
      refine lv_iload_n hx hb dX4_isGood_32 rfl (lv_at hl 2 rfl) ?_
      refine lv_iadd hx hb dX4_isGood_33 ?_
      refine lv_icmp_ge (tgt := 61) hx hb dX4_isGood_34 (by decide) (fun c1 => ?_) (fun c1 => ?_)
      · replace h := zt c1 h
        refine lv_iconst (v := 1) hx hb dX4_isGood_61 (by decide) ?_
        cases h
        exact zr_z hx hb hr hlocks (by decide) dX4_isGood_62
      · replace h := zf c1 h
        refine lv_aload_n hx hb dX4_isGood_37 rfl (lv_at hl 0 rfl) ?_
        refine lv_iload_n hx hb dX4_isGood_38 rfl (lv_at hl 3 rfl) ?_
        obtain ⟨r2, e2, h⟩ := zb h
        refine zS (As := [.ref qr, .int v3]) (rest := []) (zQi_q _) ⟨hx, hb, hml, hown, hts⟩ (kX4_isQueued l g qr ro v3 e2) (va_cwS 2 hts gX4_isGood_X4_isQueued rfl rfl rfl hdS_X4_isQueued ⟨Nat.le_of_ble_eq_true rfl, Nat.le_of_ble_eq_true rfl⟩) hK hP [0] rfl rfl hl.1 rfl (Nat.le_of_ble_eq_true rfl) ⟨Nat.zero_le _, Nat.zero_le _⟩ dX4_isGood_39 ?_
        refine lv_if_eq (tgt := 53) hx hb dX4_isGood_42 (by decide) (fun c3 => ?_) (fun c3 => ?_)
        · replace h := zt c3 h
          refine lv_iconst (v := 0) hx hb dX4_isGood_53 (by decide) ?_
          cases h
          exact zr_z hx hb hr hlocks (by decide) dX4_isGood_54
        · replace h := zf c3 h
          refine lv_aload_n hx hb dX4_isGood_45 rfl (lv_at hl 0 rfl) ?_
          refine lv_iload_n hx hb dX4_isGood_46 rfl (lv_at hl 3 rfl) ?_
          obtain ⟨r4, e4, h⟩ := zb h
          refine zS (As := [.ref qr, .int v3]) (rest := []) (zQi_q _) ⟨hx, hb, hml, hown, hts⟩ (kX4_isPinned l g qr ro v3 e4) (va_cwS 2 hts gX4_isGood_X4_isPinned rfl rfl rfl hdS_X4_isPinned ⟨Nat.le_of_ble_eq_true rfl, Nat.le_of_ble_eq_true rfl⟩) hK hP [0] rfl rfl hl.1 rfl (Nat.le_of_ble_eq_true rfl) ⟨Nat.zero_le _, Nat.zero_le _⟩ dX4_isGood_47 ?_
          refine lv_if_eq (tgt := 55) hx hb dX4_isGood_50 (by decide) (fun c5 => ?_) (fun c5 => ?_)
          · replace h := zt c5 h
            refine lv_iinc (v := (v3 + 1)) (lv' := [(3, .int (v3 + 1)), (0, .ref qr), (1, .int v1), (2, .int v2)]) hx hb dX4_isGood_55 hl (k := 3) rfl rfl (by decide) rfl (fun ls hl => ?_)
            refine lv_goto (tgt := 30) hx hb dX4_isGood_58 (by decide) ?_
            exact ih v1 v2 (v3 + 1) h ls (lv_sub hl [1, 2, 3, 0] rfl)
          · replace h := zf c5 h
            refine lv_iconst (v := 0) hx hb dX4_isGood_53 (by decide) ?_
            cases h
            exact zr_z hx hb hr hlocks (by decide) dX4_isGood_54
  unfold fX4_isGood at h
  refine lv_aload_n hx hb dX4_isGood_0 rfl (lv_at hl 0 rfl) ?_
  obtain ⟨r6, e6, h⟩ := zb h
  refine zS (As := [.ref qr]) (rest := []) (zQi_q _) ⟨hx, hb, hml, hown, hts⟩ (kX4_granule l g qr ro e6) (va_cwS 1 hts gX4_isGood_X4_granule rfl rfl rfl hdS_X4_granule ⟨Nat.le_of_ble_eq_true rfl, Nat.le_of_ble_eq_true rfl⟩) hK hP [0] rfl rfl hl.1 rfl (Nat.le_of_ble_eq_true rfl) ⟨Nat.zero_le _, Nat.zero_le _⟩ dX4_isGood_1 ?_
  refine lv_istore_n (lv' := [(2, .int r6), (0, .ref qr), (1, .int a1)]) hx hb dX4_isGood_4 rfl hl (by decide) rfl (fun ls hl => ?_)
  refine lv_iload_n hx hb dX4_isGood_5 rfl (lv_at hl 2 rfl) ?_
  refine lv_i2l (v := a1.toInt64) hx hb dX4_isGood_6 rfl ?_
  refine lv_lconst (v := 0) hx hb dX4_isGood_7 (by decide) ?_
  refine lv_sipush (v := 256) hx hb dX4_isGood_8 (by decide) ?_
  refine lv_iload_n hx hb dX4_isGood_11 rfl (lv_at hl 0 rfl) ?_
  refine lv_isub hx hb dX4_isGood_12 ?_
  refine lv_i2l (v := (256 - r6).toInt64) hx hb dX4_isGood_13 rfl ?_
  obtain ⟨r7, e7, h⟩ := zb h
  refine zS (As := [.long a1.toInt64, .long 0, .long ((256 - r6).toInt64)]) (rest := []) (zQi_q _) ⟨hx, hb, hml, hown, hts⟩ (kX4_in l g a1.toInt64 0 ((256 - r6).toInt64) e7) (va_cwS 3 hts gX4_isGood_X4_in rfl rfl rfl hdS_X4_in ⟨Nat.le_of_ble_eq_true rfl, Nat.le_of_ble_eq_true rfl⟩) hK hP [] rfl rfl hl.1 rfl (Nat.le_of_ble_eq_true rfl) ⟨Nat.zero_le _, Nat.zero_le _⟩ dX4_isGood_14 ?_
  refine lv_if_eq (tgt := 26) hx hb dX4_isGood_17 (by decide) (fun c8 => ?_) (fun c8 => ?_)
  · replace h := zt c8 h
    refine lv_iconst (v := 0) hx hb dX4_isGood_26 (by decide) ?_
    cases h
    exact zr_z hx hb hr hlocks (by decide) dX4_isGood_27
  · replace h := zf c8 h
    refine lv_iload_n hx hb dX4_isGood_20 rfl (lv_at hl 2 rfl) ?_
    refine lv_iload_n hx hb dX4_isGood_21 rfl (lv_at hl 0 rfl) ?_
    obtain ⟨i9, h⟩ := zi h
    refine lv_irem hx hb dX4_isGood_22 i9 ?_
    refine lv_if_le (tgt := 28) hx hb dX4_isGood_23 (by decide) (fun c10 => ?_) (fun c10 => ?_)
    · replace h := zt c10 h
      refine lv_iload_n hx hb dX4_isGood_28 rfl (lv_at hl 2 rfl) ?_
      refine lv_istore_n (lv' := [(3, .int a1), (2, .int r6), (0, .ref qr), (1, .int a1)]) hx hb dX4_isGood_29 rfl hl (by decide) rfl (fun ls hl => ?_)
      exact loop_30 1000 a1 r6 a1 h ls (lv_sub hl [2, 3, 1, 0] rfl)
    · replace h := zf c10 h
      refine lv_iconst (v := 0) hx hb dX4_isGood_26 (by decide) ?_
      cases h
      exact zr_z hx hb hr hlocks (by decide) dX4_isGood_27
theorem hdS_X4_isGood : yX4_isGood.cls ≠ "java/lang/invoke/MethodHandle" ∧ yX4_isGood.cls ≠ "java/lang/invoke/VarHandle" ∧ (parseMethodDescriptor yX4_isGood.desc).map (fun d => d.parameters.length) = some 2 := by decide +kernel
def fX4_piece_27 (ro : Nat → Int32) : Nat → Int32 → Int32 → Int32 → Option (Int32)
  | 0, _, _, _ => none
  | n + 1, v1, v2, v3 =>
    ob (fX4_isGood ro (v1 + (v3 * v2))) fun r1 =>
      if r1 = 0 then
        some v3
      else
        fX4_piece_27 ro n v1 v2 (v3 + 1)
def fX4_piece (ro : Nat → Int32) (a1 : Int32) : Option (Int32) :=
  ob (fX4_granule ro) fun r3 =>
  ob (fX4_isGood ro a1) fun r4 =>
  if r4 = 0 then
    some 0
  else
    ob (fX4_isGood ro (a1 - r3)) fun r6 =>
    if r6 = 0 then
      fX4_piece_27 ro 1000 a1 r3 0
    else
      some 0
set_option maxRecDepth 100000 in
set_option maxHeartbeats 4000000 in
theorem kX4_piece (l : Launch) (g : zG) (qr : Nat) (ro : Nat → Int32) (a1 : Int32) {r : Int32} (h : fX4_piece ro a1 = some r) : Mr l g yX4_piece wsX4_piece { frames := 4, cells := 0, slots := 0, locals := 89 } [.ref qr, .int a1] (zR1 g qr ro) (zQi r) := by
  refine zr_in (cc := cX4_piece) (maxL := 4) (ret := (some .int)) (by decide) rfl (Nat.le_of_ble_eq_true rfl) ?_
  intro p e s m below meth c hx hb hr hml hts hown hlocks hP hK ls hl
  replace hl : lv_has ls 4 [(0, .ref qr), (1, .int a1)] := hl
  have loop_27 : ∀ (n : Nat) (v1 : Int32) (v2 : Int32) (v3 : Int32), fX4_piece_27 ro n v1 v2 v3 = some r → ∀ (ls : Array Slot), lv_has ls 4 [(0, .ref qr), (1, .int v1), (2, .int v2), (3, .int v3)] → W p l e ({ frames := 4, cells := 0, slots := 0, locals := 89 } : Room) s m [.ref qr, .int a1].toArray below meth c s.heap [] 0 0 (MQ below (zQi r) [.ref qr, .int a1].toArray s 0 0 (fun _ => False)) (F0 m 27 ls []) := by
    intro n
    induction n with
    | zero => intro v1 v2 v3 h ls hl; exact zn h
    | succ n ih =>
      intro v1 v2 v3 h ls hl
      rw [fX4_piece_27] at h
      refine lv_aload_n hx hb dX4_piece_27 rfl (lv_at hl 0 rfl) ?_
      refine lv_iload_n hx hb dX4_piece_28 rfl (lv_at hl 1 rfl) ?_
      refine lv_iload_n hx hb dX4_piece_29 rfl (lv_at hl 3 rfl) ?_
      refine lv_iload_n hx hb dX4_piece_30 rfl (lv_at hl 2 rfl) ?_
      refine lv_imul hx hb dX4_piece_31 ?_
      refine lv_iadd hx hb dX4_piece_32 ?_
      obtain ⟨r1, e1, h⟩ := zb h
      refine zS (As := [.ref qr, .int (v1 + (v3 * v2))]) (rest := []) (zQi_q _) ⟨hx, hb, hml, hown, hts⟩ (kX4_isGood l g qr ro (v1 + (v3 * v2)) e1) (va_cwS 2 hts gX4_piece_X4_isGood rfl rfl rfl hdS_X4_isGood ⟨Nat.le_of_ble_eq_true rfl, Nat.le_of_ble_eq_true rfl⟩) hK hP [0] rfl rfl hl.1 rfl (Nat.le_of_ble_eq_true rfl) ⟨Nat.zero_le _, Nat.zero_le _⟩ dX4_piece_33 ?_
      refine lv_if_eq (tgt := 45) hx hb dX4_piece_36 (by decide) (fun c2 => ?_) (fun c2 => ?_)
      · replace h := zt c2 h
        refine lv_iload_n hx hb dX4_piece_45 rfl (lv_at hl 3 rfl) ?_
        cases h
        exact zr_i hx hb hr hlocks dX4_piece_46
      · replace h := zf c2 h
        refine lv_iinc (v := (v3 + 1)) (lv' := [(3, .int (v3 + 1)), (0, .ref qr), (1, .int v1), (2, .int v2)]) hx hb dX4_piece_39 hl (k := 3) rfl rfl (by decide) rfl (fun ls hl => ?_)
        refine lv_goto (tgt := 27) hx hb dX4_piece_42 (by decide) ?_
        exact ih v1 v2 (v3 + 1) h ls (lv_sub hl [1, 2, 3, 0] rfl)
  unfold fX4_piece at h
  refine lv_aload_n hx hb dX4_piece_0 rfl (lv_at hl 0 rfl) ?_
  obtain ⟨r3, e3, h⟩ := zb h
  refine zS (As := [.ref qr]) (rest := []) (zQi_q _) ⟨hx, hb, hml, hown, hts⟩ (kX4_granule l g qr ro e3) (va_cwS 1 hts gX4_piece_X4_granule rfl rfl rfl hdS_X4_granule ⟨Nat.le_of_ble_eq_true rfl, Nat.le_of_ble_eq_true rfl⟩) hK hP [0] rfl rfl hl.1 rfl (Nat.le_of_ble_eq_true rfl) ⟨Nat.zero_le _, Nat.zero_le _⟩ dX4_piece_1 ?_
  refine lv_istore_n (lv' := [(2, .int r3), (0, .ref qr), (1, .int a1)]) hx hb dX4_piece_4 rfl hl (by decide) rfl (fun ls hl => ?_)
  refine lv_aload_n hx hb dX4_piece_5 rfl (lv_at hl 1 rfl) ?_
  refine lv_iload_n hx hb dX4_piece_6 rfl (lv_at hl 2 rfl) ?_
  obtain ⟨r4, e4, h⟩ := zb h
  refine zS (As := [.ref qr, .int a1]) (rest := []) (zQi_q _) ⟨hx, hb, hml, hown, hts⟩ (kX4_isGood l g qr ro a1 e4) (va_cwS 2 hts gX4_piece_X4_isGood rfl rfl rfl hdS_X4_isGood ⟨Nat.le_of_ble_eq_true rfl, Nat.le_of_ble_eq_true rfl⟩) hK hP [0] rfl rfl hl.1 rfl (Nat.le_of_ble_eq_true rfl) ⟨Nat.zero_le _, Nat.zero_le _⟩ dX4_piece_7 ?_
  refine lv_if_eq (tgt := 23) hx hb dX4_piece_10 (by decide) (fun c5 => ?_) (fun c5 => ?_)
  · replace h := zt c5 h
    refine lv_iconst (v := 0) hx hb dX4_piece_23 (by decide) ?_
    cases h
    exact zr_i hx hb hr hlocks dX4_piece_24
  · replace h := zf c5 h
    refine lv_aload_n hx hb dX4_piece_13 rfl (lv_at hl 1 rfl) ?_
    refine lv_iload_n hx hb dX4_piece_14 rfl (lv_at hl 2 rfl) ?_
    refine lv_iload_n hx hb dX4_piece_15 rfl (lv_at hl 0 rfl) ?_
    refine lv_isub hx hb dX4_piece_16 ?_
    obtain ⟨r6, e6, h⟩ := zb h
    refine zS (As := [.ref qr, .int (a1 - r3)]) (rest := []) (zQi_q _) ⟨hx, hb, hml, hown, hts⟩ (kX4_isGood l g qr ro (a1 - r3) e6) (va_cwS 2 hts gX4_piece_X4_isGood rfl rfl rfl hdS_X4_isGood ⟨Nat.le_of_ble_eq_true rfl, Nat.le_of_ble_eq_true rfl⟩) hK hP [0] rfl rfl hl.1 rfl (Nat.le_of_ble_eq_true rfl) ⟨Nat.zero_le _, Nat.zero_le _⟩ dX4_piece_17 ?_
    refine lv_if_eq (tgt := 25) hx hb dX4_piece_20 (by decide) (fun c7 => ?_) (fun c7 => ?_)
    · replace h := zt c7 h
      refine lv_iconst (v := 0) hx hb dX4_piece_25 (by decide) ?_
      refine lv_istore_n (lv' := [(3, .int 0), (2, .int r3), (0, .ref qr), (1, .int a1)]) hx hb dX4_piece_26 rfl hl (by decide) rfl (fun ls hl => ?_)
      exact loop_27 1000 a1 r3 0 h ls (lv_sub hl [2, 3, 1, 0] rfl)
    · replace h := zf c7 h
      refine lv_iconst (v := 0) hx hb dX4_piece_23 (by decide) ?_
      cases h
      exact zr_i hx hb hr hlocks dX4_piece_24
def fX4_isDue (ro : Nat → Int32) (a1 : Int32) : Option (Int32) :=
  if (512 + a1) < 0 ∨ 785 ≤ (512 + a1).toNatClampNeg then none else
  if ((ro 768) - (ro (512 + a1).toNatClampNeg)) < (ro 776) then
    some 0
  else
    some 1
set_option maxRecDepth 100000 in
set_option maxHeartbeats 4000000 in
theorem kX4_isDue (l : Launch) (g : zG) (qr : Nat) (ro : Nat → Int32) (a1 : Int32) {r : Int32} (h : fX4_isDue ro a1 = some r) : Mr l g yX4_isDue wsX4_isDue { frames := 0, cells := 0, slots := 0, locals := 0 } [.ref qr, .int a1] (zR1 g qr ro) (zQi r) := by
  refine zr_in (cc := cX4_isDue) (maxL := 2) (ret := (some .boolean)) (by decide) rfl (Nat.le_of_ble_eq_true rfl) ?_
  intro p e s m below meth c hx hb hr hml hts hown hlocks hP hK ls hl
  replace hl : lv_has ls 2 [(0, .ref qr), (1, .int a1)] := hl
  unfold fX4_isDue at h
  refine lv_aload_n hx hb dX4_isDue_0 rfl (lv_at hl 0 rfl) ?_
  refine lv_sipush (v := 768) hx hb dX4_isDue_1 (by decide) ?_
  refine za_ild hx hb hK hP 0 rfl 768 (by decide) (by decide) dX4_isDue_4 ?_
  refine lv_aload_n hx hb dX4_isDue_5 rfl (lv_at hl 0 rfl) ?_
  refine lv_sipush (v := 512) hx hb dX4_isDue_6 (by decide) ?_
  refine lv_iload_n hx hb dX4_isDue_9 rfl (lv_at hl 1 rfl) ?_
  refine lv_iadd hx hb dX4_isDue_10 ?_
  obtain ⟨i1, h⟩ := zi h
  refine za_ild hx hb hK hP 0 rfl _ rfl i1 dX4_isDue_11 ?_
  refine lv_isub hx hb dX4_isDue_12 ?_
  refine lv_aload_n hx hb dX4_isDue_13 rfl (lv_at hl 0 rfl) ?_
  refine lv_sipush (v := 776) hx hb dX4_isDue_14 (by decide) ?_
  refine za_ild hx hb hK hP 0 rfl 776 (by decide) (by decide) dX4_isDue_17 ?_
  refine lv_icmp_lt (tgt := 25) hx hb dX4_isDue_18 (by decide) (fun c2 => ?_) (fun c2 => ?_)
  · replace h := zt c2 h
    refine lv_iconst (v := 0) hx hb dX4_isDue_25 (by decide) ?_
    cases h
    exact zr_z hx hb hr hlocks (by decide) dX4_isDue_26
  · replace h := zf c2 h
    refine lv_iconst (v := 1) hx hb dX4_isDue_21 (by decide) ?_
    refine lv_goto (tgt := 26) hx hb dX4_isDue_22 (by decide) ?_
    cases h
    exact zr_z hx hb hr hlocks (by decide) dX4_isDue_26
theorem hdS_X4_isDue : yX4_isDue.cls ≠ "java/lang/invoke/MethodHandle" ∧ yX4_isDue.cls ≠ "java/lang/invoke/VarHandle" ∧ (parseMethodDescriptor yX4_isDue.desc).map (fun d => d.parameters.length) = some 2 := by decide +kernel
theorem hdS_X4_piece : yX4_piece.cls ≠ "java/lang/invoke/MethodHandle" ∧ yX4_piece.cls ≠ "java/lang/invoke/VarHandle" ∧ (parseMethodDescriptor yX4_piece.desc).map (fun d => d.parameters.length) = some 2 := by decide +kernel
def fX4_chosen_5 (ro : Nat → Int32) : Nat → Int32 → Int32 → Int32 → Int32 → Option (Int32)
  | 0, _, _, _, _ => none
  | n + 1, v1, v2, v3, v4 =>
    if 256 ≤ v4 then
        some v3
      else
        ob (fX4_piece ro v4) fun r2 =>
        if r2 ≤ 0 then
          fX4_chosen_5 ro n v1 v2 v3 (v4 + 1)
        else
          if v2 = 0 then
            if v3 = (-1) then
              fX4_chosen_5 ro n v1 v2 v4 (v4 + 1)
            else
              if v1 = 0 then
                if (512 + v4) < 0 ∨ 785 ≤ (512 + v4).toNatClampNeg then none else
                if (512 + v3) < 0 ∨ 785 ≤ (512 + v3).toNatClampNeg then none else
                if (ro (512 + v4).toNatClampNeg) < (ro (512 + v3).toNatClampNeg) then
                  fX4_chosen_5 ro n v1 v2 v4 (v4 + 1)
                else
                  if v1 = 1 then
                    ob (fX4_piece ro v4) fun r21 =>
                    ob (fX4_piece ro v3) fun r22 =>
                    if r21 ≤ r22 then
                      fX4_chosen_5 ro n v1 v2 v3 (v4 + 1)
                    else
                      fX4_chosen_5 ro n v1 v2 v4 (v4 + 1)
                  else
                    fX4_chosen_5 ro n v1 v2 v3 (v4 + 1)
              else
                if v1 = 1 then
                  ob (fX4_piece ro v4) fun r10 =>
                  ob (fX4_piece ro v3) fun r11 =>
                  if r10 ≤ r11 then
                    fX4_chosen_5 ro n v1 v2 v3 (v4 + 1)
                  else
                    fX4_chosen_5 ro n v1 v2 v4 (v4 + 1)
                else
                  fX4_chosen_5 ro n v1 v2 v3 (v4 + 1)
          else
            ob (fX4_isDue ro v4) fun r26 =>
            if r26 = 0 then
              fX4_chosen_5 ro n v1 v2 v3 (v4 + 1)
            else
              if v3 = (-1) then
                fX4_chosen_5 ro n v1 v2 v4 (v4 + 1)
              else
                if v1 = 0 then
                  if (512 + v4) < 0 ∨ 785 ≤ (512 + v4).toNatClampNeg then none else
                  if (512 + v3) < 0 ∨ 785 ≤ (512 + v3).toNatClampNeg then none else
                  if (ro (512 + v4).toNatClampNeg) < (ro (512 + v3).toNatClampNeg) then
                    fX4_chosen_5 ro n v1 v2 v4 (v4 + 1)
                  else
                    if v1 = 1 then
                      ob (fX4_piece ro v4) fun r44 =>
                      ob (fX4_piece ro v3) fun r45 =>
                      if r44 ≤ r45 then
                        fX4_chosen_5 ro n v1 v2 v3 (v4 + 1)
                      else
                        fX4_chosen_5 ro n v1 v2 v4 (v4 + 1)
                    else
                      fX4_chosen_5 ro n v1 v2 v3 (v4 + 1)
                else
                  if v1 = 1 then
                    ob (fX4_piece ro v4) fun r33 =>
                    ob (fX4_piece ro v3) fun r34 =>
                    if r33 ≤ r34 then
                      fX4_chosen_5 ro n v1 v2 v3 (v4 + 1)
                    else
                      fX4_chosen_5 ro n v1 v2 v4 (v4 + 1)
                  else
                    fX4_chosen_5 ro n v1 v2 v3 (v4 + 1)
def fX4_chosen (ro : Nat → Int32) (a1 : Int32) (a2 : Int32) : Option (Int32) :=
  fX4_chosen_5 ro 1000 a1 a2 (-1) 0
set_option maxRecDepth 100000 in
set_option maxHeartbeats 4000000 in
theorem kX4_chosen (l : Launch) (g : zG) (qr : Nat) (ro : Nat → Int32) (a1 : Int32) (a2 : Int32) {r : Int32} (h : fX4_chosen ro a1 a2 = some r) : Mr l g yX4_chosen wsX4_chosen { frames := 5, cells := 0, slots := 0, locals := 112 } [.ref qr, .int a1, .int a2] (zR1 g qr ro) (zQi r) := by
  refine zr_in (cc := cX4_chosen) (maxL := 6) (ret := (some .int)) (by decide) rfl (Nat.le_of_ble_eq_true rfl) ?_
  intro p e s m below meth c hx hb hr hml hts hown hlocks hP hK ls hl
  replace hl : lv_has ls 6 [(0, .ref qr), (1, .int a1), (2, .int a2)] := hl
  have loop_5 : ∀ (n : Nat) (v1 : Int32) (v2 : Int32) (v3 : Int32) (v4 : Int32), fX4_chosen_5 ro n v1 v2 v3 v4 = some r → ∀ (ls : Array Slot), lv_has ls 6 [(0, .ref qr), (1, .int v1), (2, .int v2), (3, .int v3), (4, .int v4)] → W p l e ({ frames := 5, cells := 0, slots := 0, locals := 112 } : Room) s m [.ref qr, .int a1, .int a2].toArray below meth c s.heap [] 0 0 (MQ below (zQi r) [.ref qr, .int a1, .int a2].toArray s 0 0 (fun _ => False)) (F0 m 5 ls []) := by
    intro n
    induction n with
    | zero => intro v1 v2 v3 v4 h ls hl; exact zn h
    | succ n ih =>
      intro v1 v2 v3 v4 h ls hl
      rw [fX4_chosen_5] at h
      refine lv_iload hx hb dX4_chosen_5 (lv_at hl 4 rfl) ?_
      refine lv_sipush (v := 256) hx hb dX4_chosen_7 (by decide) ?_
      refine lv_icmp_ge (tgt := 106) hx hb dX4_chosen_10 (by decide) (fun c1 => ?_) (fun c1 => ?_)
      · replace h := zt c1 h
        refine lv_iload_n hx hb dX4_chosen_106 rfl (lv_at hl 3 rfl) ?_
        cases h
        exact zr_i hx hb hr hlocks dX4_chosen_107
      · replace h := zf c1 h
        refine lv_aload_n hx hb dX4_chosen_13 rfl (lv_at hl 0 rfl) ?_
        refine lv_iload hx hb dX4_chosen_14 (lv_at hl 4 rfl) ?_
        obtain ⟨r2, e2, h⟩ := zb h
        refine zS (As := [.ref qr, .int v4]) (rest := []) (zQi_q _) ⟨hx, hb, hml, hown, hts⟩ (kX4_piece l g qr ro v4 e2) (va_cwS 2 hts gX4_chosen_X4_piece rfl rfl rfl hdS_X4_piece ⟨Nat.le_of_ble_eq_true rfl, Nat.le_of_ble_eq_true rfl⟩) hK hP [0] rfl rfl hl.1 rfl (Nat.le_of_ble_eq_true rfl) ⟨Nat.zero_le _, Nat.zero_le _⟩ dX4_chosen_16 ?_
        refine lv_if_le (tgt := 100) hx hb dX4_chosen_19 (by decide) (fun c3 => ?_) (fun c3 => ?_)
        · replace h := zt c3 h
          refine lv_iinc (v := (v4 + 1)) (lv' := [(4, .int (v4 + 1)), (0, .ref qr), (1, .int v1), (2, .int v2), (3, .int v3)]) hx hb dX4_chosen_100 hl (k := 4) rfl rfl (by decide) rfl (fun ls hl => ?_)
          refine lv_goto (tgt := 5) hx hb dX4_chosen_103 (by decide) ?_
          exact ih v1 v2 v3 (v4 + 1) h ls (lv_sub hl [1, 2, 3, 4, 0] rfl)
        · replace h := zf c3 h
          refine lv_iload_n hx hb dX4_chosen_22 rfl (lv_at hl 2 rfl) ?_
          refine lv_if_eq (tgt := 35) hx hb dX4_chosen_23 (by decide) (fun c4 => ?_) (fun c4 => ?_)
          · replace h := zt c4 h
            refine lv_iload_n hx hb dX4_chosen_35 rfl (lv_at hl 3 rfl) ?_
            refine lv_iconst (v := (-1)) hx hb dX4_chosen_36 (by decide) ?_
            refine lv_icmp_eq (tgt := 81) hx hb dX4_chosen_37 (by decide) (fun c5 => ?_) (fun c5 => ?_)
            · replace h := zt c5 h
              refine lv_iconst (v := 1) hx hb dX4_chosen_81 (by decide) ?_
              refine lv_goto (tgt := 86) hx hb dX4_chosen_82 (by decide) ?_
              refine lv_istore (lv' := [(5, .int 1), (0, .ref qr), (1, .int v1), (2, .int v2), (3, .int v3), (4, .int v4)]) hx hb dX4_chosen_86 hl (by decide) rfl (fun ls hl => ?_)
              refine lv_iload hx hb dX4_chosen_88 (lv_at hl 0 rfl) ?_
              refine lv_if_eq (tgt := 98) hx hb dX4_chosen_90 (by decide) (fun c6 => absurd c6 (by decide)) (fun _ => ?_)
              refine lv_iload hx hb dX4_chosen_93 (lv_at hl 5 rfl) ?_
              refine lv_goto (tgt := 99) hx hb dX4_chosen_95 (by decide) ?_
              refine lv_istore_n (lv' := [(3, .int v4), (5, .int 1), (0, .ref qr), (1, .int v1), (2, .int v2), (4, .int v4)]) hx hb dX4_chosen_99 rfl hl (by decide) rfl (fun ls hl => ?_)
              refine lv_iinc (v := (v4 + 1)) (lv' := [(4, .int (v4 + 1)), (3, .int v4), (5, .int 1), (0, .ref qr), (1, .int v1), (2, .int v2)]) hx hb dX4_chosen_100 hl (k := 5) rfl rfl (by decide) rfl (fun ls hl => ?_)
              refine lv_goto (tgt := 5) hx hb dX4_chosen_103 (by decide) ?_
              exact ih v1 v2 v4 (v4 + 1) h ls (lv_sub hl [3, 4, 5, 1, 0] rfl)
            · replace h := zf c5 h
              refine lv_iload_n hx hb dX4_chosen_40 rfl (lv_at hl 1 rfl) ?_
              refine lv_if_ne (tgt := 62) hx hb dX4_chosen_41 (by decide) (fun c7 => ?_) (fun c7 => ?_)
              · replace h := zf c7 h
                refine lv_iload_n hx hb dX4_chosen_62 rfl (lv_at hl 1 rfl) ?_
                refine lv_iconst (v := 1) hx hb dX4_chosen_63 (by decide) ?_
                refine lv_icmp_ne (tgt := 85) hx hb dX4_chosen_64 (by decide) (fun c8 => ?_) (fun c8 => ?_)
                · replace h := zf c8 h
                  refine lv_iconst (v := 0) hx hb dX4_chosen_85 (by decide) ?_
                  refine lv_istore (lv' := [(5, .int 0), (0, .ref qr), (1, .int v1), (2, .int v2), (3, .int v3), (4, .int v4)]) hx hb dX4_chosen_86 hl (by decide) rfl (fun ls hl => ?_)
                  refine lv_iload hx hb dX4_chosen_88 (lv_at hl 0 rfl) ?_
                  refine lv_if_eq (tgt := 98) hx hb dX4_chosen_90 (by decide) (fun _ => ?_) (fun c9 => absurd (by decide) c9)
                  refine lv_iload_n hx hb dX4_chosen_98 rfl (lv_at hl 4 rfl) ?_
                  refine lv_istore_n (lv' := [(3, .int v3), (5, .int 0), (0, .ref qr), (1, .int v1), (2, .int v2), (4, .int v4)]) hx hb dX4_chosen_99 rfl hl (by decide) rfl (fun ls hl => ?_)
                  refine lv_iinc (v := (v4 + 1)) (lv' := [(4, .int (v4 + 1)), (3, .int v3), (5, .int 0), (0, .ref qr), (1, .int v1), (2, .int v2)]) hx hb dX4_chosen_100 hl (k := 5) rfl rfl (by decide) rfl (fun ls hl => ?_)
                  refine lv_goto (tgt := 5) hx hb dX4_chosen_103 (by decide) ?_
                  exact ih v1 v2 v3 (v4 + 1) h ls (lv_sub hl [3, 4, 5, 1, 0] rfl)
                · replace h := zt c8 h
                  refine lv_aload_n hx hb dX4_chosen_67 rfl (lv_at hl 0 rfl) ?_
                  refine lv_iload hx hb dX4_chosen_68 (lv_at hl 4 rfl) ?_
                  obtain ⟨r10, e10, h⟩ := zb h
                  refine zS (As := [.ref qr, .int v4]) (rest := []) (zQi_q _) ⟨hx, hb, hml, hown, hts⟩ (kX4_piece l g qr ro v4 e10) (va_cwS 2 hts gX4_chosen_X4_piece rfl rfl rfl hdS_X4_piece ⟨Nat.le_of_ble_eq_true rfl, Nat.le_of_ble_eq_true rfl⟩) hK hP [0] rfl rfl hl.1 rfl (Nat.le_of_ble_eq_true rfl) ⟨Nat.zero_le _, Nat.zero_le _⟩ dX4_chosen_70 ?_
                  refine lv_aload_n hx hb dX4_chosen_73 rfl (lv_at hl 0 rfl) ?_
                  refine lv_iload_n hx hb dX4_chosen_74 rfl (lv_at hl 3 rfl) ?_
                  obtain ⟨r11, e11, h⟩ := zb h
                  refine zS (As := [.ref qr, .int v3]) (rest := [.int r10]) (zQi_q _) ⟨hx, hb, hml, hown, hts⟩ (kX4_piece l g qr ro v3 e11) (va_cwS 2 hts gX4_chosen_X4_piece rfl rfl rfl hdS_X4_piece ⟨Nat.le_of_ble_eq_true rfl, Nat.le_of_ble_eq_true rfl⟩) hK hP [0] rfl rfl hl.1 rfl (Nat.le_of_ble_eq_true rfl) ⟨Nat.zero_le _, Nat.zero_le _⟩ dX4_chosen_75 ?_
                  refine lv_icmp_le (tgt := 85) hx hb dX4_chosen_78 (by decide) (fun c12 => ?_) (fun c12 => ?_)
                  · replace h := zt c12 h
                    refine lv_iconst (v := 0) hx hb dX4_chosen_85 (by decide) ?_
                    refine lv_istore (lv' := [(5, .int 0), (0, .ref qr), (1, .int v1), (2, .int v2), (3, .int v3), (4, .int v4)]) hx hb dX4_chosen_86 hl (by decide) rfl (fun ls hl => ?_)
                    refine lv_iload hx hb dX4_chosen_88 (lv_at hl 0 rfl) ?_
                    refine lv_if_eq (tgt := 98) hx hb dX4_chosen_90 (by decide) (fun _ => ?_) (fun c13 => absurd (by decide) c13)
                    refine lv_iload_n hx hb dX4_chosen_98 rfl (lv_at hl 4 rfl) ?_
                    refine lv_istore_n (lv' := [(3, .int v3), (5, .int 0), (0, .ref qr), (1, .int v1), (2, .int v2), (4, .int v4)]) hx hb dX4_chosen_99 rfl hl (by decide) rfl (fun ls hl => ?_)
                    refine lv_iinc (v := (v4 + 1)) (lv' := [(4, .int (v4 + 1)), (3, .int v3), (5, .int 0), (0, .ref qr), (1, .int v1), (2, .int v2)]) hx hb dX4_chosen_100 hl (k := 5) rfl rfl (by decide) rfl (fun ls hl => ?_)
                    refine lv_goto (tgt := 5) hx hb dX4_chosen_103 (by decide) ?_
                    exact ih v1 v2 v3 (v4 + 1) h ls (lv_sub hl [3, 4, 5, 1, 0] rfl)
                  · replace h := zf c12 h
                    refine lv_iconst (v := 1) hx hb dX4_chosen_81 (by decide) ?_
                    refine lv_goto (tgt := 86) hx hb dX4_chosen_82 (by decide) ?_
                    refine lv_istore (lv' := [(5, .int 1), (0, .ref qr), (1, .int v1), (2, .int v2), (3, .int v3), (4, .int v4)]) hx hb dX4_chosen_86 hl (by decide) rfl (fun ls hl => ?_)
                    refine lv_iload hx hb dX4_chosen_88 (lv_at hl 0 rfl) ?_
                    refine lv_if_eq (tgt := 98) hx hb dX4_chosen_90 (by decide) (fun c14 => absurd c14 (by decide)) (fun _ => ?_)
                    refine lv_iload hx hb dX4_chosen_93 (lv_at hl 5 rfl) ?_
                    refine lv_goto (tgt := 99) hx hb dX4_chosen_95 (by decide) ?_
                    refine lv_istore_n (lv' := [(3, .int v4), (5, .int 1), (0, .ref qr), (1, .int v1), (2, .int v2), (4, .int v4)]) hx hb dX4_chosen_99 rfl hl (by decide) rfl (fun ls hl => ?_)
                    refine lv_iinc (v := (v4 + 1)) (lv' := [(4, .int (v4 + 1)), (3, .int v4), (5, .int 1), (0, .ref qr), (1, .int v1), (2, .int v2)]) hx hb dX4_chosen_100 hl (k := 5) rfl rfl (by decide) rfl (fun ls hl => ?_)
                    refine lv_goto (tgt := 5) hx hb dX4_chosen_103 (by decide) ?_
                    exact ih v1 v2 v4 (v4 + 1) h ls (lv_sub hl [3, 4, 5, 1, 0] rfl)
              · replace h := zt c7 h
                refine lv_aload_n hx hb dX4_chosen_44 rfl (lv_at hl 0 rfl) ?_
                refine lv_sipush (v := 512) hx hb dX4_chosen_45 (by decide) ?_
                refine lv_iload hx hb dX4_chosen_48 (lv_at hl 4 rfl) ?_
                refine lv_iadd hx hb dX4_chosen_50 ?_
                obtain ⟨i15, h⟩ := zi h
                refine za_ild hx hb hK hP 0 rfl _ rfl i15 dX4_chosen_51 ?_
                refine lv_aload_n hx hb dX4_chosen_52 rfl (lv_at hl 0 rfl) ?_
                refine lv_sipush (v := 512) hx hb dX4_chosen_53 (by decide) ?_
                refine lv_iload_n hx hb dX4_chosen_56 rfl (lv_at hl 3 rfl) ?_
                refine lv_iadd hx hb dX4_chosen_57 ?_
                obtain ⟨i16, h⟩ := zi h
                refine za_ild hx hb hK hP 0 rfl _ rfl i16 dX4_chosen_58 ?_
                refine lv_icmp_lt (tgt := 81) hx hb dX4_chosen_59 (by decide) (fun c17 => ?_) (fun c17 => ?_)
                · replace h := zt c17 h
                  refine lv_iconst (v := 1) hx hb dX4_chosen_81 (by decide) ?_
                  refine lv_goto (tgt := 86) hx hb dX4_chosen_82 (by decide) ?_
                  refine lv_istore (lv' := [(5, .int 1), (0, .ref qr), (1, .int v1), (2, .int v2), (3, .int v3), (4, .int v4)]) hx hb dX4_chosen_86 hl (by decide) rfl (fun ls hl => ?_)
                  refine lv_iload hx hb dX4_chosen_88 (lv_at hl 0 rfl) ?_
                  refine lv_if_eq (tgt := 98) hx hb dX4_chosen_90 (by decide) (fun c18 => absurd c18 (by decide)) (fun _ => ?_)
                  refine lv_iload hx hb dX4_chosen_93 (lv_at hl 5 rfl) ?_
                  refine lv_goto (tgt := 99) hx hb dX4_chosen_95 (by decide) ?_
                  refine lv_istore_n (lv' := [(3, .int v4), (5, .int 1), (0, .ref qr), (1, .int v1), (2, .int v2), (4, .int v4)]) hx hb dX4_chosen_99 rfl hl (by decide) rfl (fun ls hl => ?_)
                  refine lv_iinc (v := (v4 + 1)) (lv' := [(4, .int (v4 + 1)), (3, .int v4), (5, .int 1), (0, .ref qr), (1, .int v1), (2, .int v2)]) hx hb dX4_chosen_100 hl (k := 5) rfl rfl (by decide) rfl (fun ls hl => ?_)
                  refine lv_goto (tgt := 5) hx hb dX4_chosen_103 (by decide) ?_
                  exact ih v1 v2 v4 (v4 + 1) h ls (lv_sub hl [3, 4, 5, 1, 0] rfl)
                · replace h := zf c17 h
                  refine lv_iload_n hx hb dX4_chosen_62 rfl (lv_at hl 1 rfl) ?_
                  refine lv_iconst (v := 1) hx hb dX4_chosen_63 (by decide) ?_
                  refine lv_icmp_ne (tgt := 85) hx hb dX4_chosen_64 (by decide) (fun c19 => ?_) (fun c19 => ?_)
                  · replace h := zf c19 h
                    refine lv_iconst (v := 0) hx hb dX4_chosen_85 (by decide) ?_
                    refine lv_istore (lv' := [(5, .int 0), (0, .ref qr), (1, .int v1), (2, .int v2), (3, .int v3), (4, .int v4)]) hx hb dX4_chosen_86 hl (by decide) rfl (fun ls hl => ?_)
                    refine lv_iload hx hb dX4_chosen_88 (lv_at hl 0 rfl) ?_
                    refine lv_if_eq (tgt := 98) hx hb dX4_chosen_90 (by decide) (fun _ => ?_) (fun c20 => absurd (by decide) c20)
                    refine lv_iload_n hx hb dX4_chosen_98 rfl (lv_at hl 4 rfl) ?_
                    refine lv_istore_n (lv' := [(3, .int v3), (5, .int 0), (0, .ref qr), (1, .int v1), (2, .int v2), (4, .int v4)]) hx hb dX4_chosen_99 rfl hl (by decide) rfl (fun ls hl => ?_)
                    refine lv_iinc (v := (v4 + 1)) (lv' := [(4, .int (v4 + 1)), (3, .int v3), (5, .int 0), (0, .ref qr), (1, .int v1), (2, .int v2)]) hx hb dX4_chosen_100 hl (k := 5) rfl rfl (by decide) rfl (fun ls hl => ?_)
                    refine lv_goto (tgt := 5) hx hb dX4_chosen_103 (by decide) ?_
                    exact ih v1 v2 v3 (v4 + 1) h ls (lv_sub hl [3, 4, 5, 1, 0] rfl)
                  · replace h := zt c19 h
                    refine lv_aload_n hx hb dX4_chosen_67 rfl (lv_at hl 0 rfl) ?_
                    refine lv_iload hx hb dX4_chosen_68 (lv_at hl 4 rfl) ?_
                    obtain ⟨r21, e21, h⟩ := zb h
                    refine zS (As := [.ref qr, .int v4]) (rest := []) (zQi_q _) ⟨hx, hb, hml, hown, hts⟩ (kX4_piece l g qr ro v4 e21) (va_cwS 2 hts gX4_chosen_X4_piece rfl rfl rfl hdS_X4_piece ⟨Nat.le_of_ble_eq_true rfl, Nat.le_of_ble_eq_true rfl⟩) hK hP [0] rfl rfl hl.1 rfl (Nat.le_of_ble_eq_true rfl) ⟨Nat.zero_le _, Nat.zero_le _⟩ dX4_chosen_70 ?_
                    refine lv_aload_n hx hb dX4_chosen_73 rfl (lv_at hl 0 rfl) ?_
                    refine lv_iload_n hx hb dX4_chosen_74 rfl (lv_at hl 3 rfl) ?_
                    obtain ⟨r22, e22, h⟩ := zb h
                    refine zS (As := [.ref qr, .int v3]) (rest := [.int r21]) (zQi_q _) ⟨hx, hb, hml, hown, hts⟩ (kX4_piece l g qr ro v3 e22) (va_cwS 2 hts gX4_chosen_X4_piece rfl rfl rfl hdS_X4_piece ⟨Nat.le_of_ble_eq_true rfl, Nat.le_of_ble_eq_true rfl⟩) hK hP [0] rfl rfl hl.1 rfl (Nat.le_of_ble_eq_true rfl) ⟨Nat.zero_le _, Nat.zero_le _⟩ dX4_chosen_75 ?_
                    refine lv_icmp_le (tgt := 85) hx hb dX4_chosen_78 (by decide) (fun c23 => ?_) (fun c23 => ?_)
                    · replace h := zt c23 h
                      refine lv_iconst (v := 0) hx hb dX4_chosen_85 (by decide) ?_
                      refine lv_istore (lv' := [(5, .int 0), (0, .ref qr), (1, .int v1), (2, .int v2), (3, .int v3), (4, .int v4)]) hx hb dX4_chosen_86 hl (by decide) rfl (fun ls hl => ?_)
                      refine lv_iload hx hb dX4_chosen_88 (lv_at hl 0 rfl) ?_
                      refine lv_if_eq (tgt := 98) hx hb dX4_chosen_90 (by decide) (fun _ => ?_) (fun c24 => absurd (by decide) c24)
                      refine lv_iload_n hx hb dX4_chosen_98 rfl (lv_at hl 4 rfl) ?_
                      refine lv_istore_n (lv' := [(3, .int v3), (5, .int 0), (0, .ref qr), (1, .int v1), (2, .int v2), (4, .int v4)]) hx hb dX4_chosen_99 rfl hl (by decide) rfl (fun ls hl => ?_)
                      refine lv_iinc (v := (v4 + 1)) (lv' := [(4, .int (v4 + 1)), (3, .int v3), (5, .int 0), (0, .ref qr), (1, .int v1), (2, .int v2)]) hx hb dX4_chosen_100 hl (k := 5) rfl rfl (by decide) rfl (fun ls hl => ?_)
                      refine lv_goto (tgt := 5) hx hb dX4_chosen_103 (by decide) ?_
                      exact ih v1 v2 v3 (v4 + 1) h ls (lv_sub hl [3, 4, 5, 1, 0] rfl)
                    · replace h := zf c23 h
                      refine lv_iconst (v := 1) hx hb dX4_chosen_81 (by decide) ?_
                      refine lv_goto (tgt := 86) hx hb dX4_chosen_82 (by decide) ?_
                      refine lv_istore (lv' := [(5, .int 1), (0, .ref qr), (1, .int v1), (2, .int v2), (3, .int v3), (4, .int v4)]) hx hb dX4_chosen_86 hl (by decide) rfl (fun ls hl => ?_)
                      refine lv_iload hx hb dX4_chosen_88 (lv_at hl 0 rfl) ?_
                      refine lv_if_eq (tgt := 98) hx hb dX4_chosen_90 (by decide) (fun c25 => absurd c25 (by decide)) (fun _ => ?_)
                      refine lv_iload hx hb dX4_chosen_93 (lv_at hl 5 rfl) ?_
                      refine lv_goto (tgt := 99) hx hb dX4_chosen_95 (by decide) ?_
                      refine lv_istore_n (lv' := [(3, .int v4), (5, .int 1), (0, .ref qr), (1, .int v1), (2, .int v2), (4, .int v4)]) hx hb dX4_chosen_99 rfl hl (by decide) rfl (fun ls hl => ?_)
                      refine lv_iinc (v := (v4 + 1)) (lv' := [(4, .int (v4 + 1)), (3, .int v4), (5, .int 1), (0, .ref qr), (1, .int v1), (2, .int v2)]) hx hb dX4_chosen_100 hl (k := 5) rfl rfl (by decide) rfl (fun ls hl => ?_)
                      refine lv_goto (tgt := 5) hx hb dX4_chosen_103 (by decide) ?_
                      exact ih v1 v2 v4 (v4 + 1) h ls (lv_sub hl [3, 4, 5, 1, 0] rfl)
          · replace h := zf c4 h
            refine lv_aload_n hx hb dX4_chosen_26 rfl (lv_at hl 0 rfl) ?_
            refine lv_iload hx hb dX4_chosen_27 (lv_at hl 4 rfl) ?_
            obtain ⟨r26, e26, h⟩ := zb h
            refine zS (As := [.ref qr, .int v4]) (rest := []) (zQi_q _) ⟨hx, hb, hml, hown, hts⟩ (kX4_isDue l g qr ro v4 e26) (va_cwS 2 hts gX4_chosen_X4_isDue rfl rfl rfl hdS_X4_isDue ⟨Nat.le_of_ble_eq_true rfl, Nat.le_of_ble_eq_true rfl⟩) hK hP [0] rfl rfl hl.1 rfl (Nat.le_of_ble_eq_true rfl) ⟨Nat.zero_le _, Nat.zero_le _⟩ dX4_chosen_29 ?_
            refine lv_if_eq (tgt := 100) hx hb dX4_chosen_32 (by decide) (fun c27 => ?_) (fun c27 => ?_)
            · replace h := zt c27 h
              refine lv_iinc (v := (v4 + 1)) (lv' := [(4, .int (v4 + 1)), (0, .ref qr), (1, .int v1), (2, .int v2), (3, .int v3)]) hx hb dX4_chosen_100 hl (k := 4) rfl rfl (by decide) rfl (fun ls hl => ?_)
              refine lv_goto (tgt := 5) hx hb dX4_chosen_103 (by decide) ?_
              exact ih v1 v2 v3 (v4 + 1) h ls (lv_sub hl [1, 2, 3, 4, 0] rfl)
            · replace h := zf c27 h
              refine lv_iload_n hx hb dX4_chosen_35 rfl (lv_at hl 3 rfl) ?_
              refine lv_iconst (v := (-1)) hx hb dX4_chosen_36 (by decide) ?_
              refine lv_icmp_eq (tgt := 81) hx hb dX4_chosen_37 (by decide) (fun c28 => ?_) (fun c28 => ?_)
              · replace h := zt c28 h
                refine lv_iconst (v := 1) hx hb dX4_chosen_81 (by decide) ?_
                refine lv_goto (tgt := 86) hx hb dX4_chosen_82 (by decide) ?_
                refine lv_istore (lv' := [(5, .int 1), (0, .ref qr), (1, .int v1), (2, .int v2), (3, .int v3), (4, .int v4)]) hx hb dX4_chosen_86 hl (by decide) rfl (fun ls hl => ?_)
                refine lv_iload hx hb dX4_chosen_88 (lv_at hl 0 rfl) ?_
                refine lv_if_eq (tgt := 98) hx hb dX4_chosen_90 (by decide) (fun c29 => absurd c29 (by decide)) (fun _ => ?_)
                refine lv_iload hx hb dX4_chosen_93 (lv_at hl 5 rfl) ?_
                refine lv_goto (tgt := 99) hx hb dX4_chosen_95 (by decide) ?_
                refine lv_istore_n (lv' := [(3, .int v4), (5, .int 1), (0, .ref qr), (1, .int v1), (2, .int v2), (4, .int v4)]) hx hb dX4_chosen_99 rfl hl (by decide) rfl (fun ls hl => ?_)
                refine lv_iinc (v := (v4 + 1)) (lv' := [(4, .int (v4 + 1)), (3, .int v4), (5, .int 1), (0, .ref qr), (1, .int v1), (2, .int v2)]) hx hb dX4_chosen_100 hl (k := 5) rfl rfl (by decide) rfl (fun ls hl => ?_)
                refine lv_goto (tgt := 5) hx hb dX4_chosen_103 (by decide) ?_
                exact ih v1 v2 v4 (v4 + 1) h ls (lv_sub hl [3, 4, 5, 1, 0] rfl)
              · replace h := zf c28 h
                refine lv_iload_n hx hb dX4_chosen_40 rfl (lv_at hl 1 rfl) ?_
                refine lv_if_ne (tgt := 62) hx hb dX4_chosen_41 (by decide) (fun c30 => ?_) (fun c30 => ?_)
                · replace h := zf c30 h
                  refine lv_iload_n hx hb dX4_chosen_62 rfl (lv_at hl 1 rfl) ?_
                  refine lv_iconst (v := 1) hx hb dX4_chosen_63 (by decide) ?_
                  refine lv_icmp_ne (tgt := 85) hx hb dX4_chosen_64 (by decide) (fun c31 => ?_) (fun c31 => ?_)
                  · replace h := zf c31 h
                    refine lv_iconst (v := 0) hx hb dX4_chosen_85 (by decide) ?_
                    refine lv_istore (lv' := [(5, .int 0), (0, .ref qr), (1, .int v1), (2, .int v2), (3, .int v3), (4, .int v4)]) hx hb dX4_chosen_86 hl (by decide) rfl (fun ls hl => ?_)
                    refine lv_iload hx hb dX4_chosen_88 (lv_at hl 0 rfl) ?_
                    refine lv_if_eq (tgt := 98) hx hb dX4_chosen_90 (by decide) (fun _ => ?_) (fun c32 => absurd (by decide) c32)
                    refine lv_iload_n hx hb dX4_chosen_98 rfl (lv_at hl 4 rfl) ?_
                    refine lv_istore_n (lv' := [(3, .int v3), (5, .int 0), (0, .ref qr), (1, .int v1), (2, .int v2), (4, .int v4)]) hx hb dX4_chosen_99 rfl hl (by decide) rfl (fun ls hl => ?_)
                    refine lv_iinc (v := (v4 + 1)) (lv' := [(4, .int (v4 + 1)), (3, .int v3), (5, .int 0), (0, .ref qr), (1, .int v1), (2, .int v2)]) hx hb dX4_chosen_100 hl (k := 5) rfl rfl (by decide) rfl (fun ls hl => ?_)
                    refine lv_goto (tgt := 5) hx hb dX4_chosen_103 (by decide) ?_
                    exact ih v1 v2 v3 (v4 + 1) h ls (lv_sub hl [3, 4, 5, 1, 0] rfl)
                  · replace h := zt c31 h
                    refine lv_aload_n hx hb dX4_chosen_67 rfl (lv_at hl 0 rfl) ?_
                    refine lv_iload hx hb dX4_chosen_68 (lv_at hl 4 rfl) ?_
                    obtain ⟨r33, e33, h⟩ := zb h
                    refine zS (As := [.ref qr, .int v4]) (rest := []) (zQi_q _) ⟨hx, hb, hml, hown, hts⟩ (kX4_piece l g qr ro v4 e33) (va_cwS 2 hts gX4_chosen_X4_piece rfl rfl rfl hdS_X4_piece ⟨Nat.le_of_ble_eq_true rfl, Nat.le_of_ble_eq_true rfl⟩) hK hP [0] rfl rfl hl.1 rfl (Nat.le_of_ble_eq_true rfl) ⟨Nat.zero_le _, Nat.zero_le _⟩ dX4_chosen_70 ?_
                    refine lv_aload_n hx hb dX4_chosen_73 rfl (lv_at hl 0 rfl) ?_
                    refine lv_iload_n hx hb dX4_chosen_74 rfl (lv_at hl 3 rfl) ?_
                    obtain ⟨r34, e34, h⟩ := zb h
                    refine zS (As := [.ref qr, .int v3]) (rest := [.int r33]) (zQi_q _) ⟨hx, hb, hml, hown, hts⟩ (kX4_piece l g qr ro v3 e34) (va_cwS 2 hts gX4_chosen_X4_piece rfl rfl rfl hdS_X4_piece ⟨Nat.le_of_ble_eq_true rfl, Nat.le_of_ble_eq_true rfl⟩) hK hP [0] rfl rfl hl.1 rfl (Nat.le_of_ble_eq_true rfl) ⟨Nat.zero_le _, Nat.zero_le _⟩ dX4_chosen_75 ?_
                    refine lv_icmp_le (tgt := 85) hx hb dX4_chosen_78 (by decide) (fun c35 => ?_) (fun c35 => ?_)
                    · replace h := zt c35 h
                      refine lv_iconst (v := 0) hx hb dX4_chosen_85 (by decide) ?_
                      refine lv_istore (lv' := [(5, .int 0), (0, .ref qr), (1, .int v1), (2, .int v2), (3, .int v3), (4, .int v4)]) hx hb dX4_chosen_86 hl (by decide) rfl (fun ls hl => ?_)
                      refine lv_iload hx hb dX4_chosen_88 (lv_at hl 0 rfl) ?_
                      refine lv_if_eq (tgt := 98) hx hb dX4_chosen_90 (by decide) (fun _ => ?_) (fun c36 => absurd (by decide) c36)
                      refine lv_iload_n hx hb dX4_chosen_98 rfl (lv_at hl 4 rfl) ?_
                      refine lv_istore_n (lv' := [(3, .int v3), (5, .int 0), (0, .ref qr), (1, .int v1), (2, .int v2), (4, .int v4)]) hx hb dX4_chosen_99 rfl hl (by decide) rfl (fun ls hl => ?_)
                      refine lv_iinc (v := (v4 + 1)) (lv' := [(4, .int (v4 + 1)), (3, .int v3), (5, .int 0), (0, .ref qr), (1, .int v1), (2, .int v2)]) hx hb dX4_chosen_100 hl (k := 5) rfl rfl (by decide) rfl (fun ls hl => ?_)
                      refine lv_goto (tgt := 5) hx hb dX4_chosen_103 (by decide) ?_
                      exact ih v1 v2 v3 (v4 + 1) h ls (lv_sub hl [3, 4, 5, 1, 0] rfl)
                    · replace h := zf c35 h
                      refine lv_iconst (v := 1) hx hb dX4_chosen_81 (by decide) ?_
                      refine lv_goto (tgt := 86) hx hb dX4_chosen_82 (by decide) ?_
                      refine lv_istore (lv' := [(5, .int 1), (0, .ref qr), (1, .int v1), (2, .int v2), (3, .int v3), (4, .int v4)]) hx hb dX4_chosen_86 hl (by decide) rfl (fun ls hl => ?_)
                      refine lv_iload hx hb dX4_chosen_88 (lv_at hl 0 rfl) ?_
                      refine lv_if_eq (tgt := 98) hx hb dX4_chosen_90 (by decide) (fun c37 => absurd c37 (by decide)) (fun _ => ?_)
                      refine lv_iload hx hb dX4_chosen_93 (lv_at hl 5 rfl) ?_
                      refine lv_goto (tgt := 99) hx hb dX4_chosen_95 (by decide) ?_
                      refine lv_istore_n (lv' := [(3, .int v4), (5, .int 1), (0, .ref qr), (1, .int v1), (2, .int v2), (4, .int v4)]) hx hb dX4_chosen_99 rfl hl (by decide) rfl (fun ls hl => ?_)
                      refine lv_iinc (v := (v4 + 1)) (lv' := [(4, .int (v4 + 1)), (3, .int v4), (5, .int 1), (0, .ref qr), (1, .int v1), (2, .int v2)]) hx hb dX4_chosen_100 hl (k := 5) rfl rfl (by decide) rfl (fun ls hl => ?_)
                      refine lv_goto (tgt := 5) hx hb dX4_chosen_103 (by decide) ?_
                      exact ih v1 v2 v4 (v4 + 1) h ls (lv_sub hl [3, 4, 5, 1, 0] rfl)
                · replace h := zt c30 h
                  refine lv_aload_n hx hb dX4_chosen_44 rfl (lv_at hl 0 rfl) ?_
                  refine lv_sipush (v := 512) hx hb dX4_chosen_45 (by decide) ?_
                  refine lv_iload hx hb dX4_chosen_48 (lv_at hl 4 rfl) ?_
                  refine lv_iadd hx hb dX4_chosen_50 ?_
                  obtain ⟨i38, h⟩ := zi h
                  refine za_ild hx hb hK hP 0 rfl _ rfl i38 dX4_chosen_51 ?_
                  refine lv_aload_n hx hb dX4_chosen_52 rfl (lv_at hl 0 rfl) ?_
                  refine lv_sipush (v := 512) hx hb dX4_chosen_53 (by decide) ?_
                  refine lv_iload_n hx hb dX4_chosen_56 rfl (lv_at hl 3 rfl) ?_
                  refine lv_iadd hx hb dX4_chosen_57 ?_
                  obtain ⟨i39, h⟩ := zi h
                  refine za_ild hx hb hK hP 0 rfl _ rfl i39 dX4_chosen_58 ?_
                  refine lv_icmp_lt (tgt := 81) hx hb dX4_chosen_59 (by decide) (fun c40 => ?_) (fun c40 => ?_)
                  · replace h := zt c40 h
                    refine lv_iconst (v := 1) hx hb dX4_chosen_81 (by decide) ?_
                    refine lv_goto (tgt := 86) hx hb dX4_chosen_82 (by decide) ?_
                    refine lv_istore (lv' := [(5, .int 1), (0, .ref qr), (1, .int v1), (2, .int v2), (3, .int v3), (4, .int v4)]) hx hb dX4_chosen_86 hl (by decide) rfl (fun ls hl => ?_)
                    refine lv_iload hx hb dX4_chosen_88 (lv_at hl 0 rfl) ?_
                    refine lv_if_eq (tgt := 98) hx hb dX4_chosen_90 (by decide) (fun c41 => absurd c41 (by decide)) (fun _ => ?_)
                    refine lv_iload hx hb dX4_chosen_93 (lv_at hl 5 rfl) ?_
                    refine lv_goto (tgt := 99) hx hb dX4_chosen_95 (by decide) ?_
                    refine lv_istore_n (lv' := [(3, .int v4), (5, .int 1), (0, .ref qr), (1, .int v1), (2, .int v2), (4, .int v4)]) hx hb dX4_chosen_99 rfl hl (by decide) rfl (fun ls hl => ?_)
                    refine lv_iinc (v := (v4 + 1)) (lv' := [(4, .int (v4 + 1)), (3, .int v4), (5, .int 1), (0, .ref qr), (1, .int v1), (2, .int v2)]) hx hb dX4_chosen_100 hl (k := 5) rfl rfl (by decide) rfl (fun ls hl => ?_)
                    refine lv_goto (tgt := 5) hx hb dX4_chosen_103 (by decide) ?_
                    exact ih v1 v2 v4 (v4 + 1) h ls (lv_sub hl [3, 4, 5, 1, 0] rfl)
                  · replace h := zf c40 h
                    refine lv_iload_n hx hb dX4_chosen_62 rfl (lv_at hl 1 rfl) ?_
                    refine lv_iconst (v := 1) hx hb dX4_chosen_63 (by decide) ?_
                    refine lv_icmp_ne (tgt := 85) hx hb dX4_chosen_64 (by decide) (fun c42 => ?_) (fun c42 => ?_)
                    · replace h := zf c42 h
                      refine lv_iconst (v := 0) hx hb dX4_chosen_85 (by decide) ?_
                      refine lv_istore (lv' := [(5, .int 0), (0, .ref qr), (1, .int v1), (2, .int v2), (3, .int v3), (4, .int v4)]) hx hb dX4_chosen_86 hl (by decide) rfl (fun ls hl => ?_)
                      refine lv_iload hx hb dX4_chosen_88 (lv_at hl 0 rfl) ?_
                      refine lv_if_eq (tgt := 98) hx hb dX4_chosen_90 (by decide) (fun _ => ?_) (fun c43 => absurd (by decide) c43)
                      refine lv_iload_n hx hb dX4_chosen_98 rfl (lv_at hl 4 rfl) ?_
                      refine lv_istore_n (lv' := [(3, .int v3), (5, .int 0), (0, .ref qr), (1, .int v1), (2, .int v2), (4, .int v4)]) hx hb dX4_chosen_99 rfl hl (by decide) rfl (fun ls hl => ?_)
                      refine lv_iinc (v := (v4 + 1)) (lv' := [(4, .int (v4 + 1)), (3, .int v3), (5, .int 0), (0, .ref qr), (1, .int v1), (2, .int v2)]) hx hb dX4_chosen_100 hl (k := 5) rfl rfl (by decide) rfl (fun ls hl => ?_)
                      refine lv_goto (tgt := 5) hx hb dX4_chosen_103 (by decide) ?_
                      exact ih v1 v2 v3 (v4 + 1) h ls (lv_sub hl [3, 4, 5, 1, 0] rfl)
                    · replace h := zt c42 h
                      refine lv_aload_n hx hb dX4_chosen_67 rfl (lv_at hl 0 rfl) ?_
                      refine lv_iload hx hb dX4_chosen_68 (lv_at hl 4 rfl) ?_
                      obtain ⟨r44, e44, h⟩ := zb h
                      refine zS (As := [.ref qr, .int v4]) (rest := []) (zQi_q _) ⟨hx, hb, hml, hown, hts⟩ (kX4_piece l g qr ro v4 e44) (va_cwS 2 hts gX4_chosen_X4_piece rfl rfl rfl hdS_X4_piece ⟨Nat.le_of_ble_eq_true rfl, Nat.le_of_ble_eq_true rfl⟩) hK hP [0] rfl rfl hl.1 rfl (Nat.le_of_ble_eq_true rfl) ⟨Nat.zero_le _, Nat.zero_le _⟩ dX4_chosen_70 ?_
                      refine lv_aload_n hx hb dX4_chosen_73 rfl (lv_at hl 0 rfl) ?_
                      refine lv_iload_n hx hb dX4_chosen_74 rfl (lv_at hl 3 rfl) ?_
                      obtain ⟨r45, e45, h⟩ := zb h
                      refine zS (As := [.ref qr, .int v3]) (rest := [.int r44]) (zQi_q _) ⟨hx, hb, hml, hown, hts⟩ (kX4_piece l g qr ro v3 e45) (va_cwS 2 hts gX4_chosen_X4_piece rfl rfl rfl hdS_X4_piece ⟨Nat.le_of_ble_eq_true rfl, Nat.le_of_ble_eq_true rfl⟩) hK hP [0] rfl rfl hl.1 rfl (Nat.le_of_ble_eq_true rfl) ⟨Nat.zero_le _, Nat.zero_le _⟩ dX4_chosen_75 ?_
                      refine lv_icmp_le (tgt := 85) hx hb dX4_chosen_78 (by decide) (fun c46 => ?_) (fun c46 => ?_)
                      · replace h := zt c46 h
                        refine lv_iconst (v := 0) hx hb dX4_chosen_85 (by decide) ?_
                        refine lv_istore (lv' := [(5, .int 0), (0, .ref qr), (1, .int v1), (2, .int v2), (3, .int v3), (4, .int v4)]) hx hb dX4_chosen_86 hl (by decide) rfl (fun ls hl => ?_)
                        refine lv_iload hx hb dX4_chosen_88 (lv_at hl 0 rfl) ?_
                        refine lv_if_eq (tgt := 98) hx hb dX4_chosen_90 (by decide) (fun _ => ?_) (fun c47 => absurd (by decide) c47)
                        refine lv_iload_n hx hb dX4_chosen_98 rfl (lv_at hl 4 rfl) ?_
                        refine lv_istore_n (lv' := [(3, .int v3), (5, .int 0), (0, .ref qr), (1, .int v1), (2, .int v2), (4, .int v4)]) hx hb dX4_chosen_99 rfl hl (by decide) rfl (fun ls hl => ?_)
                        refine lv_iinc (v := (v4 + 1)) (lv' := [(4, .int (v4 + 1)), (3, .int v3), (5, .int 0), (0, .ref qr), (1, .int v1), (2, .int v2)]) hx hb dX4_chosen_100 hl (k := 5) rfl rfl (by decide) rfl (fun ls hl => ?_)
                        refine lv_goto (tgt := 5) hx hb dX4_chosen_103 (by decide) ?_
                        exact ih v1 v2 v3 (v4 + 1) h ls (lv_sub hl [3, 4, 5, 1, 0] rfl)
                      · replace h := zf c46 h
                        refine lv_iconst (v := 1) hx hb dX4_chosen_81 (by decide) ?_
                        refine lv_goto (tgt := 86) hx hb dX4_chosen_82 (by decide) ?_
                        refine lv_istore (lv' := [(5, .int 1), (0, .ref qr), (1, .int v1), (2, .int v2), (3, .int v3), (4, .int v4)]) hx hb dX4_chosen_86 hl (by decide) rfl (fun ls hl => ?_)
                        refine lv_iload hx hb dX4_chosen_88 (lv_at hl 0 rfl) ?_
                        refine lv_if_eq (tgt := 98) hx hb dX4_chosen_90 (by decide) (fun c48 => absurd c48 (by decide)) (fun _ => ?_)
                        refine lv_iload hx hb dX4_chosen_93 (lv_at hl 5 rfl) ?_
                        refine lv_goto (tgt := 99) hx hb dX4_chosen_95 (by decide) ?_
                        refine lv_istore_n (lv' := [(3, .int v4), (5, .int 1), (0, .ref qr), (1, .int v1), (2, .int v2), (4, .int v4)]) hx hb dX4_chosen_99 rfl hl (by decide) rfl (fun ls hl => ?_)
                        refine lv_iinc (v := (v4 + 1)) (lv' := [(4, .int (v4 + 1)), (3, .int v4), (5, .int 1), (0, .ref qr), (1, .int v1), (2, .int v2)]) hx hb dX4_chosen_100 hl (k := 5) rfl rfl (by decide) rfl (fun ls hl => ?_)
                        refine lv_goto (tgt := 5) hx hb dX4_chosen_103 (by decide) ?_
                        exact ih v1 v2 v4 (v4 + 1) h ls (lv_sub hl [3, 4, 5, 1, 0] rfl)
  unfold fX4_chosen at h
  refine lv_iconst (v := (-1)) hx hb dX4_chosen_0 (by decide) ?_
  refine lv_istore_n (lv' := [(3, .int (-1)), (0, .ref qr), (1, .int a1), (2, .int a2)]) hx hb dX4_chosen_1 rfl hl (by decide) rfl (fun ls hl => ?_)
  refine lv_iconst (v := 0) hx hb dX4_chosen_2 (by decide) ?_
  refine lv_istore (lv' := [(4, .int 0), (3, .int (-1)), (0, .ref qr), (1, .int a1), (2, .int a2)]) hx hb dX4_chosen_3 hl (by decide) rfl (fun ls hl => ?_)
  exact loop_5 1000 a1 a2 (-1) 0 h ls (lv_sub hl [2, 3, 4, 1, 0] rfl)
def fX4_lay (ro : Nat → Int32) (a1 : Int32) (a2 : Int32) : Option (Int32 × (Nat → Int32)) :=
  if (773 + a1) < 0 ∨ 785 ≤ (773 + a1).toNatClampNeg then none else
  if (773 + a1) < 0 ∨ 785 ≤ (773 + a1).toNatClampNeg then none else
  some ((ro (773 + a1).toNatClampNeg), (upd ro (773 + a1).toNatClampNeg a2))
set_option maxRecDepth 100000 in
set_option maxHeartbeats 4000000 in
theorem kX4_lay (l : Launch) (g : zG) (qr : Nat) (ro : Nat → Int32) (a1 : Int32) (a2 : Int32) {r : Int32} {ro' : Nat → Int32} (h : fX4_lay ro a1 a2 = some (r, ro')) : Mw l g yX4_lay wsX4_lay { frames := 0, cells := 0, slots := 0, locals := 0 } [.ref qr, .int a1, .int a2] (zR1 g qr ro) (zWi g (zR1 g qr ro') r) := by
  refine zw_in (cc := cX4_lay) (maxL := 4) (ret := (some .int)) (by decide) rfl (Nat.le_of_ble_eq_true rfl) ?_
  intro p e s m below meth c hx hb hr hml hts hown hlocks hK A hA hP hD hS ls hl
  replace hl : lv_has ls 4 [(0, .ref qr), (1, .int a1), (2, .int a2)] := hl
  unfold fX4_lay at h
  refine lv_aload_n hx hb dX4_lay_0 rfl (lv_at hl 0 rfl) ?_
  refine lv_sipush (v := 773) hx hb dX4_lay_1 (by decide) ?_
  refine lv_iload_n hx hb dX4_lay_4 rfl (lv_at hl 1 rfl) ?_
  refine lv_iadd hx hb dX4_lay_5 ?_
  obtain ⟨i1, h⟩ := zi h
  refine za_ild hx hb hK hP 0 rfl _ rfl i1 dX4_lay_6 ?_
  refine lv_istore_n (lv' := [(3, .int (ro (773 + a1).toNatClampNeg)), (0, .ref qr), (1, .int a1), (2, .int a2)]) hx hb dX4_lay_7 rfl hl (by decide) rfl (fun ls hl => ?_)
  refine lv_aload_n hx hb dX4_lay_8 rfl (lv_at hl 1 rfl) ?_
  refine lv_sipush (v := 773) hx hb dX4_lay_9 (by decide) ?_
  refine lv_iload_n hx hb dX4_lay_12 rfl (lv_at hl 2 rfl) ?_
  refine lv_iadd hx hb dX4_lay_13 ?_
  refine lv_iload_n hx hb dX4_lay_14 rfl (lv_at hl 3 rfl) ?_
  obtain ⟨i2, h⟩ := zi h
  refine za_ist hx hb hK hP hD hS 0 rfl _ rfl i2 dX4_lay_15 (fun H locs hP hD hS => ?_)
  replace hP : zP g (zR1 g qr (upd ro (773 + a1).toNatClampNeg a2)) H := hP
  replace hD : va_D A (zR1 g qr (upd ro (773 + a1).toNatClampNeg a2)) := hD
  refine lv_iload_n hx hb dX4_lay_16 rfl (lv_at hl 0 rfl) ?_
  cases h
  exact zw_i hx hb hr hlocks hP hS dX4_lay_17
def fX4_sum_4 (ro : Nat → Int32) : Nat → Int32 → Int32 → Int32 → Option (Int32)
  | 0, _, _, _ => none
  | n + 1, v1, v2, v3 =>
    if 256 ≤ v3 then
        some v2
      else
        if (v1 + v3) < 0 ∨ 785 ≤ (v1 + v3).toNatClampNeg then none else
        fX4_sum_4 ro n v1 (v2 + (ro (v1 + v3).toNatClampNeg)) (v3 + 1)
def fX4_sum (ro : Nat → Int32) (a1 : Int32) : Option (Int32) :=
  fX4_sum_4 ro 1000 a1 0 0
set_option maxRecDepth 100000 in
set_option maxHeartbeats 4000000 in
theorem kX4_sum (l : Launch) (g : zG) (qr : Nat) (ro : Nat → Int32) (a1 : Int32) {r : Int32} (h : fX4_sum ro a1 = some r) : Mr l g yX4_sum wsX4_sum { frames := 0, cells := 0, slots := 0, locals := 0 } [.ref qr, .int a1] (zR1 g qr ro) (zQi r) := by
  refine zr_in (cc := cX4_sum) (maxL := 4) (ret := (some .int)) (by decide) rfl (Nat.le_of_ble_eq_true rfl) ?_
  intro p e s m below meth c hx hb hr hml hts hown hlocks hP hK ls hl
  replace hl : lv_has ls 4 [(0, .ref qr), (1, .int a1)] := hl
  have loop_4 : ∀ (n : Nat) (v1 : Int32) (v2 : Int32) (v3 : Int32), fX4_sum_4 ro n v1 v2 v3 = some r → ∀ (ls : Array Slot), lv_has ls 4 [(0, .ref qr), (1, .int v1), (2, .int v2), (3, .int v3)] → W p l e ({ frames := 0, cells := 0, slots := 0, locals := 0 } : Room) s m [.ref qr, .int a1].toArray below meth c s.heap [] 0 0 (MQ below (zQi r) [.ref qr, .int a1].toArray s 0 0 (fun _ => False)) (F0 m 4 ls []) := by
    intro n
    induction n with
    | zero => intro v1 v2 v3 h ls hl; exact zn h
    | succ n ih =>
      intro v1 v2 v3 h ls hl
      rw [fX4_sum_4] at h
      refine lv_iload_n hx hb dX4_sum_4 rfl (lv_at hl 3 rfl) ?_
      refine lv_sipush (v := 256) hx hb dX4_sum_5 (by decide) ?_
      refine lv_icmp_ge (tgt := 25) hx hb dX4_sum_8 (by decide) (fun c1 => ?_) (fun c1 => ?_)
      · replace h := zt c1 h
        refine lv_iload_n hx hb dX4_sum_25 rfl (lv_at hl 2 rfl) ?_
        cases h
        exact zr_i hx hb hr hlocks dX4_sum_26
      · replace h := zf c1 h
        refine lv_iload_n hx hb dX4_sum_11 rfl (lv_at hl 2 rfl) ?_
        refine lv_aload_n hx hb dX4_sum_12 rfl (lv_at hl 0 rfl) ?_
        refine lv_iload_n hx hb dX4_sum_13 rfl (lv_at hl 1 rfl) ?_
        refine lv_iload_n hx hb dX4_sum_14 rfl (lv_at hl 3 rfl) ?_
        refine lv_iadd hx hb dX4_sum_15 ?_
        obtain ⟨i2, h⟩ := zi h
        refine za_ild hx hb hK hP 0 rfl _ rfl i2 dX4_sum_16 ?_
        refine lv_iadd hx hb dX4_sum_17 ?_
        refine lv_istore_n (lv' := [(2, .int (v2 + (ro (v1 + v3).toNatClampNeg))), (0, .ref qr), (1, .int v1), (3, .int v3)]) hx hb dX4_sum_18 rfl hl (by decide) rfl (fun ls hl => ?_)
        refine lv_iinc (v := (v3 + 1)) (lv' := [(3, .int (v3 + 1)), (2, .int (v2 + (ro (v1 + v3).toNatClampNeg))), (0, .ref qr), (1, .int v1)]) hx hb dX4_sum_19 hl (k := 3) rfl rfl (by decide) rfl (fun ls hl => ?_)
        refine lv_goto (tgt := 4) hx hb dX4_sum_22 (by decide) ?_
        exact ih v1 (v2 + (ro (v1 + v3).toNatClampNeg)) (v3 + 1) h ls (lv_sub hl [2, 3, 1, 0] rfl)
  unfold fX4_sum at h
  refine lv_iconst (v := 0) hx hb dX4_sum_0 (by decide) ?_
  refine lv_istore_n (lv' := [(2, .int 0), (0, .ref qr), (1, .int a1)]) hx hb dX4_sum_1 rfl hl (by decide) rfl (fun ls hl => ?_)
  refine lv_iconst (v := 0) hx hb dX4_sum_2 (by decide) ?_
  refine lv_istore_n (lv' := [(3, .int 0), (2, .int 0), (0, .ref qr), (1, .int a1)]) hx hb dX4_sum_3 rfl hl (by decide) rfl (fun ls hl => ?_)
  exact loop_4 1000 a1 0 0 h ls (lv_sub hl [2, 3, 1, 0] rfl)
def fX4_lost_4 (ro : Nat → Int32) : Nat → Int32 → Int32 → Option (Int32)
  | 0, _, _ => none
  | n + 1, v1, v2 =>
    if 256 ≤ v2 then
        some v1
      else
        if (256 + v2) < 0 ∨ 785 ≤ (256 + v2).toNatClampNeg then none else
        if (ro (256 + v2).toNatClampNeg) = 1 then
          if (0 + v2) < 0 ∨ 785 ≤ (0 + v2).toNatClampNeg then none else
          if (ro (0 + v2).toNatClampNeg) = 0 then
            ob (fX4_isQueued ro v2) fun r6 =>
            if r6 = 0 then
              fX4_lost_4 ro n (v1 + 1) (v2 + 1)
            else
              fX4_lost_4 ro n (v1 + 0) (v2 + 1)
          else
            fX4_lost_4 ro n (v1 + 0) (v2 + 1)
        else
          fX4_lost_4 ro n (v1 + 0) (v2 + 1)
def fX4_lost (ro : Nat → Int32) : Option (Int32) :=
  fX4_lost_4 ro 1000 0 0
set_option maxRecDepth 100000 in
set_option maxHeartbeats 4000000 in
theorem kX4_lost (l : Launch) (g : zG) (qr : Nat) (ro : Nat → Int32) {r : Int32} (h : fX4_lost ro = some r) : Mr l g yX4_lost wsX4_lost { frames := 3, cells := 0, slots := 0, locals := 66 } [.ref qr] (zR1 g qr ro) (zQi r) := by
  refine zr_in (cc := cX4_lost) (maxL := 3) (ret := (some .int)) (by decide) rfl (Nat.le_of_ble_eq_true rfl) ?_
  intro p e s m below meth c hx hb hr hml hts hown hlocks hP hK ls hl
  replace hl : lv_has ls 3 [(0, .ref qr)] := hl
  have loop_4 : ∀ (n : Nat) (v1 : Int32) (v2 : Int32), fX4_lost_4 ro n v1 v2 = some r → ∀ (ls : Array Slot), lv_has ls 3 [(0, .ref qr), (1, .int v1), (2, .int v2)] → W p l e ({ frames := 3, cells := 0, slots := 0, locals := 66 } : Room) s m [.ref qr].toArray below meth c s.heap [] 0 0 (MQ below (zQi r) [.ref qr].toArray s 0 0 (fun _ => False)) (F0 m 4 ls []) := by
    intro n
    induction n with
    | zero => intro v1 v2 h ls hl; exact zn h
    | succ n ih =>
      intro v1 v2 h ls hl
      rw [fX4_lost_4] at h
      refine lv_iload_n hx hb dX4_lost_4 rfl (lv_at hl 2 rfl) ?_
      refine lv_sipush (v := 256) hx hb dX4_lost_5 (by decide) ?_
      refine lv_icmp_ge (tgt := 52) hx hb dX4_lost_8 (by decide) (fun c1 => ?_) (fun c1 => ?_)
      · replace h := zt c1 h
        refine lv_iload_n hx hb dX4_lost_52 rfl (lv_at hl 1 rfl) ?_
        cases h
        exact zr_i hx hb hr hlocks dX4_lost_53
      · replace h := zf c1 h
        refine lv_iload_n hx hb dX4_lost_11 rfl (lv_at hl 1 rfl) ?_
        refine lv_aload_n hx hb dX4_lost_12 rfl (lv_at hl 0 rfl) ?_
        refine lv_sipush (v := 256) hx hb dX4_lost_13 (by decide) ?_
        refine lv_iload_n hx hb dX4_lost_16 rfl (lv_at hl 2 rfl) ?_
        refine lv_iadd hx hb dX4_lost_17 ?_
        obtain ⟨i2, h⟩ := zi h
        refine za_ild hx hb hK hP 0 rfl _ rfl i2 dX4_lost_18 ?_
        refine lv_iconst (v := 1) hx hb dX4_lost_19 (by decide) ?_
        refine lv_icmp_ne (tgt := 43) hx hb dX4_lost_20 (by decide) (fun c3 => ?_) (fun c3 => ?_)
        · replace h := zf c3 h
          refine lv_iconst (v := 0) hx hb dX4_lost_43 (by decide) ?_
          refine lv_iadd hx hb dX4_lost_44 ?_
          refine lv_istore_n (lv' := [(1, .int (v1 + 0)), (0, .ref qr), (2, .int v2)]) hx hb dX4_lost_45 rfl hl (by decide) rfl (fun ls hl => ?_)
          refine lv_iinc (v := (v2 + 1)) (lv' := [(2, .int (v2 + 1)), (1, .int (v1 + 0)), (0, .ref qr)]) hx hb dX4_lost_46 hl (k := 2) rfl rfl (by decide) rfl (fun ls hl => ?_)
          refine lv_goto (tgt := 4) hx hb dX4_lost_49 (by decide) ?_
          exact ih (v1 + 0) (v2 + 1) h ls (lv_sub hl [2, 1, 0] rfl)
        · replace h := zt c3 h
          refine lv_aload_n hx hb dX4_lost_23 rfl (lv_at hl 0 rfl) ?_
          refine lv_iconst (v := 0) hx hb dX4_lost_24 (by decide) ?_
          refine lv_iload_n hx hb dX4_lost_25 rfl (lv_at hl 2 rfl) ?_
          refine lv_iadd hx hb dX4_lost_26 ?_
          obtain ⟨i4, h⟩ := zi h
          refine za_ild hx hb hK hP 0 rfl _ rfl i4 dX4_lost_27 ?_
          refine lv_if_ne (tgt := 43) hx hb dX4_lost_28 (by decide) (fun c5 => ?_) (fun c5 => ?_)
          · replace h := zf c5 h
            refine lv_iconst (v := 0) hx hb dX4_lost_43 (by decide) ?_
            refine lv_iadd hx hb dX4_lost_44 ?_
            refine lv_istore_n (lv' := [(1, .int (v1 + 0)), (0, .ref qr), (2, .int v2)]) hx hb dX4_lost_45 rfl hl (by decide) rfl (fun ls hl => ?_)
            refine lv_iinc (v := (v2 + 1)) (lv' := [(2, .int (v2 + 1)), (1, .int (v1 + 0)), (0, .ref qr)]) hx hb dX4_lost_46 hl (k := 2) rfl rfl (by decide) rfl (fun ls hl => ?_)
            refine lv_goto (tgt := 4) hx hb dX4_lost_49 (by decide) ?_
            exact ih (v1 + 0) (v2 + 1) h ls (lv_sub hl [2, 1, 0] rfl)
          · replace h := zt c5 h
            refine lv_aload_n hx hb dX4_lost_31 rfl (lv_at hl 0 rfl) ?_
            refine lv_iload_n hx hb dX4_lost_32 rfl (lv_at hl 2 rfl) ?_
            obtain ⟨r6, e6, h⟩ := zb h
            refine zS (As := [.ref qr, .int v2]) (rest := [.int v1]) (zQi_q _) ⟨hx, hb, hml, hown, hts⟩ (kX4_isQueued l g qr ro v2 e6) (va_cwS 2 hts gX4_lost_X4_isQueued rfl rfl rfl hdS_X4_isQueued ⟨Nat.le_of_ble_eq_true rfl, Nat.le_of_ble_eq_true rfl⟩) hK hP [0] rfl rfl hl.1 rfl (Nat.le_of_ble_eq_true rfl) ⟨Nat.zero_le _, Nat.zero_le _⟩ dX4_lost_33 ?_
            refine lv_if_ne (tgt := 43) hx hb dX4_lost_36 (by decide) (fun c7 => ?_) (fun c7 => ?_)
            · replace h := zf c7 h
              refine lv_iconst (v := 0) hx hb dX4_lost_43 (by decide) ?_
              refine lv_iadd hx hb dX4_lost_44 ?_
              refine lv_istore_n (lv' := [(1, .int (v1 + 0)), (0, .ref qr), (2, .int v2)]) hx hb dX4_lost_45 rfl hl (by decide) rfl (fun ls hl => ?_)
              refine lv_iinc (v := (v2 + 1)) (lv' := [(2, .int (v2 + 1)), (1, .int (v1 + 0)), (0, .ref qr)]) hx hb dX4_lost_46 hl (k := 2) rfl rfl (by decide) rfl (fun ls hl => ?_)
              refine lv_goto (tgt := 4) hx hb dX4_lost_49 (by decide) ?_
              exact ih (v1 + 0) (v2 + 1) h ls (lv_sub hl [2, 1, 0] rfl)
            · replace h := zt c7 h
              refine lv_iconst (v := 1) hx hb dX4_lost_39 (by decide) ?_
              refine lv_goto (tgt := 44) hx hb dX4_lost_40 (by decide) ?_
              refine lv_iadd hx hb dX4_lost_44 ?_
              refine lv_istore_n (lv' := [(1, .int (v1 + 1)), (0, .ref qr), (2, .int v2)]) hx hb dX4_lost_45 rfl hl (by decide) rfl (fun ls hl => ?_)
              refine lv_iinc (v := (v2 + 1)) (lv' := [(2, .int (v2 + 1)), (1, .int (v1 + 1)), (0, .ref qr)]) hx hb dX4_lost_46 hl (k := 2) rfl rfl (by decide) rfl (fun ls hl => ?_)
              refine lv_goto (tgt := 4) hx hb dX4_lost_49 (by decide) ?_
              exact ih (v1 + 1) (v2 + 1) h ls (lv_sub hl [2, 1, 0] rfl)
  unfold fX4_lost at h
  refine lv_iconst (v := 0) hx hb dX4_lost_0 (by decide) ?_
  refine lv_istore_n (lv' := [(1, .int 0), (0, .ref qr)]) hx hb dX4_lost_1 rfl hl (by decide) rfl (fun ls hl => ?_)
  refine lv_iconst (v := 0) hx hb dX4_lost_2 (by decide) ?_
  refine lv_istore_n (lv' := [(2, .int 0), (1, .int 0), (0, .ref qr)]) hx hb dX4_lost_3 rfl hl (by decide) rfl (fun ls hl => ?_)
  exact loop_4 1000 0 0 h ls (lv_sub hl [2, 1, 0] rfl)
def fX4_rangeAt_4 (ro : Nat → Int32) : Nat → Int32 → Int32 → Option (Int32)
  | 0, _, _ => none
  | n + 1, v2, v3 =>
    if 256 ≤ v3 then
        some (-1)
      else
        ob (fX4_begins ro v3) fun r2 =>
        if r2 = 0 then
          fX4_rangeAt_4 ro n v2 (v3 + 1)
        else
          if v2 = 0 then
            some v3
          else
            fX4_rangeAt_4 ro n (v2 + (-1)) (v3 + 1)
def fX4_rangeAt (ro : Nat → Int32) (a1 : Int32) : Option (Int32) :=
  fX4_rangeAt_4 ro 1000 a1 0
set_option maxRecDepth 100000 in
set_option maxHeartbeats 4000000 in
theorem kX4_rangeAt (l : Launch) (g : zG) (qr : Nat) (ro : Nat → Int32) (a1 : Int32) {r : Int32} (h : fX4_rangeAt ro a1 = some r) : Mr l g yX4_rangeAt wsX4_rangeAt { frames := 4, cells := 0, slots := 0, locals := 87 } [.ref qr, .int a1] (zR1 g qr ro) (zQi r) := by
  refine zr_in (cc := cX4_rangeAt) (maxL := 4) (ret := (some .int)) (by decide) rfl (Nat.le_of_ble_eq_true rfl) ?_
  intro p e s m below meth c hx hb hr hml hts hown hlocks hP hK ls hl
  replace hl : lv_has ls 4 [(0, .ref qr), (1, .int a1)] := hl
  have loop_4 : ∀ (n : Nat) (v2 : Int32) (v3 : Int32), fX4_rangeAt_4 ro n v2 v3 = some r → ∀ (ls : Array Slot), lv_has ls 4 [(0, .ref qr), (2, .int v2), (3, .int v3)] → W p l e ({ frames := 4, cells := 0, slots := 0, locals := 87 } : Room) s m [.ref qr, .int a1].toArray below meth c s.heap [] 0 0 (MQ below (zQi r) [.ref qr, .int a1].toArray s 0 0 (fun _ => False)) (F0 m 4 ls []) := by
    intro n
    induction n with
    | zero => intro v2 v3 h ls hl; exact zn h
    | succ n ih =>
      intro v2 v3 h ls hl
      rw [fX4_rangeAt_4] at h
      refine lv_iload_n hx hb dX4_rangeAt_4 rfl (lv_at hl 2 rfl) ?_
      refine lv_sipush (v := 256) hx hb dX4_rangeAt_5 (by decide) ?_
      refine lv_icmp_ge (tgt := 34) hx hb dX4_rangeAt_8 (by decide) (fun c1 => ?_) (fun c1 => ?_)
      · replace h := zt c1 h
        refine lv_iconst (v := (-1)) hx hb dX4_rangeAt_34 (by decide) ?_
        cases h
        exact zr_i hx hb hr hlocks dX4_rangeAt_35
      · replace h := zf c1 h
        refine lv_aload_n hx hb dX4_rangeAt_11 rfl (lv_at hl 0 rfl) ?_
        refine lv_iload_n hx hb dX4_rangeAt_12 rfl (lv_at hl 2 rfl) ?_
        obtain ⟨r2, e2, h⟩ := zb h
        refine zS (As := [.ref qr, .int v3]) (rest := []) (zQi_q _) ⟨hx, hb, hml, hown, hts⟩ (kX4_begins l g qr ro v3 e2) (va_cwS 2 hts gX4_rangeAt_X4_begins rfl rfl rfl hdS_X4_begins ⟨Nat.le_of_ble_eq_true rfl, Nat.le_of_ble_eq_true rfl⟩) hK hP [0] rfl rfl hl.1 rfl (Nat.le_of_ble_eq_true rfl) ⟨Nat.zero_le _, Nat.zero_le _⟩ dX4_rangeAt_13 ?_
        refine lv_if_eq (tgt := 28) hx hb dX4_rangeAt_16 (by decide) (fun c3 => ?_) (fun c3 => ?_)
        · replace h := zt c3 h
          refine lv_iinc (v := (v3 + 1)) (lv' := [(3, .int (v3 + 1)), (0, .ref qr), (2, .int v2)]) hx hb dX4_rangeAt_28 hl (k := 2) rfl rfl (by decide) rfl (fun ls hl => ?_)
          refine lv_goto (tgt := 4) hx hb dX4_rangeAt_31 (by decide) ?_
          exact ih v2 (v3 + 1) h ls (lv_sub hl [1, 2, 0] rfl)
        · replace h := zf c3 h
          refine lv_iload_n hx hb dX4_rangeAt_19 rfl (lv_at hl 1 rfl) ?_
          refine lv_if_ne (tgt := 25) hx hb dX4_rangeAt_20 (by decide) (fun c4 => ?_) (fun c4 => ?_)
          · replace h := zf c4 h
            refine lv_iinc (v := (v2 + (-1))) (lv' := [(2, .int (v2 + (-1))), (0, .ref qr), (3, .int v3)]) hx hb dX4_rangeAt_25 hl (k := 1) rfl rfl (by decide) rfl (fun ls hl => ?_)
            refine lv_iinc (v := (v3 + 1)) (lv' := [(3, .int (v3 + 1)), (2, .int (v2 + (-1))), (0, .ref qr)]) hx hb dX4_rangeAt_28 hl (k := 2) rfl rfl (by decide) rfl (fun ls hl => ?_)
            refine lv_goto (tgt := 4) hx hb dX4_rangeAt_31 (by decide) ?_
            exact ih (v2 + (-1)) (v3 + 1) h ls (lv_sub hl [2, 1, 0] rfl)
          · replace h := zt c4 h
            refine lv_iload_n hx hb dX4_rangeAt_23 rfl (lv_at hl 2 rfl) ?_
            cases h
            exact zr_i hx hb hr hlocks dX4_rangeAt_24
  unfold fX4_rangeAt at h
  refine lv_iload_n hx hb dX4_rangeAt_0 rfl (lv_at hl 1 rfl) ?_
  refine lv_istore_n (lv' := [(2, .int a1), (0, .ref qr), (1, .int a1)]) hx hb dX4_rangeAt_1 rfl hl (by decide) rfl (fun ls hl => ?_)
  refine lv_iconst (v := 0) hx hb dX4_rangeAt_2 (by decide) ?_
  refine lv_istore_n (lv' := [(3, .int 0), (2, .int a1), (0, .ref qr), (1, .int a1)]) hx hb dX4_rangeAt_3 rfl hl (by decide) rfl (fun ls hl => ?_)
  exact loop_4 1000 a1 0 h ls (lv_sub hl [2, 1, 0] rfl)
def fX4_refused (a1 : Int32) : Option (Int32 × (Int32)) :=
  if a1 ≤ 0 then
    some (0, a1)
  else
    some (1, a1)
theorem mX4_refused_33 : Cond.fieldLink RX4 33 "IdleDiscardsModel" "refusal" "I" ∈ wsX4_refused := by decide +kernel
theorem uX4_refused_X4 : ∀ w ∈ wsX40, w ∈ wsX4_refused := by decide +kernel
set_option maxRecDepth 100000 in
set_option maxHeartbeats 4000000 in
theorem kX4_refused (l : Launch) (g : zG) (h0 h1 : Nat) (vn vt vd vk vi : Value) (rf : Int32) (sz : Int32) (ac : Int32) (sF : Int32) (sB : Int32) (sp : Int32) (ou : Int32) (tx : Nat → Int32) (a1 : Int32) {r : Int32} {rf' : Int32} (h : fX4_refused a1 = some (r, rf')) : Mw l g yX4_refused wsX4_refused { frames := 0, cells := 0, slots := 0, locals := 0 } [.ref h0, .int a1] (zMT g h0 h1 vn vt vd vk vi rf sz ac sF sB sp ou tx) (zWi g (zMT g h0 h1 vn vt vd vk vi rf' sz ac sF sB sp ou tx) r) := by
  refine zw_in (cc := cX4_refused) (maxL := 2) (ret := (some .boolean)) (by decide) rfl (Nat.le_of_ble_eq_true rfl) ?_
  intro p e s m below meth c hx hb hr hml hts hown hlocks hK A hA hP hD hS ls hl
  replace hl : lv_has ls 2 [(0, .ref h0), (1, .int a1)] := hl
  unfold fX4_refused at h
  refine lv_aload_n hx hb dX4_refused_0 rfl (lv_at hl 0 rfl) ?_
  refine lv_iload_n hx hb dX4_refused_1 rfl (lv_at hl 1 rfl) ?_
  refine va_put (ci := 4) (v := .int a1) (ty := .int) (C := RX4) (T := TX4) (N := 13) hx hb hts uX4_refused_X4 tyX4 tyX4_ok nmX4 hown hK hP hD hS 0 rfl rfl 0 (by decide) (hts _ mX4_refused_33) (fun _ h9 => h9) rfl (by decide +kernel) rfl rfl (Nat.le_of_ble_eq_true rfl) dX4_refused_2 (fun H locs hP hD hS => ?_)
  replace hP : zP g (zMT g h0 h1 vn vt vd vk vi a1 sz ac sF sB sp ou tx) H := hP
  replace hD : va_D A (zMT g h0 h1 vn vt vd vk vi a1 sz ac sF sB sp ou tx) := hD
  refine lv_iload_n hx hb dX4_refused_5 rfl (lv_at hl 1 rfl) ?_
  refine lv_if_le (tgt := 13) hx hb dX4_refused_6 (by decide) (fun c1 => ?_) (fun c1 => ?_)
  · replace h := zt c1 h
    refine lv_iconst (v := 0) hx hb dX4_refused_13 (by decide) ?_
    cases h
    exact zw_z hx hb hr hlocks (by decide) hP hS dX4_refused_14
  · replace h := zf c1 h
    refine lv_iconst (v := 1) hx hb dX4_refused_9 (by decide) ?_
    refine lv_goto (tgt := 14) hx hb dX4_refused_10 (by decide) ?_
    cases h
    exact zw_z hx hb hr hlocks (by decide) hP hS dX4_refused_14
def fX4_thrown (rf : Int32) : Option (Int32) :=
  some rf
theorem mX4_thrown_33 : Cond.fieldLink RX4 33 "IdleDiscardsModel" "refusal" "I" ∈ wsX4_thrown := by decide +kernel
theorem uX4_thrown_X4 : ∀ w ∈ wsX40, w ∈ wsX4_thrown := by decide +kernel
set_option maxRecDepth 100000 in
set_option maxHeartbeats 4000000 in
theorem kX4_thrown (l : Launch) (g : zG) (h0 h1 : Nat) (vn vt vd vk vi : Value) (rf : Int32) (sz : Int32) (ac : Int32) (sF : Int32) (sB : Int32) (sp : Int32) (ou : Int32) (tx : Nat → Int32) {r : Int32} (h : fX4_thrown rf = some r) : Mr l g yX4_thrown wsX4_thrown { frames := 0, cells := 0, slots := 0, locals := 0 } [.ref h0] (zMT g h0 h1 vn vt vd vk vi rf sz ac sF sB sp ou tx) (zQi r) := by
  refine zr_in (cc := cX4_thrown) (maxL := 1) (ret := (some .int)) (by decide) rfl (Nat.le_of_ble_eq_true rfl) ?_
  intro p e s m below meth c hx hb hr hml hts hown hlocks hP hK ls hl
  replace hl : lv_has ls 1 [(0, .ref h0)] := hl
  unfold fX4_thrown at h
  refine lv_aload_n hx hb dX4_thrown_0 rfl (lv_at hl 0 rfl) ?_
  refine va_get (ci := 4) (v := .int rf) (C := RX4) (T := TX4) (N := 13) hx hb hts uX4_thrown_X4 hown hK hP 0 rfl rfl 0 (by decide) (hts _ mX4_thrown_33) (fun _ h9 => h9) rfl dX4_thrown_1 ?_
  cases h
  exact zr_i hx hb hr hlocks dX4_thrown_4
def fX4_clearText (sz : Int32) : Option (Int32 × (Int32) × (Int32)) :=
  some (sz, 0, 0)
theorem mX4_clearText_33 : Cond.fieldLink RX4 33 "IdleDiscardsModel" "refusal" "I" ∈ wsX4_clearText := by decide +kernel
theorem uX4_clearText_X4 : ∀ w ∈ wsX40, w ∈ wsX4_clearText := by decide +kernel
theorem mX4_clearText_115 : Cond.fieldLink RX4 115 "IdleDiscardsModel" "size" "I" ∈ wsX4_clearText := by decide +kernel
set_option maxRecDepth 100000 in
set_option maxHeartbeats 4000000 in
theorem kX4_clearText (l : Launch) (g : zG) (h0 h1 : Nat) (vn vt vd vk vi : Value) (rf : Int32) (sz : Int32) (ac : Int32) (sF : Int32) (sB : Int32) (sp : Int32) (ou : Int32) (tx : Nat → Int32) {r : Int32} {rf' : Int32} {sz' : Int32} (h : fX4_clearText sz = some (r, rf', sz')) : Mw l g yX4_clearText wsX4_clearText { frames := 0, cells := 0, slots := 0, locals := 0 } [.ref h0] (zMT g h0 h1 vn vt vd vk vi rf sz ac sF sB sp ou tx) (zWi g (zMT g h0 h1 vn vt vd vk vi rf' sz' ac sF sB sp ou tx) r) := by
  refine zw_in (cc := cX4_clearText) (maxL := 2) (ret := (some .int)) (by decide) rfl (Nat.le_of_ble_eq_true rfl) ?_
  intro p e s m below meth c hx hb hr hml hts hown hlocks hK A hA hP hD hS ls hl
  replace hl : lv_has ls 2 [(0, .ref h0)] := hl
  unfold fX4_clearText at h
  refine lv_aload_n hx hb dX4_clearText_0 rfl (lv_at hl 0 rfl) ?_
  refine lv_iconst (v := 0) hx hb dX4_clearText_1 (by decide) ?_
  refine va_put (ci := 4) (v := .int 0) (ty := .int) (C := RX4) (T := TX4) (N := 13) hx hb hts uX4_clearText_X4 tyX4 tyX4_ok nmX4 hown hK hP hD hS 0 rfl rfl 0 (by decide) (hts _ mX4_clearText_33) (fun _ h9 => h9) rfl (by decide +kernel) rfl rfl (Nat.le_of_ble_eq_true rfl) dX4_clearText_2 (fun H locs hP hD hS => ?_)
  replace hP : zP g (zMT g h0 h1 vn vt vd vk vi 0 sz ac sF sB sp ou tx) H := hP
  replace hD : va_D A (zMT g h0 h1 vn vt vd vk vi 0 sz ac sF sB sp ou tx) := hD
  refine lv_aload_n hx hb dX4_clearText_5 rfl (lv_at hl 0 rfl) ?_
  refine va_get (ci := 4) (v := .int sz) (C := RX4) (T := TX4) (N := 13) hx hb hts uX4_clearText_X4 hown hK hP 0 rfl rfl 2 (by decide) (hts _ mX4_clearText_115) (fun _ h9 => h9) rfl dX4_clearText_6 ?_
  refine lv_istore_n (lv' := [(1, .int sz), (0, .ref h0)]) hx hb dX4_clearText_9 rfl hl (by decide) rfl (fun ls hl => ?_)
  refine lv_aload_n hx hb dX4_clearText_10 rfl (lv_at hl 1 rfl) ?_
  refine lv_iconst (v := 0) hx hb dX4_clearText_11 (by decide) ?_
  refine va_put (ci := 4) (v := .int 0) (ty := .int) (C := RX4) (T := TX4) (N := 13) hx hb hts uX4_clearText_X4 tyX4 tyX4_ok nmX4 hown hK hP hD hS 0 rfl rfl 2 (by decide) (hts _ mX4_clearText_115) (fun _ h9 => h9) rfl (by decide +kernel) rfl rfl (Nat.le_of_ble_eq_true rfl) dX4_clearText_12 (fun H locs hP hD hS => ?_)
  replace hP : zP g (zMT g h0 h1 vn vt vd vk vi 0 0 ac sF sB sp ou tx) H := hP
  replace hD : va_D A (zMT g h0 h1 vn vt vd vk vi 0 0 ac sF sB sp ou tx) := hD
  refine lv_iload_n hx hb dX4_clearText_15 rfl (lv_at hl 0 rfl) ?_
  cases h
  exact zw_i hx hb hr hlocks hP hS dX4_clearText_16
theorem hdV_X4_refused : yX4_refused.cls = RX4 ∧ yX4_refused.cls ≠ "java/lang/invoke/MethodHandle" ∧ yX4_refused.cls ≠ "java/lang/invoke/VarHandle" ∧ (parseMethodDescriptor yX4_refused.desc).map (fun d => d.parameters.length) = some 1 := by decide +kernel
def fX4_append (sz : Int32) (tx : Nat → Int32) (a1 : Int32) : Option (Int32 × (Int32) × (Int32) × (Nat → Int32)) :=
  ob (fX4_in a1.toInt64 0 (255)) fun r1 =>
  if r1 = 0 then
    ob2 (fX4_refused 1) fun r10 rf10 =>
    if r10 = 0 then
      if sz < 0 ∨ 120 ≤ sz.toNatClampNeg then none else
      some ((sz + 1), rf10, (sz + 1), (upd tx sz.toNatClampNeg a1))
    else
      some (0, rf10, sz, tx)
  else
    if sz = 120 then
      ob2 (fX4_refused 2) fun r7 rf7 =>
      if r7 = 0 then
        if sz < 0 ∨ 120 ≤ sz.toNatClampNeg then none else
        some ((sz + 1), rf7, (sz + 1), (upd tx sz.toNatClampNeg a1))
      else
        some (0, rf7, sz, tx)
    else
      ob2 (fX4_refused 0) fun r4 rf4 =>
      if r4 = 0 then
        if sz < 0 ∨ 120 ≤ sz.toNatClampNeg then none else
        some ((sz + 1), rf4, (sz + 1), (upd tx sz.toNatClampNeg a1))
      else
        some (0, rf4, sz, tx)
theorem mX4_append_37 : Cond.constantLong RX4 37 (255) ∈ wsX4_append := by decide +kernel
theorem mX4_append_115 : Cond.fieldLink RX4 115 "IdleDiscardsModel" "size" "I" ∈ wsX4_append := by decide +kernel
theorem uX4_append_X4 : ∀ w ∈ wsX40, w ∈ wsX4_append := by decide +kernel
theorem mX4_append_7 : Cond.fieldLink RX4 7 "IdleDiscardsModel" "text" "[I" ∈ wsX4_append := by decide +kernel
set_option maxRecDepth 100000 in
set_option maxHeartbeats 4000000 in
theorem kX4_append (l : Launch) (g : zG) (h0 h1 : Nat) (vn vt vd vk vi : Value) (rf : Int32) (sz : Int32) (ac : Int32) (sF : Int32) (sB : Int32) (sp : Int32) (ou : Int32) (tx : Nat → Int32) (a1 : Int32) {r : Int32} {rf' : Int32} {sz' : Int32} {tx' : Nat → Int32} (h : fX4_append sz tx a1 = some (r, rf', sz', tx')) : Mw l g yX4_append wsX4_append { frames := 1, cells := 0, slots := 0, locals := 25 } [.ref h0, .int a1] (zMT g h0 h1 vn vt vd vk vi rf sz ac sF sB sp ou tx) (zWi g (zMT g h0 h1 vn vt vd vk vi rf' sz' ac sF sB sp ou tx') r) := by
  refine zw_in (cc := cX4_append) (maxL := 2) (ret := (some .int)) (by decide) rfl (Nat.le_of_ble_eq_true rfl) ?_
  intro p e s m below meth c hx hb hr hml hts hown hlocks hK A hA hP hD hS ls hl
  replace hl : lv_has ls 2 [(0, .ref h0), (1, .int a1)] := hl
  unfold fX4_append at h
  refine lv_aload_n hx hb dX4_append_0 rfl (lv_at hl 0 rfl) ?_
  refine lv_iload_n hx hb dX4_append_1 rfl (lv_at hl 1 rfl) ?_
  refine lv_i2l (v := a1.toInt64) hx hb dX4_append_2 rfl ?_
  refine lv_lconst (v := 0) hx hb dX4_append_3 (by decide) ?_
  refine lv_ldc2 hx hb hown (hts _ mX4_append_37) dX4_append_4 ?_
  obtain ⟨r1, e1, h⟩ := zb h
  refine zS (As := [.long a1.toInt64, .long 0, .long (255)]) (rest := [.ref h0]) (zQi_q _) ⟨hx, hb, hml, hown, hts⟩ (kX4_in l g a1.toInt64 0 (255) e1) (va_cwS 3 hts gX4_append_X4_in rfl rfl rfl hdS_X4_in ⟨Nat.le_of_ble_eq_true rfl, Nat.le_of_ble_eq_true rfl⟩) hK hP [] rfl rfl hl.1 rfl (Nat.le_of_ble_eq_true rfl) ⟨Nat.zero_le _, Nat.zero_le _⟩ dX4_append_7 ?_
  refine lv_if_ne (tgt := 17) hx hb dX4_append_10 (by decide) (fun c2 => ?_) (fun c2 => ?_)
  · replace h := zf c2 h
    refine lv_aload_n hx hb dX4_append_17 rfl (lv_at hl 0 rfl) ?_
    refine va_get (ci := 4) (v := .int sz) (C := RX4) (T := TX4) (N := 13) hx hb hts uX4_append_X4 hown hK hP 0 rfl rfl 2 (by decide) (hts _ mX4_append_115) (fun _ h9 => h9) rfl dX4_append_18 ?_
    refine lv_bipush (v := 120) hx hb dX4_append_21 (by decide) ?_
    refine lv_icmp_ne (tgt := 30) hx hb dX4_append_23 (by decide) (fun c3 => ?_) (fun c3 => ?_)
    · replace h := zf c3 h
      refine lv_iconst (v := 0) hx hb dX4_append_30 (by decide) ?_
      obtain ⟨r4, rf4, e4, h⟩ := zb2 h
      refine zVw (As := [.int 0]) (rest := []) (zWi_q g _ _) ⟨hx, hb, hml, hown, hts⟩ (kX4_refused l g h0 h1 vn vt vd vk vi rf sz ac sF sB sp ou tx 0 e4) (cwV 1 hts gX4_append_X4_refused rfl rfl rfl hdV_X4_refused ⟨Nat.le_of_ble_eq_true rfl, Nat.le_of_ble_eq_true rfl⟩) hK hP hD hS hA [0, 1] (by decide) rfl rfl 0 rfl rfl rfl hl.1 rfl (Nat.le_of_ble_eq_true rfl) ⟨Nat.zero_le _, Nat.zero_le _⟩ dX4_append_31 (fun H locs hP hD hS => ?_)
      replace hP : zP g (zMT g h0 h1 vn vt vd vk vi rf4 sz ac sF sB sp ou tx) H := hP
      replace hD : va_D A (zMT g h0 h1 vn vt vd vk vi rf4 sz ac sF sB sp ou tx) := hD
      refine lv_if_eq (tgt := 39) hx hb dX4_append_34 (by decide) (fun c5 => ?_) (fun c5 => ?_)
      · replace h := zt c5 h
        refine lv_aload_n hx hb dX4_append_39 rfl (lv_at hl 0 rfl) ?_
        refine va_get (ci := 4) (v := .ref h1) (C := RX4) (T := TX4) (N := 13) hx hb hts uX4_append_X4 hown hK hP 0 rfl rfl 1 (by decide) (hts _ mX4_append_7) (fun _ h9 => h9) rfl dX4_append_40 ?_
        refine lv_aload_n hx hb dX4_append_43 rfl (lv_at hl 0 rfl) ?_
        refine va_get (ci := 4) (v := .int sz) (C := RX4) (T := TX4) (N := 13) hx hb hts uX4_append_X4 hown hK hP 0 rfl rfl 2 (by decide) (hts _ mX4_append_115) (fun _ h9 => h9) rfl dX4_append_44 ?_
        refine lv_iload_n hx hb dX4_append_47 rfl (lv_at hl 1 rfl) ?_
        obtain ⟨i6, h⟩ := zi h
        refine za_ist hx hb hK hP hD hS 1 rfl _ rfl i6 dX4_append_48 (fun H locs hP hD hS => ?_)
        replace hP : zP g (zMT g h0 h1 vn vt vd vk vi rf4 sz ac sF sB sp ou (upd tx sz.toNatClampNeg a1)) H := hP
        replace hD : va_D A (zMT g h0 h1 vn vt vd vk vi rf4 sz ac sF sB sp ou (upd tx sz.toNatClampNeg a1)) := hD
        refine lv_aload_n hx hb dX4_append_49 rfl (lv_at hl 0 rfl) ?_
        refine lv_dup hx hb dX4_append_50 rfl ?_
        refine va_get (ci := 4) (v := .int sz) (C := RX4) (T := TX4) (N := 13) hx hb hts uX4_append_X4 hown hK hP 0 rfl rfl 2 (by decide) (hts _ mX4_append_115) (fun _ h9 => h9) rfl dX4_append_51 ?_
        refine lv_iconst (v := 1) hx hb dX4_append_54 (by decide) ?_
        refine lv_iadd hx hb dX4_append_55 ?_
        refine va_put (ci := 4) (v := .int (sz + 1)) (ty := .int) (C := RX4) (T := TX4) (N := 13) hx hb hts uX4_append_X4 tyX4 tyX4_ok nmX4 hown hK hP hD hS 0 rfl rfl 2 (by decide) (hts _ mX4_append_115) (fun _ h9 => h9) rfl (by decide +kernel) rfl rfl (Nat.le_of_ble_eq_true rfl) dX4_append_56 (fun H locs hP hD hS => ?_)
        replace hP : zP g (zMT g h0 h1 vn vt vd vk vi rf4 (sz + 1) ac sF sB sp ou (upd tx sz.toNatClampNeg a1)) H := hP
        replace hD : va_D A (zMT g h0 h1 vn vt vd vk vi rf4 (sz + 1) ac sF sB sp ou (upd tx sz.toNatClampNeg a1)) := hD
        refine lv_aload_n hx hb dX4_append_59 rfl (lv_at hl 0 rfl) ?_
        refine va_get (ci := 4) (v := .int (sz + 1)) (C := RX4) (T := TX4) (N := 13) hx hb hts uX4_append_X4 hown hK hP 0 rfl rfl 2 (by decide) (hts _ mX4_append_115) (fun _ h9 => h9) rfl dX4_append_60 ?_
        cases h
        exact zw_i hx hb hr hlocks hP hS dX4_append_63
      · replace h := zf c5 h
        refine lv_iconst (v := 0) hx hb dX4_append_37 (by decide) ?_
        cases h
        exact zw_i hx hb hr hlocks hP hS dX4_append_38
    · replace h := zt c3 h
      refine lv_iconst (v := 2) hx hb dX4_append_26 (by decide) ?_
      refine lv_goto (tgt := 31) hx hb dX4_append_27 (by decide) ?_
      obtain ⟨r7, rf7, e7, h⟩ := zb2 h
      refine zVw (As := [.int 2]) (rest := []) (zWi_q g _ _) ⟨hx, hb, hml, hown, hts⟩ (kX4_refused l g h0 h1 vn vt vd vk vi rf sz ac sF sB sp ou tx 2 e7) (cwV 1 hts gX4_append_X4_refused rfl rfl rfl hdV_X4_refused ⟨Nat.le_of_ble_eq_true rfl, Nat.le_of_ble_eq_true rfl⟩) hK hP hD hS hA [0, 1] (by decide) rfl rfl 0 rfl rfl rfl hl.1 rfl (Nat.le_of_ble_eq_true rfl) ⟨Nat.zero_le _, Nat.zero_le _⟩ dX4_append_31 (fun H locs hP hD hS => ?_)
      replace hP : zP g (zMT g h0 h1 vn vt vd vk vi rf7 sz ac sF sB sp ou tx) H := hP
      replace hD : va_D A (zMT g h0 h1 vn vt vd vk vi rf7 sz ac sF sB sp ou tx) := hD
      refine lv_if_eq (tgt := 39) hx hb dX4_append_34 (by decide) (fun c8 => ?_) (fun c8 => ?_)
      · replace h := zt c8 h
        refine lv_aload_n hx hb dX4_append_39 rfl (lv_at hl 0 rfl) ?_
        refine va_get (ci := 4) (v := .ref h1) (C := RX4) (T := TX4) (N := 13) hx hb hts uX4_append_X4 hown hK hP 0 rfl rfl 1 (by decide) (hts _ mX4_append_7) (fun _ h9 => h9) rfl dX4_append_40 ?_
        refine lv_aload_n hx hb dX4_append_43 rfl (lv_at hl 0 rfl) ?_
        refine va_get (ci := 4) (v := .int sz) (C := RX4) (T := TX4) (N := 13) hx hb hts uX4_append_X4 hown hK hP 0 rfl rfl 2 (by decide) (hts _ mX4_append_115) (fun _ h9 => h9) rfl dX4_append_44 ?_
        refine lv_iload_n hx hb dX4_append_47 rfl (lv_at hl 1 rfl) ?_
        obtain ⟨i9, h⟩ := zi h
        refine za_ist hx hb hK hP hD hS 1 rfl _ rfl i9 dX4_append_48 (fun H locs hP hD hS => ?_)
        replace hP : zP g (zMT g h0 h1 vn vt vd vk vi rf7 sz ac sF sB sp ou (upd tx sz.toNatClampNeg a1)) H := hP
        replace hD : va_D A (zMT g h0 h1 vn vt vd vk vi rf7 sz ac sF sB sp ou (upd tx sz.toNatClampNeg a1)) := hD
        refine lv_aload_n hx hb dX4_append_49 rfl (lv_at hl 0 rfl) ?_
        refine lv_dup hx hb dX4_append_50 rfl ?_
        refine va_get (ci := 4) (v := .int sz) (C := RX4) (T := TX4) (N := 13) hx hb hts uX4_append_X4 hown hK hP 0 rfl rfl 2 (by decide) (hts _ mX4_append_115) (fun _ h9 => h9) rfl dX4_append_51 ?_
        refine lv_iconst (v := 1) hx hb dX4_append_54 (by decide) ?_
        refine lv_iadd hx hb dX4_append_55 ?_
        refine va_put (ci := 4) (v := .int (sz + 1)) (ty := .int) (C := RX4) (T := TX4) (N := 13) hx hb hts uX4_append_X4 tyX4 tyX4_ok nmX4 hown hK hP hD hS 0 rfl rfl 2 (by decide) (hts _ mX4_append_115) (fun _ h9 => h9) rfl (by decide +kernel) rfl rfl (Nat.le_of_ble_eq_true rfl) dX4_append_56 (fun H locs hP hD hS => ?_)
        replace hP : zP g (zMT g h0 h1 vn vt vd vk vi rf7 (sz + 1) ac sF sB sp ou (upd tx sz.toNatClampNeg a1)) H := hP
        replace hD : va_D A (zMT g h0 h1 vn vt vd vk vi rf7 (sz + 1) ac sF sB sp ou (upd tx sz.toNatClampNeg a1)) := hD
        refine lv_aload_n hx hb dX4_append_59 rfl (lv_at hl 0 rfl) ?_
        refine va_get (ci := 4) (v := .int (sz + 1)) (C := RX4) (T := TX4) (N := 13) hx hb hts uX4_append_X4 hown hK hP 0 rfl rfl 2 (by decide) (hts _ mX4_append_115) (fun _ h9 => h9) rfl dX4_append_60 ?_
        cases h
        exact zw_i hx hb hr hlocks hP hS dX4_append_63
      · replace h := zf c8 h
        refine lv_iconst (v := 0) hx hb dX4_append_37 (by decide) ?_
        cases h
        exact zw_i hx hb hr hlocks hP hS dX4_append_38
  · replace h := zt c2 h
    refine lv_iconst (v := 1) hx hb dX4_append_13 (by decide) ?_
    refine lv_goto (tgt := 31) hx hb dX4_append_14 (by decide) ?_
    obtain ⟨r10, rf10, e10, h⟩ := zb2 h
    refine zVw (As := [.int 1]) (rest := []) (zWi_q g _ _) ⟨hx, hb, hml, hown, hts⟩ (kX4_refused l g h0 h1 vn vt vd vk vi rf sz ac sF sB sp ou tx 1 e10) (cwV 1 hts gX4_append_X4_refused rfl rfl rfl hdV_X4_refused ⟨Nat.le_of_ble_eq_true rfl, Nat.le_of_ble_eq_true rfl⟩) hK hP hD hS hA [0, 1] (by decide) rfl rfl 0 rfl rfl rfl hl.1 rfl (Nat.le_of_ble_eq_true rfl) ⟨Nat.zero_le _, Nat.zero_le _⟩ dX4_append_31 (fun H locs hP hD hS => ?_)
    replace hP : zP g (zMT g h0 h1 vn vt vd vk vi rf10 sz ac sF sB sp ou tx) H := hP
    replace hD : va_D A (zMT g h0 h1 vn vt vd vk vi rf10 sz ac sF sB sp ou tx) := hD
    refine lv_if_eq (tgt := 39) hx hb dX4_append_34 (by decide) (fun c11 => ?_) (fun c11 => ?_)
    · replace h := zt c11 h
      refine lv_aload_n hx hb dX4_append_39 rfl (lv_at hl 0 rfl) ?_
      refine va_get (ci := 4) (v := .ref h1) (C := RX4) (T := TX4) (N := 13) hx hb hts uX4_append_X4 hown hK hP 0 rfl rfl 1 (by decide) (hts _ mX4_append_7) (fun _ h9 => h9) rfl dX4_append_40 ?_
      refine lv_aload_n hx hb dX4_append_43 rfl (lv_at hl 0 rfl) ?_
      refine va_get (ci := 4) (v := .int sz) (C := RX4) (T := TX4) (N := 13) hx hb hts uX4_append_X4 hown hK hP 0 rfl rfl 2 (by decide) (hts _ mX4_append_115) (fun _ h9 => h9) rfl dX4_append_44 ?_
      refine lv_iload_n hx hb dX4_append_47 rfl (lv_at hl 1 rfl) ?_
      obtain ⟨i12, h⟩ := zi h
      refine za_ist hx hb hK hP hD hS 1 rfl _ rfl i12 dX4_append_48 (fun H locs hP hD hS => ?_)
      replace hP : zP g (zMT g h0 h1 vn vt vd vk vi rf10 sz ac sF sB sp ou (upd tx sz.toNatClampNeg a1)) H := hP
      replace hD : va_D A (zMT g h0 h1 vn vt vd vk vi rf10 sz ac sF sB sp ou (upd tx sz.toNatClampNeg a1)) := hD
      refine lv_aload_n hx hb dX4_append_49 rfl (lv_at hl 0 rfl) ?_
      refine lv_dup hx hb dX4_append_50 rfl ?_
      refine va_get (ci := 4) (v := .int sz) (C := RX4) (T := TX4) (N := 13) hx hb hts uX4_append_X4 hown hK hP 0 rfl rfl 2 (by decide) (hts _ mX4_append_115) (fun _ h9 => h9) rfl dX4_append_51 ?_
      refine lv_iconst (v := 1) hx hb dX4_append_54 (by decide) ?_
      refine lv_iadd hx hb dX4_append_55 ?_
      refine va_put (ci := 4) (v := .int (sz + 1)) (ty := .int) (C := RX4) (T := TX4) (N := 13) hx hb hts uX4_append_X4 tyX4 tyX4_ok nmX4 hown hK hP hD hS 0 rfl rfl 2 (by decide) (hts _ mX4_append_115) (fun _ h9 => h9) rfl (by decide +kernel) rfl rfl (Nat.le_of_ble_eq_true rfl) dX4_append_56 (fun H locs hP hD hS => ?_)
      replace hP : zP g (zMT g h0 h1 vn vt vd vk vi rf10 (sz + 1) ac sF sB sp ou (upd tx sz.toNatClampNeg a1)) H := hP
      replace hD : va_D A (zMT g h0 h1 vn vt vd vk vi rf10 (sz + 1) ac sF sB sp ou (upd tx sz.toNatClampNeg a1)) := hD
      refine lv_aload_n hx hb dX4_append_59 rfl (lv_at hl 0 rfl) ?_
      refine va_get (ci := 4) (v := .int (sz + 1)) (C := RX4) (T := TX4) (N := 13) hx hb hts uX4_append_X4 hown hK hP 0 rfl rfl 2 (by decide) (hts _ mX4_append_115) (fun _ h9 => h9) rfl dX4_append_60 ?_
      cases h
      exact zw_i hx hb hr hlocks hP hS dX4_append_63
    · replace h := zf c11 h
      refine lv_iconst (v := 0) hx hb dX4_append_37 (by decide) ?_
      cases h
      exact zw_i hx hb hr hlocks hP hS dX4_append_38
def fX4_figures_26 (sz : Int32) (tx : Nat → Int32) : Nat → Int32 → Int32 → Int32 → Int32 → Int32 → (Int32) → Option (Int32 × (Int32))
  | 0, _, _, _, _, _, _ => none
  | n + 1, v1, v3, v4, v5, v6, sp =>
    if v6 ≤ 0 then
        if v1 = (-1) then
          some ((-1), sp)
        else
          some (v5, sp)
      else
        if v1 = (-1) then
          if v1 = (-1) then
            some ((-1), sp)
          else
            some (v5, sp)
        else
          if sz ≤ sp then
            ob (fX4_in (-1) 0 (9)) fun r6 =>
            if r6 = 0 then
              some ((-1), sp)
            else
              if v4 < (v5 + ((-1) * v6)) then
                some ((-1), sp)
              else
                if v3 ≤ (((v5 + ((-1) * v6)) + v6) - 1) then
                  fX4_figures_26 sz tx n v1 v3 v4 (v5 + ((-1) * v6)) (v6 / 10) (sp + 1)
                else
                  some ((-1), sp)
          else
            if sp < 0 ∨ 120 ≤ sp.toNatClampNeg then none else
            ob (fX4_in (((tx sp.toNatClampNeg) - 48).toInt64) 0 (9)) fun r11 =>
            if r11 = 0 then
              some ((-1), sp)
            else
              if v4 < (v5 + (((tx sp.toNatClampNeg) - 48) * v6)) then
                some ((-1), sp)
              else
                if v3 ≤ (((v5 + (((tx sp.toNatClampNeg) - 48) * v6)) + v6) - 1) then
                  fX4_figures_26 sz tx n v1 v3 v4 (v5 + (((tx sp.toNatClampNeg) - 48) * v6)) (v6 / 10) (sp + 1)
                else
                  some ((-1), sp)
def fX4_figures (sz : Int32) (sp : Int32) (tx : Nat → Int32) (a1 : Int32) (a2 : Int32) (a3 : Int32) (a4 : Int32) : Option (Int32 × (Int32)) :=
  if a2 = 3 then
    fX4_figures_26 sz tx 1000 a1 a3 a4 0 100 sp
  else
    if a2 = 2 then
      fX4_figures_26 sz tx 1000 a1 a3 a4 0 10 sp
    else
      fX4_figures_26 sz tx 1000 a1 a3 a4 0 1 sp
theorem mX4_figures_121 : Cond.fieldLink RX4 121 "IdleDiscardsModel" "spot" "I" ∈ wsX4_figures := by decide +kernel
theorem uX4_figures_X4 : ∀ w ∈ wsX40, w ∈ wsX4_figures := by decide +kernel
theorem mX4_figures_115 : Cond.fieldLink RX4 115 "IdleDiscardsModel" "size" "I" ∈ wsX4_figures := by decide +kernel
theorem mX4_figures_124 : Cond.constantLong RX4 124 (9) ∈ wsX4_figures := by decide +kernel
theorem mX4_figures_7 : Cond.fieldLink RX4 7 "IdleDiscardsModel" "text" "[I" ∈ wsX4_figures := by decide +kernel
set_option maxRecDepth 100000 in
set_option maxHeartbeats 4000000 in
theorem kX4_figures (l : Launch) (g : zG) (h0 h1 : Nat) (vn vt vd vk vi : Value) (rf : Int32) (sz : Int32) (ac : Int32) (sF : Int32) (sB : Int32) (sp : Int32) (ou : Int32) (tx : Nat → Int32) (a1 : Int32) (a2 : Int32) (a3 : Int32) (a4 : Int32) {r : Int32} {sp' : Int32} (h : fX4_figures sz sp tx a1 a2 a3 a4 = some (r, sp')) : Mw l g yX4_figures wsX4_figures { frames := 1, cells := 0, slots := 0, locals := 25 } [.ref h0, .int a1, .int a2, .int a3, .int a4] (zMT g h0 h1 vn vt vd vk vi rf sz ac sF sB sp ou tx) (zWi g (zMT g h0 h1 vn vt vd vk vi rf sz ac sF sB sp' ou tx) r) := by
  refine zw_in (cc := cX4_figures) (maxL := 9) (ret := (some .int)) (by decide) rfl (Nat.le_of_ble_eq_true rfl) ?_
  intro p e s m below meth c hx hb hr hml hts hown hlocks hK A hA hP hD hS ls hl
  replace hl : lv_has ls 9 [(0, .ref h0), (1, .int a1), (2, .int a2), (3, .int a3), (4, .int a4)] := hl
  have loop_26 : ∀ (n : Nat) (v1 : Int32) (v3 : Int32) (v4 : Int32) (v5 : Int32) (v6 : Int32) (sp : (Int32)), fX4_figures_26 sz tx n v1 v3 v4 v5 v6 sp = some (r, sp') → ∀ (H : Heap) (locs : List Loc), zP g (zMT g h0 h1 vn vt vd vk vi rf sz ac sF sB sp ou tx) H → va_D A (zMT g h0 h1 vn vt vd vk vi rf sz ac sF sB sp ou tx) → va_S A s.heap H locs → ∀ (ls : Array Slot), lv_has ls 9 [(0, .ref h0), (1, .int v1), (3, .int v3), (4, .int v4), (5, .int v5), (6, .int v6)] → W p l e ({ frames := 1, cells := 0, slots := 0, locals := 25 } : Room) s m [.ref h0, .int a1, .int a2, .int a3, .int a4].toArray below meth c H locs 0 0 (MQ below (zWi g (zMT g h0 h1 vn vt vd vk vi rf sz ac sF sB sp' ou tx) r A) [.ref h0, .int a1, .int a2, .int a3, .int a4].toArray s 0 0 A) (F0 m 26 ls []) := by
    intro n
    induction n with
    | zero => intro v1 v3 v4 v5 v6 sp h H locs hP hD hS ls hl; exact zn h
    | succ n ih =>
      intro v1 v3 v4 v5 v6 sp h H locs hP hD hS ls hl
      rw [fX4_figures_26] at h
      refine lv_iload hx hb dX4_figures_26 (lv_at hl 5 rfl) ?_
      refine lv_if_le (tgt := 132) hx hb dX4_figures_28 (by decide) (fun c1 => ?_) (fun c1 => ?_)
      · replace h := zt c1 h
        refine lv_iload_n hx hb dX4_figures_132 rfl (lv_at hl 1 rfl) ?_
        refine lv_iconst (v := (-1)) hx hb dX4_figures_133 (by decide) ?_
        refine lv_icmp_ne (tgt := 141) hx hb dX4_figures_134 (by decide) (fun c2 => ?_) (fun c2 => ?_)
        · replace h := zf c2 h
          refine lv_iload hx hb dX4_figures_141 (lv_at hl 4 rfl) ?_
          cases h
          exact zw_i hx hb hr hlocks hP hS dX4_figures_143
        · replace h := zt c2 h
          refine lv_iconst (v := (-1)) hx hb dX4_figures_137 (by decide) ?_
          refine lv_goto (tgt := 143) hx hb dX4_figures_138 (by decide) ?_
          cases h
          exact zw_i hx hb hr hlocks hP hS dX4_figures_143
      · replace h := zf c1 h
        refine lv_iload_n hx hb dX4_figures_31 rfl (lv_at hl 1 rfl) ?_
        refine lv_iconst (v := (-1)) hx hb dX4_figures_32 (by decide) ?_
        refine lv_icmp_eq (tgt := 132) hx hb dX4_figures_33 (by decide) (fun c3 => ?_) (fun c3 => ?_)
        · replace h := zt c3 h
          refine lv_iload_n hx hb dX4_figures_132 rfl (lv_at hl 1 rfl) ?_
          refine lv_iconst (v := (-1)) hx hb dX4_figures_133 (by decide) ?_
          refine lv_icmp_ne (tgt := 141) hx hb dX4_figures_134 (by decide) (fun c4 => ?_) (fun c4 => ?_)
          · replace h := zf c4 h
            refine lv_iload hx hb dX4_figures_141 (lv_at hl 4 rfl) ?_
            cases h
            exact zw_i hx hb hr hlocks hP hS dX4_figures_143
          · replace h := zt c4 h
            refine lv_iconst (v := (-1)) hx hb dX4_figures_137 (by decide) ?_
            refine lv_goto (tgt := 143) hx hb dX4_figures_138 (by decide) ?_
            cases h
            exact zw_i hx hb hr hlocks hP hS dX4_figures_143
        · replace h := zf c3 h
          refine lv_aload_n hx hb dX4_figures_36 rfl (lv_at hl 0 rfl) ?_
          refine va_get (ci := 4) (v := .int sp) (C := RX4) (T := TX4) (N := 13) hx hb hts uX4_figures_X4 hown hK hP 0 rfl rfl 11 (by decide) (hts _ mX4_figures_121) (fun _ h9 => h9) rfl dX4_figures_37 ?_
          refine lv_aload_n hx hb dX4_figures_40 rfl (lv_at hl 0 rfl) ?_
          refine va_get (ci := 4) (v := .int sz) (C := RX4) (T := TX4) (N := 13) hx hb hts uX4_figures_X4 hown hK hP 0 rfl rfl 2 (by decide) (hts _ mX4_figures_115) (fun _ h9 => h9) rfl dX4_figures_41 ?_
          refine lv_icmp_ge (tgt := 62) hx hb dX4_figures_44 (by decide) (fun c5 => ?_) (fun c5 => ?_)
          · replace h := zt c5 h
            refine lv_iconst (v := (-1)) hx hb dX4_figures_62 (by decide) ?_
            refine lv_istore (lv' := [(7, .int (-1)), (0, .ref h0), (1, .int v1), (3, .int v3), (4, .int v4), (5, .int v5), (6, .int v6)]) hx hb dX4_figures_63 hl (by decide) rfl (fun ls hl => ?_)
            refine lv_iload hx hb dX4_figures_65 (lv_at hl 5 rfl) ?_
            refine lv_iload hx hb dX4_figures_67 (lv_at hl 0 rfl) ?_
            refine lv_iload hx hb dX4_figures_69 (lv_at hl 6 rfl) ?_
            refine lv_imul hx hb dX4_figures_71 ?_
            refine lv_iadd hx hb dX4_figures_72 ?_
            refine lv_istore (lv' := [(8, .int (v5 + ((-1) * v6))), (7, .int (-1)), (0, .ref h0), (1, .int v1), (3, .int v3), (4, .int v4), (5, .int v5), (6, .int v6)]) hx hb dX4_figures_73 hl (by decide) rfl (fun ls hl => ?_)
            refine lv_iload hx hb dX4_figures_75 (lv_at hl 1 rfl) ?_
            refine lv_i2l (v := (-1)) hx hb dX4_figures_77 (by decide) ?_
            refine lv_lconst (v := 0) hx hb dX4_figures_78 (by decide) ?_
            refine lv_ldc2 hx hb hown (hts _ mX4_figures_124) dX4_figures_79 ?_
            obtain ⟨r6, e6, h⟩ := zb h
            refine zS (As := [.long (-1), .long 0, .long (9)]) (rest := []) (zQi_q _) ⟨hx, hb, hml, hown, hts⟩ (kX4_in l g (-1) 0 (9) e6) (va_cwS 3 hts gX4_figures_X4_in rfl rfl rfl hdS_X4_in ⟨Nat.le_of_ble_eq_true rfl, Nat.le_of_ble_eq_true rfl⟩) hK hP [] rfl rfl hl.1 rfl (Nat.le_of_ble_eq_true rfl) ⟨Nat.zero_le _, Nat.zero_le _⟩ dX4_figures_82 ?_
            refine lv_if_eq (tgt := 106) hx hb dX4_figures_85 (by decide) (fun c7 => ?_) (fun c7 => ?_)
            · replace h := zt c7 h
              refine lv_iconst (v := (-1)) hx hb dX4_figures_106 (by decide) ?_
              cases h
              exact zw_i hx hb hr hlocks hP hS dX4_figures_107
            · replace h := zf c7 h
              refine lv_iload hx hb dX4_figures_88 (lv_at hl 0 rfl) ?_
              refine lv_iload hx hb dX4_figures_90 (lv_at hl 5 rfl) ?_
              refine lv_icmp_gt (tgt := 106) hx hb dX4_figures_92 (by decide) (fun c8 => ?_) (fun c8 => ?_)
              · replace h := zt c8 h
                refine lv_iconst (v := (-1)) hx hb dX4_figures_106 (by decide) ?_
                cases h
                exact zw_i hx hb hr hlocks hP hS dX4_figures_107
              · replace h := zf c8 h
                refine lv_iload hx hb dX4_figures_95 (lv_at hl 0 rfl) ?_
                refine lv_iload hx hb dX4_figures_97 (lv_at hl 7 rfl) ?_
                refine lv_iadd hx hb dX4_figures_99 ?_
                refine lv_iconst (v := 1) hx hb dX4_figures_100 (by decide) ?_
                refine lv_isub hx hb dX4_figures_101 ?_
                refine lv_iload_n hx hb dX4_figures_102 rfl (lv_at hl 4 rfl) ?_
                refine lv_icmp_ge (tgt := 108) hx hb dX4_figures_103 (by decide) (fun c9 => ?_) (fun c9 => ?_)
                · replace h := zt c9 h
                  refine lv_iload hx hb dX4_figures_108 (lv_at hl 0 rfl) ?_
                  refine lv_istore (lv' := [(5, .int (v5 + ((-1) * v6))), (8, .int (v5 + ((-1) * v6))), (7, .int (-1)), (0, .ref h0), (1, .int v1), (3, .int v3), (4, .int v4), (6, .int v6)]) hx hb dX4_figures_110 hl (by decide) rfl (fun ls hl => ?_)
                  refine lv_aload_n hx hb dX4_figures_112 rfl (lv_at hl 3 rfl) ?_
                  refine lv_dup hx hb dX4_figures_113 rfl ?_
                  refine va_get (ci := 4) (v := .int sp) (C := RX4) (T := TX4) (N := 13) hx hb hts uX4_figures_X4 hown hK hP 0 rfl rfl 11 (by decide) (hts _ mX4_figures_121) (fun _ h9 => h9) rfl dX4_figures_114 ?_
                  refine lv_iconst (v := 1) hx hb dX4_figures_117 (by decide) ?_
                  refine lv_iadd hx hb dX4_figures_118 ?_
                  refine va_put (ci := 4) (v := .int (sp + 1)) (ty := .int) (C := RX4) (T := TX4) (N := 13) hx hb hts uX4_figures_X4 tyX4 tyX4_ok nmX4 hown hK hP hD hS 0 rfl rfl 11 (by decide) (hts _ mX4_figures_121) (fun _ h9 => h9) rfl (by decide +kernel) rfl rfl (Nat.le_of_ble_eq_true rfl) dX4_figures_119 (fun H locs hP hD hS => ?_)
                  replace hP : zP g (zMT g h0 h1 vn vt vd vk vi rf sz ac sF sB (sp + 1) ou tx) H := hP
                  replace hD : va_D A (zMT g h0 h1 vn vt vd vk vi rf sz ac sF sB (sp + 1) ou tx) := hD
                  refine lv_iload hx hb dX4_figures_122 (lv_at hl 7 rfl) ?_
                  refine lv_bipush (v := 10) hx hb dX4_figures_124 (by decide) ?_
                  refine lv_idiv hx hb dX4_figures_126 (by decide) ?_
                  refine lv_istore (lv' := [(6, .int (v6 / 10)), (5, .int (v5 + ((-1) * v6))), (8, .int (v5 + ((-1) * v6))), (7, .int (-1)), (0, .ref h0), (1, .int v1), (3, .int v3), (4, .int v4)]) hx hb dX4_figures_127 hl (by decide) rfl (fun ls hl => ?_)
                  refine lv_goto (tgt := 26) hx hb dX4_figures_129 (by decide) ?_
                  exact ih v1 v3 v4 (v5 + ((-1) * v6)) (v6 / 10) (sp + 1) h H locs hP hD hS ls (lv_sub hl [4, 5, 6, 7, 1, 0] rfl)
                · replace h := zf c9 h
                  refine lv_iconst (v := (-1)) hx hb dX4_figures_106 (by decide) ?_
                  cases h
                  exact zw_i hx hb hr hlocks hP hS dX4_figures_107
          · replace h := zf c5 h
            refine lv_aload_n hx hb dX4_figures_47 rfl (lv_at hl 0 rfl) ?_
            refine va_get (ci := 4) (v := .ref h1) (C := RX4) (T := TX4) (N := 13) hx hb hts uX4_figures_X4 hown hK hP 0 rfl rfl 1 (by decide) (hts _ mX4_figures_7) (fun _ h9 => h9) rfl dX4_figures_48 ?_
            refine lv_aload_n hx hb dX4_figures_51 rfl (lv_at hl 0 rfl) ?_
            refine va_get (ci := 4) (v := .int sp) (C := RX4) (T := TX4) (N := 13) hx hb hts uX4_figures_X4 hown hK hP 0 rfl rfl 11 (by decide) (hts _ mX4_figures_121) (fun _ h9 => h9) rfl dX4_figures_52 ?_
            obtain ⟨i10, h⟩ := zi h
            refine za_ild hx hb hK hP 1 rfl _ rfl i10 dX4_figures_55 ?_
            refine lv_bipush (v := 48) hx hb dX4_figures_56 (by decide) ?_
            refine lv_isub hx hb dX4_figures_58 ?_
            refine lv_goto (tgt := 63) hx hb dX4_figures_59 (by decide) ?_
            refine lv_istore (lv' := [(7, .int ((tx sp.toNatClampNeg) - 48)), (0, .ref h0), (1, .int v1), (3, .int v3), (4, .int v4), (5, .int v5), (6, .int v6)]) hx hb dX4_figures_63 hl (by decide) rfl (fun ls hl => ?_)
            refine lv_iload hx hb dX4_figures_65 (lv_at hl 5 rfl) ?_
            refine lv_iload hx hb dX4_figures_67 (lv_at hl 0 rfl) ?_
            refine lv_iload hx hb dX4_figures_69 (lv_at hl 6 rfl) ?_
            refine lv_imul hx hb dX4_figures_71 ?_
            refine lv_iadd hx hb dX4_figures_72 ?_
            refine lv_istore (lv' := [(8, .int (v5 + (((tx sp.toNatClampNeg) - 48) * v6))), (7, .int ((tx sp.toNatClampNeg) - 48)), (0, .ref h0), (1, .int v1), (3, .int v3), (4, .int v4), (5, .int v5), (6, .int v6)]) hx hb dX4_figures_73 hl (by decide) rfl (fun ls hl => ?_)
            refine lv_iload hx hb dX4_figures_75 (lv_at hl 1 rfl) ?_
            refine lv_i2l (v := ((tx sp.toNatClampNeg) - 48).toInt64) hx hb dX4_figures_77 rfl ?_
            refine lv_lconst (v := 0) hx hb dX4_figures_78 (by decide) ?_
            refine lv_ldc2 hx hb hown (hts _ mX4_figures_124) dX4_figures_79 ?_
            obtain ⟨r11, e11, h⟩ := zb h
            refine zS (As := [.long (((tx sp.toNatClampNeg) - 48).toInt64), .long 0, .long (9)]) (rest := []) (zQi_q _) ⟨hx, hb, hml, hown, hts⟩ (kX4_in l g (((tx sp.toNatClampNeg) - 48).toInt64) 0 (9) e11) (va_cwS 3 hts gX4_figures_X4_in rfl rfl rfl hdS_X4_in ⟨Nat.le_of_ble_eq_true rfl, Nat.le_of_ble_eq_true rfl⟩) hK hP [] rfl rfl hl.1 rfl (Nat.le_of_ble_eq_true rfl) ⟨Nat.zero_le _, Nat.zero_le _⟩ dX4_figures_82 ?_
            refine lv_if_eq (tgt := 106) hx hb dX4_figures_85 (by decide) (fun c12 => ?_) (fun c12 => ?_)
            · replace h := zt c12 h
              refine lv_iconst (v := (-1)) hx hb dX4_figures_106 (by decide) ?_
              cases h
              exact zw_i hx hb hr hlocks hP hS dX4_figures_107
            · replace h := zf c12 h
              refine lv_iload hx hb dX4_figures_88 (lv_at hl 0 rfl) ?_
              refine lv_iload hx hb dX4_figures_90 (lv_at hl 5 rfl) ?_
              refine lv_icmp_gt (tgt := 106) hx hb dX4_figures_92 (by decide) (fun c13 => ?_) (fun c13 => ?_)
              · replace h := zt c13 h
                refine lv_iconst (v := (-1)) hx hb dX4_figures_106 (by decide) ?_
                cases h
                exact zw_i hx hb hr hlocks hP hS dX4_figures_107
              · replace h := zf c13 h
                refine lv_iload hx hb dX4_figures_95 (lv_at hl 0 rfl) ?_
                refine lv_iload hx hb dX4_figures_97 (lv_at hl 7 rfl) ?_
                refine lv_iadd hx hb dX4_figures_99 ?_
                refine lv_iconst (v := 1) hx hb dX4_figures_100 (by decide) ?_
                refine lv_isub hx hb dX4_figures_101 ?_
                refine lv_iload_n hx hb dX4_figures_102 rfl (lv_at hl 4 rfl) ?_
                refine lv_icmp_ge (tgt := 108) hx hb dX4_figures_103 (by decide) (fun c14 => ?_) (fun c14 => ?_)
                · replace h := zt c14 h
                  refine lv_iload hx hb dX4_figures_108 (lv_at hl 0 rfl) ?_
                  refine lv_istore (lv' := [(5, .int (v5 + (((tx sp.toNatClampNeg) - 48) * v6))), (8, .int (v5 + (((tx sp.toNatClampNeg) - 48) * v6))), (7, .int ((tx sp.toNatClampNeg) - 48)), (0, .ref h0), (1, .int v1), (3, .int v3), (4, .int v4), (6, .int v6)]) hx hb dX4_figures_110 hl (by decide) rfl (fun ls hl => ?_)
                  refine lv_aload_n hx hb dX4_figures_112 rfl (lv_at hl 3 rfl) ?_
                  refine lv_dup hx hb dX4_figures_113 rfl ?_
                  refine va_get (ci := 4) (v := .int sp) (C := RX4) (T := TX4) (N := 13) hx hb hts uX4_figures_X4 hown hK hP 0 rfl rfl 11 (by decide) (hts _ mX4_figures_121) (fun _ h9 => h9) rfl dX4_figures_114 ?_
                  refine lv_iconst (v := 1) hx hb dX4_figures_117 (by decide) ?_
                  refine lv_iadd hx hb dX4_figures_118 ?_
                  refine va_put (ci := 4) (v := .int (sp + 1)) (ty := .int) (C := RX4) (T := TX4) (N := 13) hx hb hts uX4_figures_X4 tyX4 tyX4_ok nmX4 hown hK hP hD hS 0 rfl rfl 11 (by decide) (hts _ mX4_figures_121) (fun _ h9 => h9) rfl (by decide +kernel) rfl rfl (Nat.le_of_ble_eq_true rfl) dX4_figures_119 (fun H locs hP hD hS => ?_)
                  replace hP : zP g (zMT g h0 h1 vn vt vd vk vi rf sz ac sF sB (sp + 1) ou tx) H := hP
                  replace hD : va_D A (zMT g h0 h1 vn vt vd vk vi rf sz ac sF sB (sp + 1) ou tx) := hD
                  refine lv_iload hx hb dX4_figures_122 (lv_at hl 7 rfl) ?_
                  refine lv_bipush (v := 10) hx hb dX4_figures_124 (by decide) ?_
                  refine lv_idiv hx hb dX4_figures_126 (by decide) ?_
                  refine lv_istore (lv' := [(6, .int (v6 / 10)), (5, .int (v5 + (((tx sp.toNatClampNeg) - 48) * v6))), (8, .int (v5 + (((tx sp.toNatClampNeg) - 48) * v6))), (7, .int ((tx sp.toNatClampNeg) - 48)), (0, .ref h0), (1, .int v1), (3, .int v3), (4, .int v4)]) hx hb dX4_figures_127 hl (by decide) rfl (fun ls hl => ?_)
                  refine lv_goto (tgt := 26) hx hb dX4_figures_129 (by decide) ?_
                  exact ih v1 v3 v4 (v5 + (((tx sp.toNatClampNeg) - 48) * v6)) (v6 / 10) (sp + 1) h H locs hP hD hS ls (lv_sub hl [4, 5, 6, 7, 1, 0] rfl)
                · replace h := zf c14 h
                  refine lv_iconst (v := (-1)) hx hb dX4_figures_106 (by decide) ?_
                  cases h
                  exact zw_i hx hb hr hlocks hP hS dX4_figures_107
  unfold fX4_figures at h
  refine lv_iconst (v := 0) hx hb dX4_figures_0 (by decide) ?_
  refine lv_istore (lv' := [(5, .int 0), (0, .ref h0), (1, .int a1), (2, .int a2), (3, .int a3), (4, .int a4)]) hx hb dX4_figures_1 hl (by decide) rfl (fun ls hl => ?_)
  refine lv_iload_n hx hb dX4_figures_3 rfl (lv_at hl 3 rfl) ?_
  refine lv_iconst (v := 3) hx hb dX4_figures_4 (by decide) ?_
  refine lv_icmp_ne (tgt := 13) hx hb dX4_figures_5 (by decide) (fun c15 => ?_) (fun c15 => ?_)
  · replace h := zf c15 h
    refine lv_iload_n hx hb dX4_figures_13 rfl (lv_at hl 3 rfl) ?_
    refine lv_iconst (v := 2) hx hb dX4_figures_14 (by decide) ?_
    refine lv_icmp_ne (tgt := 23) hx hb dX4_figures_15 (by decide) (fun c16 => ?_) (fun c16 => ?_)
    · replace h := zf c16 h
      refine lv_iconst (v := 1) hx hb dX4_figures_23 (by decide) ?_
      refine lv_istore (lv' := [(6, .int 1), (5, .int 0), (0, .ref h0), (1, .int a1), (2, .int a2), (3, .int a3), (4, .int a4)]) hx hb dX4_figures_24 hl (by decide) rfl (fun ls hl => ?_)
      exact loop_26 1000 a1 a3 a4 0 1 sp h s.heap [] hP hD hS ls (lv_sub hl [2, 3, 5, 6, 1, 0] rfl)
    · replace h := zt c16 h
      refine lv_bipush (v := 10) hx hb dX4_figures_18 (by decide) ?_
      refine lv_goto (tgt := 24) hx hb dX4_figures_20 (by decide) ?_
      refine lv_istore (lv' := [(6, .int 10), (5, .int 0), (0, .ref h0), (1, .int a1), (2, .int a2), (3, .int a3), (4, .int a4)]) hx hb dX4_figures_24 hl (by decide) rfl (fun ls hl => ?_)
      exact loop_26 1000 a1 a3 a4 0 10 sp h s.heap [] hP hD hS ls (lv_sub hl [2, 3, 5, 6, 1, 0] rfl)
  · replace h := zt c15 h
    refine lv_bipush (v := 100) hx hb dX4_figures_8 (by decide) ?_
    refine lv_goto (tgt := 24) hx hb dX4_figures_10 (by decide) ?_
    refine lv_istore (lv' := [(6, .int 100), (5, .int 0), (0, .ref h0), (1, .int a1), (2, .int a2), (3, .int a3), (4, .int a4)]) hx hb dX4_figures_24 hl (by decide) rfl (fun ls hl => ?_)
    exact loop_26 1000 a1 a3 a4 0 100 sp h s.heap [] hP hD hS ls (lv_sub hl [2, 3, 5, 6, 1, 0] rfl)
def fX4_done (ou : Int32) (a1 : Int32) : Option (Int32 × (Int32)) :=
  if a1 = 0 then
    some (1, (ou + 1))
  else
    some (1, (ou + 0))
theorem mX4_done_126 : Cond.fieldLink RX4 126 "IdleDiscardsModel" "out" "I" ∈ wsX4_done := by decide +kernel
theorem uX4_done_X4 : ∀ w ∈ wsX40, w ∈ wsX4_done := by decide +kernel
set_option maxRecDepth 100000 in
set_option maxHeartbeats 4000000 in
theorem kX4_done (l : Launch) (g : zG) (h0 h1 : Nat) (vn vt vd vk vi : Value) (rf : Int32) (sz : Int32) (ac : Int32) (sF : Int32) (sB : Int32) (sp : Int32) (ou : Int32) (tx : Nat → Int32) (a1 : Int32) {r : Int32} {ou' : Int32} (h : fX4_done ou a1 = some (r, ou')) : Mw l g yX4_done wsX4_done { frames := 0, cells := 0, slots := 0, locals := 0 } [.ref h0, .int a1] (zMT g h0 h1 vn vt vd vk vi rf sz ac sF sB sp ou tx) (zWi g (zMT g h0 h1 vn vt vd vk vi rf sz ac sF sB sp ou' tx) r) := by
  refine zw_in (cc := cX4_done) (maxL := 2) (ret := (some .boolean)) (by decide) rfl (Nat.le_of_ble_eq_true rfl) ?_
  intro p e s m below meth c hx hb hr hml hts hown hlocks hK A hA hP hD hS ls hl
  replace hl : lv_has ls 2 [(0, .ref h0), (1, .int a1)] := hl
  unfold fX4_done at h
  refine lv_aload_n hx hb dX4_done_0 rfl (lv_at hl 0 rfl) ?_
  refine lv_dup hx hb dX4_done_1 rfl ?_
  refine va_get (ci := 4) (v := .int ou) (C := RX4) (T := TX4) (N := 13) hx hb hts uX4_done_X4 hown hK hP 0 rfl rfl 12 (by decide) (hts _ mX4_done_126) (fun _ h9 => h9) rfl dX4_done_2 ?_
  refine lv_iload_n hx hb dX4_done_5 rfl (lv_at hl 1 rfl) ?_
  refine lv_if_eq (tgt := 13) hx hb dX4_done_6 (by decide) (fun c1 => ?_) (fun c1 => ?_)
  · replace h := zt c1 h
    refine lv_iconst (v := 1) hx hb dX4_done_13 (by decide) ?_
    refine lv_iadd hx hb dX4_done_14 ?_
    refine va_put (ci := 4) (v := .int (ou + 1)) (ty := .int) (C := RX4) (T := TX4) (N := 13) hx hb hts uX4_done_X4 tyX4 tyX4_ok nmX4 hown hK hP hD hS 0 rfl rfl 12 (by decide) (hts _ mX4_done_126) (fun _ h9 => h9) rfl (by decide +kernel) rfl rfl (Nat.le_of_ble_eq_true rfl) dX4_done_15 (fun H locs hP hD hS => ?_)
    replace hP : zP g (zMT g h0 h1 vn vt vd vk vi rf sz ac sF sB sp (ou + 1) tx) H := hP
    replace hD : va_D A (zMT g h0 h1 vn vt vd vk vi rf sz ac sF sB sp (ou + 1) tx) := hD
    refine lv_iconst (v := 1) hx hb dX4_done_18 (by decide) ?_
    cases h
    exact zw_z hx hb hr hlocks (by decide) hP hS dX4_done_19
  · replace h := zf c1 h
    refine lv_iconst (v := 0) hx hb dX4_done_9 (by decide) ?_
    refine lv_goto (tgt := 14) hx hb dX4_done_10 (by decide) ?_
    refine lv_iadd hx hb dX4_done_14 ?_
    refine va_put (ci := 4) (v := .int (ou + 0)) (ty := .int) (C := RX4) (T := TX4) (N := 13) hx hb hts uX4_done_X4 tyX4 tyX4_ok nmX4 hown hK hP hD hS 0 rfl rfl 12 (by decide) (hts _ mX4_done_126) (fun _ h9 => h9) rfl (by decide +kernel) rfl rfl (Nat.le_of_ble_eq_true rfl) dX4_done_15 (fun H locs hP hD hS => ?_)
    replace hP : zP g (zMT g h0 h1 vn vt vd vk vi rf sz ac sF sB sp (ou + 0) tx) H := hP
    replace hD : va_D A (zMT g h0 h1 vn vt vd vk vi rf sz ac sF sB sp (ou + 0) tx) := hD
    refine lv_iconst (v := 1) hx hb dX4_done_18 (by decide) ?_
    cases h
    exact zw_z hx hb hr hlocks (by decide) hP hS dX4_done_19
def fX4_send_11  : Nat → Int32 → Int32 → Int32 → (Int32) → (Int32) → (Nat → Int32) → Option ((Int32) × (Int32) × (Nat → Int32))
  | 0, _, _, _, _, _, _ => none
  | n + 1, v2, v4, v5, sF, sB, ro =>
    if (v2 + v4) ≤ v5 then
        ob (fX4_limit (upd (upd ro 770 ((ro 770) + 1)) 771 (((upd ro 770 ((ro 770) + 1)) 771) + v4))) fun ro2 =>
        some (v2, v4, ro2)
      else
        if (256 + v5) < 0 ∨ 785 ≤ (256 + v5).toNatClampNeg then none else
        if (512 + v5) < 0 ∨ 785 ≤ (512 + v5).toNatClampNeg then none else
        fX4_send_11 n v2 v4 (v5 + 1) sF sB (upd (upd ro (256 + v5).toNatClampNeg 0) (512 + v5).toNatClampNeg (-1))
def fX4_send (sF : Int32) (sB : Int32) (ro : Nat → Int32) (a2 : Int32) (a3 : Int32) : Option ((Int32) × (Int32) × (Nat → Int32)) :=
  ob (fX4_granule ro) fun r5 =>
  fX4_send_11 1000 a2 (a3 * r5) a2 sF sB ro
theorem mX4_send_88 : Cond.fieldLink RX4 88 "IdleDiscardsModel" "sentFrom" "I" ∈ wsX4_send := by decide +kernel
theorem uX4_send_X4 : ∀ w ∈ wsX40, w ∈ wsX4_send := by decide +kernel
theorem mX4_send_91 : Cond.fieldLink RX4 91 "IdleDiscardsModel" "sentBlocks" "I" ∈ wsX4_send := by decide +kernel
set_option maxRecDepth 100000 in
set_option maxHeartbeats 4000000 in
theorem kX4_send (l : Launch) (g : zG) (h0 h1 qr : Nat) (vn vt vd vk vi : Value) (rf : Int32) (sz : Int32) (ac : Int32) (sF : Int32) (sB : Int32) (sp : Int32) (ou : Int32) (tx : Nat → Int32) (ro : Nat → Int32) (a2 : Int32) (a3 : Int32) {sF' : Int32} {sB' : Int32} {ro' : Nat → Int32} (h : fX4_send sF sB ro a2 a3 = some (sF', sB', ro')) : Mw l g yX4_send wsX4_send { frames := 6, cells := 0, slots := 0, locals := 132 } [.ref h0, .ref qr, .int a2, .int a3] (zMR g h0 h1 qr vn vt vd vk vi rf sz ac sF sB sp ou tx ro) (zWv g (zMR g h0 h1 qr vn vt vd vk vi rf sz ac sF' sB' sp ou tx ro')) := by
  refine zw_in (cc := cX4_send) (maxL := 6) (ret := none) (by decide) rfl (Nat.le_of_ble_eq_true rfl) ?_
  intro p e s m below meth c hx hb hr hml hts hown hlocks hK A hA hP hD hS ls hl
  replace hl : lv_has ls 6 [(0, .ref h0), (1, .ref qr), (2, .int a2), (3, .int a3)] := hl
  have loop_11 : ∀ (n : Nat) (v2 : Int32) (v4 : Int32) (v5 : Int32) (sF : (Int32)) (sB : (Int32)) (ro : (Nat → Int32)), fX4_send_11 n v2 v4 v5 sF sB ro = some (sF', sB', ro') → ∀ (H : Heap) (locs : List Loc), zP g (zMR g h0 h1 qr vn vt vd vk vi rf sz ac sF sB sp ou tx ro) H → va_D A (zMR g h0 h1 qr vn vt vd vk vi rf sz ac sF sB sp ou tx ro) → va_S A s.heap H locs → ∀ (ls : Array Slot), lv_has ls 6 [(0, .ref h0), (1, .ref qr), (2, .int v2), (4, .int v4), (5, .int v5)] → W p l e ({ frames := 6, cells := 0, slots := 0, locals := 132 } : Room) s m [.ref h0, .ref qr, .int a2, .int a3].toArray below meth c H locs 0 0 (MQ below (zWv g (zMR g h0 h1 qr vn vt vd vk vi rf sz ac sF' sB' sp ou tx ro') A) [.ref h0, .ref qr, .int a2, .int a3].toArray s 0 0 A) (F0 m 11 ls []) := by
    intro n
    induction n with
    | zero => intro v2 v4 v5 sF sB ro h H locs hP hD hS ls hl; exact zn h
    | succ n ih =>
      intro v2 v4 v5 sF sB ro h H locs hP hD hS ls hl
      rw [fX4_send_11] at h
      refine lv_iload hx hb dX4_send_11 (lv_at hl 4 rfl) ?_
      refine lv_iload_n hx hb dX4_send_13 rfl (lv_at hl 2 rfl) ?_
      refine lv_iload hx hb dX4_send_14 (lv_at hl 3 rfl) ?_
      refine lv_iadd hx hb dX4_send_16 ?_
      refine lv_icmp_ge (tgt := 44) hx hb dX4_send_17 (by decide) (fun c1 => ?_) (fun c1 => ?_)
      · replace h := zt c1 h
        refine lv_aload_n hx hb dX4_send_44 rfl (lv_at hl 1 rfl) ?_
        refine lv_sipush (v := 770) hx hb dX4_send_45 (by decide) ?_
        refine lv_dup2_11 hx hb dX4_send_48 rfl rfl ?_
        refine za_ild hx hb hK hP 2 rfl 770 (by decide) (by decide) dX4_send_49 ?_
        refine lv_iconst (v := 1) hx hb dX4_send_50 (by decide) ?_
        refine lv_iadd hx hb dX4_send_51 ?_
        refine za_ist hx hb hK hP hD hS 2 rfl 770 (by decide) (by decide) dX4_send_52 (fun H locs hP hD hS => ?_)
        replace hP : zP g (zMR g h0 h1 qr vn vt vd vk vi rf sz ac sF sB sp ou tx (upd ro 770 ((ro 770) + 1))) H := hP
        replace hD : va_D A (zMR g h0 h1 qr vn vt vd vk vi rf sz ac sF sB sp ou tx (upd ro 770 ((ro 770) + 1))) := hD
        refine lv_aload_n hx hb dX4_send_53 rfl (lv_at hl 1 rfl) ?_
        refine lv_sipush (v := 771) hx hb dX4_send_54 (by decide) ?_
        refine lv_dup2_11 hx hb dX4_send_57 rfl rfl ?_
        refine za_ild hx hb hK hP 2 rfl 771 (by decide) (by decide) dX4_send_58 ?_
        refine lv_iload hx hb dX4_send_59 (lv_at hl 3 rfl) ?_
        refine lv_iadd hx hb dX4_send_61 ?_
        refine za_ist hx hb hK hP hD hS 2 rfl 771 (by decide) (by decide) dX4_send_62 (fun H locs hP hD hS => ?_)
        replace hP : zP g (zMR g h0 h1 qr vn vt vd vk vi rf sz ac sF sB sp ou tx (upd (upd ro 770 ((ro 770) + 1)) 771 (((upd ro 770 ((ro 770) + 1)) 771) + v4))) H := hP
        replace hD : va_D A (zMR g h0 h1 qr vn vt vd vk vi rf sz ac sF sB sp ou tx (upd (upd ro 770 ((ro 770) + 1)) 771 (((upd ro 770 ((ro 770) + 1)) 771) + v4))) := hD
        refine lv_aload_n hx hb dX4_send_63 rfl (lv_at hl 0 rfl) ?_
        refine lv_iload_n hx hb dX4_send_64 rfl (lv_at hl 2 rfl) ?_
        refine va_put (ci := 4) (v := .int v2) (ty := .int) (C := RX4) (T := TX4) (N := 13) hx hb hts uX4_send_X4 tyX4 tyX4_ok nmX4 hown hK hP hD hS 0 rfl rfl 9 (by decide) (hts _ mX4_send_88) (fun _ h9 => h9) rfl (by decide +kernel) rfl rfl (Nat.le_of_ble_eq_true rfl) dX4_send_65 (fun H locs hP hD hS => ?_)
        replace hP : zP g (zMR g h0 h1 qr vn vt vd vk vi rf sz ac v2 sB sp ou tx (upd (upd ro 770 ((ro 770) + 1)) 771 (((upd ro 770 ((ro 770) + 1)) 771) + v4))) H := hP
        replace hD : va_D A (zMR g h0 h1 qr vn vt vd vk vi rf sz ac v2 sB sp ou tx (upd (upd ro 770 ((ro 770) + 1)) 771 (((upd ro 770 ((ro 770) + 1)) 771) + v4))) := hD
        refine lv_aload_n hx hb dX4_send_68 rfl (lv_at hl 0 rfl) ?_
        refine lv_iload hx hb dX4_send_69 (lv_at hl 3 rfl) ?_
        refine va_put (ci := 4) (v := .int v4) (ty := .int) (C := RX4) (T := TX4) (N := 13) hx hb hts uX4_send_X4 tyX4 tyX4_ok nmX4 hown hK hP hD hS 0 rfl rfl 10 (by decide) (hts _ mX4_send_91) (fun _ h9 => h9) rfl (by decide +kernel) rfl rfl (Nat.le_of_ble_eq_true rfl) dX4_send_71 (fun H locs hP hD hS => ?_)
        replace hP : zP g (zMR g h0 h1 qr vn vt vd vk vi rf sz ac v2 v4 sp ou tx (upd (upd ro 770 ((ro 770) + 1)) 771 (((upd ro 770 ((ro 770) + 1)) 771) + v4))) H := hP
        replace hD : va_D A (zMR g h0 h1 qr vn vt vd vk vi rf sz ac v2 v4 sp ou tx (upd (upd ro 770 ((ro 770) + 1)) 771 (((upd ro 770 ((ro 770) + 1)) 771) + v4))) := hD
        refine lv_aload_n hx hb dX4_send_74 rfl (lv_at hl 1 rfl) ?_
        obtain ⟨ro2, e2, h⟩ := zb h
        refine zSw (As := [.ref qr]) (rest := []) (zWv_q g _) ⟨hx, hb, hml, hown, hts⟩ (kX4_limit l g qr (upd (upd ro 770 ((ro 770) + 1)) 771 (((upd ro 770 ((ro 770) + 1)) 771) + v4)) e2) (va_cwS 1 hts gX4_send_X4_limit rfl rfl rfl hdS_X4_limit ⟨Nat.le_of_ble_eq_true rfl, Nat.le_of_ble_eq_true rfl⟩) hK hP hD hS hA [2] (by decide) rfl rfl rfl hl.1 rfl (Nat.le_of_ble_eq_true rfl) ⟨Nat.zero_le _, Nat.zero_le _⟩ dX4_send_75 (fun H locs hP hD hS => ?_)
        replace hP : zP g (zMR g h0 h1 qr vn vt vd vk vi rf sz ac v2 v4 sp ou tx ro2) H := hP
        replace hD : va_D A (zMR g h0 h1 qr vn vt vd vk vi rf sz ac v2 v4 sp ou tx ro2) := hD
        cases h
        exact zw_v hx hb hr hlocks hP hS dX4_send_78
      · replace h := zf c1 h
        refine lv_aload_n hx hb dX4_send_20 rfl (lv_at hl 1 rfl) ?_
        refine lv_sipush (v := 256) hx hb dX4_send_21 (by decide) ?_
        refine lv_iload hx hb dX4_send_24 (lv_at hl 4 rfl) ?_
        refine lv_iadd hx hb dX4_send_26 ?_
        refine lv_iconst (v := 0) hx hb dX4_send_27 (by decide) ?_
        obtain ⟨i3, h⟩ := zi h
        refine za_ist hx hb hK hP hD hS 2 rfl _ rfl i3 dX4_send_28 (fun H locs hP hD hS => ?_)
        replace hP : zP g (zMR g h0 h1 qr vn vt vd vk vi rf sz ac sF sB sp ou tx (upd ro (256 + v5).toNatClampNeg 0)) H := hP
        replace hD : va_D A (zMR g h0 h1 qr vn vt vd vk vi rf sz ac sF sB sp ou tx (upd ro (256 + v5).toNatClampNeg 0)) := hD
        refine lv_aload_n hx hb dX4_send_29 rfl (lv_at hl 1 rfl) ?_
        refine lv_sipush (v := 512) hx hb dX4_send_30 (by decide) ?_
        refine lv_iload hx hb dX4_send_33 (lv_at hl 4 rfl) ?_
        refine lv_iadd hx hb dX4_send_35 ?_
        refine lv_iconst (v := (-1)) hx hb dX4_send_36 (by decide) ?_
        obtain ⟨i4, h⟩ := zi h
        refine za_ist hx hb hK hP hD hS 2 rfl _ rfl i4 dX4_send_37 (fun H locs hP hD hS => ?_)
        replace hP : zP g (zMR g h0 h1 qr vn vt vd vk vi rf sz ac sF sB sp ou tx (upd (upd ro (256 + v5).toNatClampNeg 0) (512 + v5).toNatClampNeg (-1))) H := hP
        replace hD : va_D A (zMR g h0 h1 qr vn vt vd vk vi rf sz ac sF sB sp ou tx (upd (upd ro (256 + v5).toNatClampNeg 0) (512 + v5).toNatClampNeg (-1))) := hD
        refine lv_iinc (v := (v5 + 1)) (lv' := [(5, .int (v5 + 1)), (0, .ref h0), (1, .ref qr), (2, .int v2), (4, .int v4)]) hx hb dX4_send_38 hl (k := 4) rfl rfl (by decide) rfl (fun ls hl => ?_)
        refine lv_goto (tgt := 11) hx hb dX4_send_41 (by decide) ?_
        exact ih v2 v4 (v5 + 1) sF sB (upd (upd ro (256 + v5).toNatClampNeg 0) (512 + v5).toNatClampNeg (-1)) h H locs hP hD hS ls (lv_sub hl [1, 2, 3, 4, 0] rfl)
  unfold fX4_send at h
  refine lv_iload_n hx hb dX4_send_0 rfl (lv_at hl 3 rfl) ?_
  refine lv_aload_n hx hb dX4_send_1 rfl (lv_at hl 1 rfl) ?_
  obtain ⟨r5, e5, h⟩ := zb h
  refine zS (As := [.ref qr]) (rest := [.int a3]) (zQi_q _) ⟨hx, hb, hml, hown, hts⟩ (kX4_granule l g qr ro e5) (va_cwS 1 hts gX4_send_X4_granule rfl rfl rfl hdS_X4_granule ⟨Nat.le_of_ble_eq_true rfl, Nat.le_of_ble_eq_true rfl⟩) hK hP [2] rfl rfl hl.1 rfl (Nat.le_of_ble_eq_true rfl) ⟨Nat.zero_le _, Nat.zero_le _⟩ dX4_send_2 ?_
  refine lv_imul hx hb dX4_send_5 ?_
  refine lv_istore (lv' := [(4, .int (a3 * r5)), (0, .ref h0), (1, .ref qr), (2, .int a2), (3, .int a3)]) hx hb dX4_send_6 hl (by decide) rfl (fun ls hl => ?_)
  refine lv_iload_n hx hb dX4_send_8 rfl (lv_at hl 3 rfl) ?_
  refine lv_istore (lv' := [(5, .int a2), (4, .int (a3 * r5)), (0, .ref h0), (1, .ref qr), (2, .int a2), (3, .int a3)]) hx hb dX4_send_9 hl (by decide) rfl (fun ls hl => ?_)
  exact loop_11 1000 a2 (a3 * r5) a2 sF sB ro h s.heap [] hP hD hS ls (lv_sub hl [2, 3, 4, 1, 0] rfl)
theorem hdS_X4_chosen : yX4_chosen.cls ≠ "java/lang/invoke/MethodHandle" ∧ yX4_chosen.cls ≠ "java/lang/invoke/VarHandle" ∧ (parseMethodDescriptor yX4_chosen.desc).map (fun d => d.parameters.length) = some 3 := by decide +kernel
theorem hdS_X4_least : yX4_least.cls ≠ "java/lang/invoke/MethodHandle" ∧ yX4_least.cls ≠ "java/lang/invoke/VarHandle" ∧ (parseMethodDescriptor yX4_least.desc).map (fun d => d.parameters.length) = some 2 := by decide +kernel
theorem hdV_X4_send : yX4_send.cls = RX4 ∧ yX4_send.cls ≠ "java/lang/invoke/MethodHandle" ∧ yX4_send.cls ≠ "java/lang/invoke/VarHandle" ∧ (parseMethodDescriptor yX4_send.desc).map (fun d => d.parameters.length) = some 3 := by decide +kernel
def fX4_tick_50  : Nat → Int32 → Int32 → Int32 → (Int32) → (Int32) → (Nat → Int32) → Option ((Int32) × (Int32) × (Nat → Int32))
  | 0, _, _, _, _, _, _ => none
  | n + 1, v2, v3, v4, sF, sB, ro =>
    if v4 = (-1) then
        some (sF, sB, (upd (upd ro 769 ((ro 769) + 1)) 768 (((upd ro 769 ((ro 769) + 1)) 768) + 1)))
      else
        ob (fX4_piece ro v4) fun r2 =>
        ob (fX4_least r2 (v2 - v3)) fun r3 =>
        ob (fX4_least 16 r3) fun r4 =>
        ob3 (fX4_send sF sB ro v4 r4) fun sF5 sB5 ro5 =>
        if (v2 - (v3 + r4)) ≤ v3 then
          fX4_tick_50 n (v2 - (v3 + r4)) v3 (-1) sF5 sB5 ro5
        else
          ob (fX4_chosen ro5 (ro5 778) 1) fun r7 =>
          fX4_tick_50 n (v2 - (v3 + r4)) v3 r7 sF5 sB5 ro5
def fX4_tick (sF : Int32) (sB : Int32) (ro : Nat → Int32) : Option ((Int32) × (Int32) × (Nat → Int32)) :=
  if (ro 769) < (ro 774) then
    if 0 ≤ (ro 777) then
      fX4_tick_50 1000 0 (ro 777) (-1) sF sB ro
    else
      ob (fX4_chosen ro (ro 778) 1) fun r10 =>
      fX4_tick_50 1000 0 (ro 777) r10 sF sB ro
  else
    if (ro 775) ≤ (ro 777) then
      fX4_tick_50 1000 (ro 775) (ro 777) (-1) sF sB ro
    else
      ob (fX4_chosen ro (ro 778) 1) fun r12 =>
      fX4_tick_50 1000 (ro 775) (ro 777) r12 sF sB ro
set_option maxRecDepth 100000 in
set_option maxHeartbeats 4000000 in
theorem kX4_tick (l : Launch) (g : zG) (h0 h1 qr : Nat) (vn vt vd vk vi : Value) (rf : Int32) (sz : Int32) (ac : Int32) (sF : Int32) (sB : Int32) (sp : Int32) (ou : Int32) (tx : Nat → Int32) (ro : Nat → Int32) {sF' : Int32} {sB' : Int32} {ro' : Nat → Int32} (h : fX4_tick sF sB ro = some (sF', sB', ro')) : Mw l g yX4_tick wsX4_tick { frames := 7, cells := 0, slots := 0, locals := 157 } [.ref h0, .ref qr] (zMR g h0 h1 qr vn vt vd vk vi rf sz ac sF sB sp ou tx ro) (zWv g (zMR g h0 h1 qr vn vt vd vk vi rf sz ac sF' sB' sp ou tx ro')) := by
  refine zw_in (cc := cX4_tick) (maxL := 6) (ret := none) (by decide) rfl (Nat.le_of_ble_eq_true rfl) ?_
  intro p e s m below meth c hx hb hr hml hts hown hlocks hK A hA hP hD hS ls hl
  replace hl : lv_has ls 6 [(0, .ref h0), (1, .ref qr)] := hl
  have loop_50 : ∀ (n : Nat) (v2 : Int32) (v3 : Int32) (v4 : Int32) (sF : (Int32)) (sB : (Int32)) (ro : (Nat → Int32)), fX4_tick_50 n v2 v3 v4 sF sB ro = some (sF', sB', ro') → ∀ (H : Heap) (locs : List Loc), zP g (zMR g h0 h1 qr vn vt vd vk vi rf sz ac sF sB sp ou tx ro) H → va_D A (zMR g h0 h1 qr vn vt vd vk vi rf sz ac sF sB sp ou tx ro) → va_S A s.heap H locs → ∀ (ls : Array Slot), lv_has ls 6 [(0, .ref h0), (1, .ref qr), (2, .int v2), (3, .int v3), (4, .int v4)] → W p l e ({ frames := 7, cells := 0, slots := 0, locals := 157 } : Room) s m [.ref h0, .ref qr].toArray below meth c H locs 0 0 (MQ below (zWv g (zMR g h0 h1 qr vn vt vd vk vi rf sz ac sF' sB' sp ou tx ro') A) [.ref h0, .ref qr].toArray s 0 0 A) (F0 m 50 ls []) := by
    intro n
    induction n with
    | zero => intro v2 v3 v4 sF sB ro h H locs hP hD hS ls hl; exact zn h
    | succ n ih =>
      intro v2 v3 v4 sF sB ro h H locs hP hD hS ls hl
      rw [fX4_tick_50] at h
      refine lv_iload hx hb dX4_tick_50 (lv_at hl 4 rfl) ?_
      refine lv_iconst (v := (-1)) hx hb dX4_tick_52 (by decide) ?_
      refine lv_icmp_eq (tgt := 115) hx hb dX4_tick_53 (by decide) (fun c1 => ?_) (fun c1 => ?_)
      · replace h := zt c1 h
        refine lv_aload_n hx hb dX4_tick_115 rfl (lv_at hl 1 rfl) ?_
        refine lv_sipush (v := 769) hx hb dX4_tick_116 (by decide) ?_
        refine lv_dup2_11 hx hb dX4_tick_119 rfl rfl ?_
        refine za_ild hx hb hK hP 2 rfl 769 (by decide) (by decide) dX4_tick_120 ?_
        refine lv_iconst (v := 1) hx hb dX4_tick_121 (by decide) ?_
        refine lv_iadd hx hb dX4_tick_122 ?_
        refine za_ist hx hb hK hP hD hS 2 rfl 769 (by decide) (by decide) dX4_tick_123 (fun H locs hP hD hS => ?_)
        replace hP : zP g (zMR g h0 h1 qr vn vt vd vk vi rf sz ac sF sB sp ou tx (upd ro 769 ((ro 769) + 1))) H := hP
        replace hD : va_D A (zMR g h0 h1 qr vn vt vd vk vi rf sz ac sF sB sp ou tx (upd ro 769 ((ro 769) + 1))) := hD
        refine lv_aload_n hx hb dX4_tick_124 rfl (lv_at hl 1 rfl) ?_
        refine lv_sipush (v := 768) hx hb dX4_tick_125 (by decide) ?_
        refine lv_dup2_11 hx hb dX4_tick_128 rfl rfl ?_
        refine za_ild hx hb hK hP 2 rfl 768 (by decide) (by decide) dX4_tick_129 ?_
        refine lv_iconst (v := 1) hx hb dX4_tick_130 (by decide) ?_
        refine lv_iadd hx hb dX4_tick_131 ?_
        refine za_ist hx hb hK hP hD hS 2 rfl 768 (by decide) (by decide) dX4_tick_132 (fun H locs hP hD hS => ?_)
        replace hP : zP g (zMR g h0 h1 qr vn vt vd vk vi rf sz ac sF sB sp ou tx (upd (upd ro 769 ((ro 769) + 1)) 768 (((upd ro 769 ((ro 769) + 1)) 768) + 1))) H := hP
        replace hD : va_D A (zMR g h0 h1 qr vn vt vd vk vi rf sz ac sF sB sp ou tx (upd (upd ro 769 ((ro 769) + 1)) 768 (((upd ro 769 ((ro 769) + 1)) 768) + 1))) := hD
        cases h
        exact zw_v hx hb hr hlocks hP hS dX4_tick_133
      · replace h := zf c1 h
        refine lv_bipush (v := 16) hx hb dX4_tick_56 (by decide) ?_
        refine lv_aload_n hx hb dX4_tick_58 rfl (lv_at hl 1 rfl) ?_
        refine lv_iload hx hb dX4_tick_59 (lv_at hl 4 rfl) ?_
        obtain ⟨r2, e2, h⟩ := zb h
        refine zS (As := [.ref qr, .int v4]) (rest := [.int 16]) (zQi_q _) ⟨hx, hb, hml, hown, hts⟩ (kX4_piece l g qr ro v4 e2) (va_cwS 2 hts gX4_tick_X4_piece rfl rfl rfl hdS_X4_piece ⟨Nat.le_of_ble_eq_true rfl, Nat.le_of_ble_eq_true rfl⟩) hK hP [2] rfl rfl hl.1 rfl (Nat.le_of_ble_eq_true rfl) ⟨Nat.zero_le _, Nat.zero_le _⟩ dX4_tick_61 ?_
        refine lv_iload_n hx hb dX4_tick_64 rfl (lv_at hl 2 rfl) ?_
        refine lv_iload_n hx hb dX4_tick_65 rfl (lv_at hl 3 rfl) ?_
        refine lv_isub hx hb dX4_tick_66 ?_
        obtain ⟨r3, e3, h⟩ := zb h
        refine zS (As := [.int r2, .int (v2 - v3)]) (rest := [.int 16]) (zQi_q _) ⟨hx, hb, hml, hown, hts⟩ (kX4_least l g r2 (v2 - v3) e3) (va_cwS 2 hts gX4_tick_X4_least rfl rfl rfl hdS_X4_least ⟨Nat.le_of_ble_eq_true rfl, Nat.le_of_ble_eq_true rfl⟩) hK hP [] rfl rfl hl.1 rfl (Nat.le_of_ble_eq_true rfl) ⟨Nat.zero_le _, Nat.zero_le _⟩ dX4_tick_67 ?_
        obtain ⟨r4, e4, h⟩ := zb h
        refine zS (As := [.int 16, .int r3]) (rest := []) (zQi_q _) ⟨hx, hb, hml, hown, hts⟩ (kX4_least l g 16 r3 e4) (va_cwS 2 hts gX4_tick_X4_least rfl rfl rfl hdS_X4_least ⟨Nat.le_of_ble_eq_true rfl, Nat.le_of_ble_eq_true rfl⟩) hK hP [] rfl rfl hl.1 rfl (Nat.le_of_ble_eq_true rfl) ⟨Nat.zero_le _, Nat.zero_le _⟩ dX4_tick_70 ?_
        refine lv_istore (lv' := [(5, .int r4), (0, .ref h0), (1, .ref qr), (2, .int v2), (3, .int v3), (4, .int v4)]) hx hb dX4_tick_73 hl (by decide) rfl (fun ls hl => ?_)
        refine lv_aload_n hx hb dX4_tick_75 rfl (lv_at hl 1 rfl) ?_
        refine lv_aload_n hx hb dX4_tick_76 rfl (lv_at hl 2 rfl) ?_
        refine lv_iload hx hb dX4_tick_77 (lv_at hl 5 rfl) ?_
        refine lv_iload hx hb dX4_tick_79 (lv_at hl 0 rfl) ?_
        obtain ⟨sF5, sB5, ro5, e5, h⟩ := zb3 h
        refine zVw (As := [.ref qr, .int v4, .int r4]) (rest := []) (zWv_q g _) ⟨hx, hb, hml, hown, hts⟩ (kX4_send l g h0 h1 qr vn vt vd vk vi rf sz ac sF sB sp ou tx ro v4 r4 e5) (cwV 3 hts gX4_tick_X4_send rfl rfl rfl hdV_X4_send ⟨Nat.le_of_ble_eq_true rfl, Nat.le_of_ble_eq_true rfl⟩) hK hP hD hS hA [0, 1, 2] (by decide) rfl rfl 0 rfl rfl rfl hl.1 rfl (Nat.le_of_ble_eq_true rfl) ⟨Nat.zero_le _, Nat.zero_le _⟩ dX4_tick_81 (fun H locs hP hD hS => ?_)
        replace hP : zP g (zMR g h0 h1 qr vn vt vd vk vi rf sz ac sF5 sB5 sp ou tx ro5) H := hP
        replace hD : va_D A (zMR g h0 h1 qr vn vt vd vk vi rf sz ac sF5 sB5 sp ou tx ro5) := hD
        refine lv_iload_n hx hb dX4_tick_84 rfl (lv_at hl 3 rfl) ?_
        refine lv_iload_n hx hb dX4_tick_85 rfl (lv_at hl 4 rfl) ?_
        refine lv_iload hx hb dX4_tick_86 (lv_at hl 0 rfl) ?_
        refine lv_iadd hx hb dX4_tick_88 ?_
        refine lv_isub hx hb dX4_tick_89 ?_
        refine lv_istore_n (lv' := [(2, .int (v2 - (v3 + r4))), (5, .int r4), (0, .ref h0), (1, .ref qr), (3, .int v3), (4, .int v4)]) hx hb dX4_tick_90 rfl hl (by decide) rfl (fun ls hl => ?_)
        refine lv_iload_n hx hb dX4_tick_91 rfl (lv_at hl 0 rfl) ?_
        refine lv_iload_n hx hb dX4_tick_92 rfl (lv_at hl 4 rfl) ?_
        refine lv_icmp_le (tgt := 109) hx hb dX4_tick_93 (by decide) (fun c6 => ?_) (fun c6 => ?_)
        · replace h := zt c6 h
          refine lv_iconst (v := (-1)) hx hb dX4_tick_109 (by decide) ?_
          refine lv_istore (lv' := [(4, .int (-1)), (2, .int (v2 - (v3 + r4))), (5, .int r4), (0, .ref h0), (1, .ref qr), (3, .int v3)]) hx hb dX4_tick_110 hl (by decide) rfl (fun ls hl => ?_)
          refine lv_goto (tgt := 50) hx hb dX4_tick_112 (by decide) ?_
          exact ih (v2 - (v3 + r4)) v3 (-1) sF5 sB5 ro5 h H locs hP hD hS ls (lv_sub hl [3, 4, 1, 5, 0] rfl)
        · replace h := zf c6 h
          refine lv_aload_n hx hb dX4_tick_96 rfl (lv_at hl 3 rfl) ?_
          refine lv_aload_n hx hb dX4_tick_97 rfl (lv_at hl 3 rfl) ?_
          refine lv_sipush (v := 778) hx hb dX4_tick_98 (by decide) ?_
          refine za_ild hx hb hK hP 2 rfl 778 (by decide) (by decide) dX4_tick_101 ?_
          refine lv_iconst (v := 1) hx hb dX4_tick_102 (by decide) ?_
          obtain ⟨r7, e7, h⟩ := zb h
          refine zS (As := [.ref qr, .int (ro5 778), .int 1]) (rest := []) (zQi_q _) ⟨hx, hb, hml, hown, hts⟩ (kX4_chosen l g qr ro5 (ro5 778) 1 e7) (va_cwS 3 hts gX4_tick_X4_chosen rfl rfl rfl hdS_X4_chosen ⟨Nat.le_of_ble_eq_true rfl, Nat.le_of_ble_eq_true rfl⟩) hK hP [2] rfl rfl hl.1 rfl (Nat.le_of_ble_eq_true rfl) ⟨Nat.zero_le _, Nat.zero_le _⟩ dX4_tick_103 ?_
          refine lv_goto (tgt := 110) hx hb dX4_tick_106 (by decide) ?_
          refine lv_istore (lv' := [(4, .int r7), (2, .int (v2 - (v3 + r4))), (5, .int r4), (0, .ref h0), (1, .ref qr), (3, .int v3)]) hx hb dX4_tick_110 hl (by decide) rfl (fun ls hl => ?_)
          refine lv_goto (tgt := 50) hx hb dX4_tick_112 (by decide) ?_
          exact ih (v2 - (v3 + r4)) v3 r7 sF5 sB5 ro5 h H locs hP hD hS ls (lv_sub hl [3, 4, 1, 5, 0] rfl)
  unfold fX4_tick at h
  refine lv_aload_n hx hb dX4_tick_0 rfl (lv_at hl 1 rfl) ?_
  refine lv_sipush (v := 769) hx hb dX4_tick_1 (by decide) ?_
  refine za_ild hx hb hK hP 2 rfl 769 (by decide) (by decide) dX4_tick_4 ?_
  refine lv_aload_n hx hb dX4_tick_5 rfl (lv_at hl 1 rfl) ?_
  refine lv_sipush (v := 774) hx hb dX4_tick_6 (by decide) ?_
  refine za_ild hx hb hK hP 2 rfl 774 (by decide) (by decide) dX4_tick_9 ?_
  refine lv_icmp_lt (tgt := 21) hx hb dX4_tick_10 (by decide) (fun c8 => ?_) (fun c8 => ?_)
  · replace h := zt c8 h
    refine lv_iconst (v := 0) hx hb dX4_tick_21 (by decide) ?_
    refine lv_istore_n (lv' := [(2, .int 0), (0, .ref h0), (1, .ref qr)]) hx hb dX4_tick_22 rfl hl (by decide) rfl (fun ls hl => ?_)
    refine lv_aload_n hx hb dX4_tick_23 rfl (lv_at hl 2 rfl) ?_
    refine lv_sipush (v := 777) hx hb dX4_tick_24 (by decide) ?_
    refine za_ild hx hb hK hP 2 rfl 777 (by decide) (by decide) dX4_tick_27 ?_
    refine lv_istore_n (lv' := [(3, .int (ro 777)), (2, .int 0), (0, .ref h0), (1, .ref qr)]) hx hb dX4_tick_28 rfl hl (by decide) rfl (fun ls hl => ?_)
    refine lv_iload_n hx hb dX4_tick_29 rfl (lv_at hl 1 rfl) ?_
    refine lv_iload_n hx hb dX4_tick_30 rfl (lv_at hl 0 rfl) ?_
    refine lv_icmp_le (tgt := 47) hx hb dX4_tick_31 (by decide) (fun c9 => ?_) (fun c9 => ?_)
    · replace h := zt c9 h
      refine lv_iconst (v := (-1)) hx hb dX4_tick_47 (by decide) ?_
      refine lv_istore (lv' := [(4, .int (-1)), (3, .int (ro 777)), (2, .int 0), (0, .ref h0), (1, .ref qr)]) hx hb dX4_tick_48 hl (by decide) rfl (fun ls hl => ?_)
      exact loop_50 1000 0 (ro 777) (-1) sF sB ro h s.heap [] hP hD hS ls (lv_sub hl [3, 4, 2, 1, 0] rfl)
    · replace h := zf c9 h
      refine lv_aload_n hx hb dX4_tick_34 rfl (lv_at hl 3 rfl) ?_
      refine lv_aload_n hx hb dX4_tick_35 rfl (lv_at hl 3 rfl) ?_
      refine lv_sipush (v := 778) hx hb dX4_tick_36 (by decide) ?_
      refine za_ild hx hb hK hP 2 rfl 778 (by decide) (by decide) dX4_tick_39 ?_
      refine lv_iconst (v := 1) hx hb dX4_tick_40 (by decide) ?_
      obtain ⟨r10, e10, h⟩ := zb h
      refine zS (As := [.ref qr, .int (ro 778), .int 1]) (rest := []) (zQi_q _) ⟨hx, hb, hml, hown, hts⟩ (kX4_chosen l g qr ro (ro 778) 1 e10) (va_cwS 3 hts gX4_tick_X4_chosen rfl rfl rfl hdS_X4_chosen ⟨Nat.le_of_ble_eq_true rfl, Nat.le_of_ble_eq_true rfl⟩) hK hP [2] rfl rfl hl.1 rfl (Nat.le_of_ble_eq_true rfl) ⟨Nat.zero_le _, Nat.zero_le _⟩ dX4_tick_41 ?_
      refine lv_goto (tgt := 48) hx hb dX4_tick_44 (by decide) ?_
      refine lv_istore (lv' := [(4, .int r10), (3, .int (ro 777)), (2, .int 0), (0, .ref h0), (1, .ref qr)]) hx hb dX4_tick_48 hl (by decide) rfl (fun ls hl => ?_)
      exact loop_50 1000 0 (ro 777) r10 sF sB ro h s.heap [] hP hD hS ls (lv_sub hl [3, 4, 2, 1, 0] rfl)
  · replace h := zf c8 h
    refine lv_aload_n hx hb dX4_tick_13 rfl (lv_at hl 1 rfl) ?_
    refine lv_sipush (v := 775) hx hb dX4_tick_14 (by decide) ?_
    refine za_ild hx hb hK hP 2 rfl 775 (by decide) (by decide) dX4_tick_17 ?_
    refine lv_goto (tgt := 22) hx hb dX4_tick_18 (by decide) ?_
    refine lv_istore_n (lv' := [(2, .int (ro 775)), (0, .ref h0), (1, .ref qr)]) hx hb dX4_tick_22 rfl hl (by decide) rfl (fun ls hl => ?_)
    refine lv_aload_n hx hb dX4_tick_23 rfl (lv_at hl 2 rfl) ?_
    refine lv_sipush (v := 777) hx hb dX4_tick_24 (by decide) ?_
    refine za_ild hx hb hK hP 2 rfl 777 (by decide) (by decide) dX4_tick_27 ?_
    refine lv_istore_n (lv' := [(3, .int (ro 777)), (2, .int (ro 775)), (0, .ref h0), (1, .ref qr)]) hx hb dX4_tick_28 rfl hl (by decide) rfl (fun ls hl => ?_)
    refine lv_iload_n hx hb dX4_tick_29 rfl (lv_at hl 1 rfl) ?_
    refine lv_iload_n hx hb dX4_tick_30 rfl (lv_at hl 0 rfl) ?_
    refine lv_icmp_le (tgt := 47) hx hb dX4_tick_31 (by decide) (fun c11 => ?_) (fun c11 => ?_)
    · replace h := zt c11 h
      refine lv_iconst (v := (-1)) hx hb dX4_tick_47 (by decide) ?_
      refine lv_istore (lv' := [(4, .int (-1)), (3, .int (ro 777)), (2, .int (ro 775)), (0, .ref h0), (1, .ref qr)]) hx hb dX4_tick_48 hl (by decide) rfl (fun ls hl => ?_)
      exact loop_50 1000 (ro 775) (ro 777) (-1) sF sB ro h s.heap [] hP hD hS ls (lv_sub hl [3, 4, 2, 1, 0] rfl)
    · replace h := zf c11 h
      refine lv_aload_n hx hb dX4_tick_34 rfl (lv_at hl 3 rfl) ?_
      refine lv_aload_n hx hb dX4_tick_35 rfl (lv_at hl 3 rfl) ?_
      refine lv_sipush (v := 778) hx hb dX4_tick_36 (by decide) ?_
      refine za_ild hx hb hK hP 2 rfl 778 (by decide) (by decide) dX4_tick_39 ?_
      refine lv_iconst (v := 1) hx hb dX4_tick_40 (by decide) ?_
      obtain ⟨r12, e12, h⟩ := zb h
      refine zS (As := [.ref qr, .int (ro 778), .int 1]) (rest := []) (zQi_q _) ⟨hx, hb, hml, hown, hts⟩ (kX4_chosen l g qr ro (ro 778) 1 e12) (va_cwS 3 hts gX4_tick_X4_chosen rfl rfl rfl hdS_X4_chosen ⟨Nat.le_of_ble_eq_true rfl, Nat.le_of_ble_eq_true rfl⟩) hK hP [2] rfl rfl hl.1 rfl (Nat.le_of_ble_eq_true rfl) ⟨Nat.zero_le _, Nat.zero_le _⟩ dX4_tick_41 ?_
      refine lv_goto (tgt := 48) hx hb dX4_tick_44 (by decide) ?_
      refine lv_istore (lv' := [(4, .int r12), (3, .int (ro 777)), (2, .int (ro 775)), (0, .ref h0), (1, .ref qr)]) hx hb dX4_tick_48 hl (by decide) rfl (fun ls hl => ?_)
      exact loop_50 1000 (ro 775) (ro 777) r12 sF sB ro h s.heap [] hP hD hS ls (lv_sub hl [3, 4, 2, 1, 0] rfl)
theorem hdV_X4_tick : yX4_tick.cls = RX4 ∧ yX4_tick.cls ≠ "java/lang/invoke/MethodHandle" ∧ yX4_tick.cls ≠ "java/lang/invoke/VarHandle" ∧ (parseMethodDescriptor yX4_tick.desc).map (fun d => d.parameters.length) = some 1 := by decide +kernel
def fX4_runOn_9  : Nat → Int32 → Int32 → Int32 → (Int32) → (Int32) → (Nat → Int32) → Option (Int32 × (Int32) × (Int32) × (Nat → Int32))
  | 0, _, _, _, _, _, _ => none
  | n + 1, v2, v3, v4, sF, sB, ro =>
    if v2 ≤ v4 then
        some (((ro 771) - v3), sF, sB, ro)
      else
        ob3 (fX4_tick sF sB ro) fun sF2 sB2 ro2 =>
        fX4_runOn_9 n v2 v3 (v4 + 1) sF2 sB2 ro2
def fX4_runOn (sF : Int32) (sB : Int32) (ro : Nat → Int32) (a2 : Int32) : Option (Int32 × (Int32) × (Int32) × (Nat → Int32)) :=
  fX4_runOn_9 1000 a2 (ro 771) 0 sF sB ro
set_option maxRecDepth 100000 in
set_option maxHeartbeats 4000000 in
theorem kX4_runOn (l : Launch) (g : zG) (h0 h1 qr : Nat) (vn vt vd vk vi : Value) (rf : Int32) (sz : Int32) (ac : Int32) (sF : Int32) (sB : Int32) (sp : Int32) (ou : Int32) (tx : Nat → Int32) (ro : Nat → Int32) (a2 : Int32) {r : Int32} {sF' : Int32} {sB' : Int32} {ro' : Nat → Int32} (h : fX4_runOn sF sB ro a2 = some (r, sF', sB', ro')) : Mw l g yX4_runOn wsX4_runOn { frames := 8, cells := 0, slots := 0, locals := 182 } [.ref h0, .ref qr, .int a2] (zMR g h0 h1 qr vn vt vd vk vi rf sz ac sF sB sp ou tx ro) (zWi g (zMR g h0 h1 qr vn vt vd vk vi rf sz ac sF' sB' sp ou tx ro') r) := by
  refine zw_in (cc := cX4_runOn) (maxL := 5) (ret := (some .int)) (by decide) rfl (Nat.le_of_ble_eq_true rfl) ?_
  intro p e s m below meth c hx hb hr hml hts hown hlocks hK A hA hP hD hS ls hl
  replace hl : lv_has ls 5 [(0, .ref h0), (1, .ref qr), (2, .int a2)] := hl
  have loop_9 : ∀ (n : Nat) (v2 : Int32) (v3 : Int32) (v4 : Int32) (sF : (Int32)) (sB : (Int32)) (ro : (Nat → Int32)), fX4_runOn_9 n v2 v3 v4 sF sB ro = some (r, sF', sB', ro') → ∀ (H : Heap) (locs : List Loc), zP g (zMR g h0 h1 qr vn vt vd vk vi rf sz ac sF sB sp ou tx ro) H → va_D A (zMR g h0 h1 qr vn vt vd vk vi rf sz ac sF sB sp ou tx ro) → va_S A s.heap H locs → ∀ (ls : Array Slot), lv_has ls 5 [(0, .ref h0), (1, .ref qr), (2, .int v2), (3, .int v3), (4, .int v4)] → W p l e ({ frames := 8, cells := 0, slots := 0, locals := 182 } : Room) s m [.ref h0, .ref qr, .int a2].toArray below meth c H locs 0 0 (MQ below (zWi g (zMR g h0 h1 qr vn vt vd vk vi rf sz ac sF' sB' sp ou tx ro') r A) [.ref h0, .ref qr, .int a2].toArray s 0 0 A) (F0 m 9 ls []) := by
    intro n
    induction n with
    | zero => intro v2 v3 v4 sF sB ro h H locs hP hD hS ls hl; exact zn h
    | succ n ih =>
      intro v2 v3 v4 sF sB ro h H locs hP hD hS ls hl
      rw [fX4_runOn_9] at h
      refine lv_iload hx hb dX4_runOn_9 (lv_at hl 4 rfl) ?_
      refine lv_iload_n hx hb dX4_runOn_11 rfl (lv_at hl 2 rfl) ?_
      refine lv_icmp_ge (tgt := 26) hx hb dX4_runOn_12 (by decide) (fun c1 => ?_) (fun c1 => ?_)
      · replace h := zt c1 h
        refine lv_aload_n hx hb dX4_runOn_26 rfl (lv_at hl 1 rfl) ?_
        refine lv_sipush (v := 771) hx hb dX4_runOn_27 (by decide) ?_
        refine za_ild hx hb hK hP 2 rfl 771 (by decide) (by decide) dX4_runOn_30 ?_
        refine lv_iload_n hx hb dX4_runOn_31 rfl (lv_at hl 3 rfl) ?_
        refine lv_isub hx hb dX4_runOn_32 ?_
        cases h
        exact zw_i hx hb hr hlocks hP hS dX4_runOn_33
      · replace h := zf c1 h
        refine lv_aload_n hx hb dX4_runOn_15 rfl (lv_at hl 0 rfl) ?_
        refine lv_aload_n hx hb dX4_runOn_16 rfl (lv_at hl 1 rfl) ?_
        obtain ⟨sF2, sB2, ro2, e2, h⟩ := zb3 h
        refine zVw (As := [.ref qr]) (rest := []) (zWv_q g _) ⟨hx, hb, hml, hown, hts⟩ (kX4_tick l g h0 h1 qr vn vt vd vk vi rf sz ac sF sB sp ou tx ro e2) (cwV 1 hts gX4_runOn_X4_tick rfl rfl rfl hdV_X4_tick ⟨Nat.le_of_ble_eq_true rfl, Nat.le_of_ble_eq_true rfl⟩) hK hP hD hS hA [0, 1, 2] (by decide) rfl rfl 0 rfl rfl rfl hl.1 rfl (Nat.le_of_ble_eq_true rfl) ⟨Nat.zero_le _, Nat.zero_le _⟩ dX4_runOn_17 (fun H locs hP hD hS => ?_)
        replace hP : zP g (zMR g h0 h1 qr vn vt vd vk vi rf sz ac sF2 sB2 sp ou tx ro2) H := hP
        replace hD : va_D A (zMR g h0 h1 qr vn vt vd vk vi rf sz ac sF2 sB2 sp ou tx ro2) := hD
        refine lv_iinc (v := (v4 + 1)) (lv' := [(4, .int (v4 + 1)), (0, .ref h0), (1, .ref qr), (2, .int v2), (3, .int v3)]) hx hb dX4_runOn_20 hl (k := 4) rfl rfl (by decide) rfl (fun ls hl => ?_)
        refine lv_goto (tgt := 9) hx hb dX4_runOn_23 (by decide) ?_
        exact ih v2 v3 (v4 + 1) sF2 sB2 ro2 h H locs hP hD hS ls (lv_sub hl [1, 2, 3, 4, 0] rfl)
  unfold fX4_runOn at h
  refine lv_aload_n hx hb dX4_runOn_0 rfl (lv_at hl 1 rfl) ?_
  refine lv_sipush (v := 771) hx hb dX4_runOn_1 (by decide) ?_
  refine za_ild hx hb hK hP 2 rfl 771 (by decide) (by decide) dX4_runOn_4 ?_
  refine lv_istore_n (lv' := [(3, .int (ro 771)), (0, .ref h0), (1, .ref qr), (2, .int a2)]) hx hb dX4_runOn_5 rfl hl (by decide) rfl (fun ls hl => ?_)
  refine lv_iconst (v := 0) hx hb dX4_runOn_6 (by decide) ?_
  refine lv_istore (lv' := [(4, .int 0), (3, .int (ro 771)), (0, .ref h0), (1, .ref qr), (2, .int a2)]) hx hb dX4_runOn_7 hl (by decide) rfl (fun ls hl => ?_)
  exact loop_9 1000 a2 (ro 771) 0 sF sB ro h s.heap [] hP hD hS ls (lv_sub hl [2, 3, 4, 1, 0] rfl)
def fX4_flushOn_13  : Nat → Int32 → Int32 → (Int32) → (Int32) → (Nat → Int32) → Option (Int32 × (Int32) × (Int32) × (Nat → Int32))
  | 0, _, _, _, _, _ => none
  | n + 1, v2, v3, sF, sB, ro =>
    if v3 = (-1) then
        some (((ro 770) - v2), sF, sB, ro)
      else
        ob (fX4_piece ro v3) fun r2 =>
        ob (fX4_least 16 r2) fun r3 =>
        ob3 (fX4_send sF sB ro v3 r3) fun sF4 sB4 ro4 =>
        ob (fX4_chosen ro4 2 0) fun r5 =>
        fX4_flushOn_13 n v2 r5 sF4 sB4 ro4
def fX4_flushOn (sF : Int32) (sB : Int32) (ro : Nat → Int32) : Option (Int32 × (Int32) × (Int32) × (Nat → Int32)) :=
  ob (fX4_chosen ro 2 0) fun r6 =>
  fX4_flushOn_13 1000 (ro 770) r6 sF sB ro
set_option maxRecDepth 100000 in
set_option maxHeartbeats 4000000 in
theorem kX4_flushOn (l : Launch) (g : zG) (h0 h1 qr : Nat) (vn vt vd vk vi : Value) (rf : Int32) (sz : Int32) (ac : Int32) (sF : Int32) (sB : Int32) (sp : Int32) (ou : Int32) (tx : Nat → Int32) (ro : Nat → Int32) {r : Int32} {sF' : Int32} {sB' : Int32} {ro' : Nat → Int32} (h : fX4_flushOn sF sB ro = some (r, sF', sB', ro')) : Mw l g yX4_flushOn wsX4_flushOn { frames := 7, cells := 0, slots := 0, locals := 157 } [.ref h0, .ref qr] (zMR g h0 h1 qr vn vt vd vk vi rf sz ac sF sB sp ou tx ro) (zWi g (zMR g h0 h1 qr vn vt vd vk vi rf sz ac sF' sB' sp ou tx ro') r) := by
  refine zw_in (cc := cX4_flushOn) (maxL := 4) (ret := (some .int)) (by decide) rfl (Nat.le_of_ble_eq_true rfl) ?_
  intro p e s m below meth c hx hb hr hml hts hown hlocks hK A hA hP hD hS ls hl
  replace hl : lv_has ls 4 [(0, .ref h0), (1, .ref qr)] := hl
  have loop_13 : ∀ (n : Nat) (v2 : Int32) (v3 : Int32) (sF : (Int32)) (sB : (Int32)) (ro : (Nat → Int32)), fX4_flushOn_13 n v2 v3 sF sB ro = some (r, sF', sB', ro') → ∀ (H : Heap) (locs : List Loc), zP g (zMR g h0 h1 qr vn vt vd vk vi rf sz ac sF sB sp ou tx ro) H → va_D A (zMR g h0 h1 qr vn vt vd vk vi rf sz ac sF sB sp ou tx ro) → va_S A s.heap H locs → ∀ (ls : Array Slot), lv_has ls 4 [(0, .ref h0), (1, .ref qr), (2, .int v2), (3, .int v3)] → W p l e ({ frames := 7, cells := 0, slots := 0, locals := 157 } : Room) s m [.ref h0, .ref qr].toArray below meth c H locs 0 0 (MQ below (zWi g (zMR g h0 h1 qr vn vt vd vk vi rf sz ac sF' sB' sp ou tx ro') r A) [.ref h0, .ref qr].toArray s 0 0 A) (F0 m 13 ls []) := by
    intro n
    induction n with
    | zero => intro v2 v3 sF sB ro h H locs hP hD hS ls hl; exact zn h
    | succ n ih =>
      intro v2 v3 sF sB ro h H locs hP hD hS ls hl
      rw [fX4_flushOn_13] at h
      refine lv_iload_n hx hb dX4_flushOn_13 rfl (lv_at hl 3 rfl) ?_
      refine lv_iconst (v := (-1)) hx hb dX4_flushOn_14 (by decide) ?_
      refine lv_icmp_eq (tgt := 44) hx hb dX4_flushOn_15 (by decide) (fun c1 => ?_) (fun c1 => ?_)
      · replace h := zt c1 h
        refine lv_aload_n hx hb dX4_flushOn_44 rfl (lv_at hl 1 rfl) ?_
        refine lv_sipush (v := 770) hx hb dX4_flushOn_45 (by decide) ?_
        refine za_ild hx hb hK hP 2 rfl 770 (by decide) (by decide) dX4_flushOn_48 ?_
        refine lv_iload_n hx hb dX4_flushOn_49 rfl (lv_at hl 2 rfl) ?_
        refine lv_isub hx hb dX4_flushOn_50 ?_
        cases h
        exact zw_i hx hb hr hlocks hP hS dX4_flushOn_51
      · replace h := zf c1 h
        refine lv_aload_n hx hb dX4_flushOn_18 rfl (lv_at hl 0 rfl) ?_
        refine lv_aload_n hx hb dX4_flushOn_19 rfl (lv_at hl 1 rfl) ?_
        refine lv_iload_n hx hb dX4_flushOn_20 rfl (lv_at hl 3 rfl) ?_
        refine lv_bipush (v := 16) hx hb dX4_flushOn_21 (by decide) ?_
        refine lv_aload_n hx hb dX4_flushOn_23 rfl (lv_at hl 1 rfl) ?_
        refine lv_iload_n hx hb dX4_flushOn_24 rfl (lv_at hl 3 rfl) ?_
        obtain ⟨r2, e2, h⟩ := zb h
        refine zS (As := [.ref qr, .int v3]) (rest := [.int 16, .int v3, .ref qr, .ref h0]) (zQi_q _) ⟨hx, hb, hml, hown, hts⟩ (kX4_piece l g qr ro v3 e2) (va_cwS 2 hts gX4_flushOn_X4_piece rfl rfl rfl hdS_X4_piece ⟨Nat.le_of_ble_eq_true rfl, Nat.le_of_ble_eq_true rfl⟩) hK hP [2] rfl rfl hl.1 rfl (Nat.le_of_ble_eq_true rfl) ⟨Nat.zero_le _, Nat.zero_le _⟩ dX4_flushOn_25 ?_
        obtain ⟨r3, e3, h⟩ := zb h
        refine zS (As := [.int 16, .int r2]) (rest := [.int v3, .ref qr, .ref h0]) (zQi_q _) ⟨hx, hb, hml, hown, hts⟩ (kX4_least l g 16 r2 e3) (va_cwS 2 hts gX4_flushOn_X4_least rfl rfl rfl hdS_X4_least ⟨Nat.le_of_ble_eq_true rfl, Nat.le_of_ble_eq_true rfl⟩) hK hP [] rfl rfl hl.1 rfl (Nat.le_of_ble_eq_true rfl) ⟨Nat.zero_le _, Nat.zero_le _⟩ dX4_flushOn_28 ?_
        obtain ⟨sF4, sB4, ro4, e4, h⟩ := zb3 h
        refine zVw (As := [.ref qr, .int v3, .int r3]) (rest := []) (zWv_q g _) ⟨hx, hb, hml, hown, hts⟩ (kX4_send l g h0 h1 qr vn vt vd vk vi rf sz ac sF sB sp ou tx ro v3 r3 e4) (cwV 3 hts gX4_flushOn_X4_send rfl rfl rfl hdV_X4_send ⟨Nat.le_of_ble_eq_true rfl, Nat.le_of_ble_eq_true rfl⟩) hK hP hD hS hA [0, 1, 2] (by decide) rfl rfl 0 rfl rfl rfl hl.1 rfl (Nat.le_of_ble_eq_true rfl) ⟨Nat.zero_le _, Nat.zero_le _⟩ dX4_flushOn_31 (fun H locs hP hD hS => ?_)
        replace hP : zP g (zMR g h0 h1 qr vn vt vd vk vi rf sz ac sF4 sB4 sp ou tx ro4) H := hP
        replace hD : va_D A (zMR g h0 h1 qr vn vt vd vk vi rf sz ac sF4 sB4 sp ou tx ro4) := hD
        refine lv_aload_n hx hb dX4_flushOn_34 rfl (lv_at hl 1 rfl) ?_
        refine lv_iconst (v := 2) hx hb dX4_flushOn_35 (by decide) ?_
        refine lv_iconst (v := 0) hx hb dX4_flushOn_36 (by decide) ?_
        obtain ⟨r5, e5, h⟩ := zb h
        refine zS (As := [.ref qr, .int 2, .int 0]) (rest := []) (zQi_q _) ⟨hx, hb, hml, hown, hts⟩ (kX4_chosen l g qr ro4 2 0 e5) (va_cwS 3 hts gX4_flushOn_X4_chosen rfl rfl rfl hdS_X4_chosen ⟨Nat.le_of_ble_eq_true rfl, Nat.le_of_ble_eq_true rfl⟩) hK hP [2] rfl rfl hl.1 rfl (Nat.le_of_ble_eq_true rfl) ⟨Nat.zero_le _, Nat.zero_le _⟩ dX4_flushOn_37 ?_
        refine lv_istore_n (lv' := [(3, .int r5), (0, .ref h0), (1, .ref qr), (2, .int v2)]) hx hb dX4_flushOn_40 rfl hl (by decide) rfl (fun ls hl => ?_)
        refine lv_goto (tgt := 13) hx hb dX4_flushOn_41 (by decide) ?_
        exact ih v2 r5 sF4 sB4 ro4 h H locs hP hD hS ls (lv_sub hl [1, 2, 3, 0] rfl)
  unfold fX4_flushOn at h
  refine lv_aload_n hx hb dX4_flushOn_0 rfl (lv_at hl 1 rfl) ?_
  refine lv_sipush (v := 770) hx hb dX4_flushOn_1 (by decide) ?_
  refine za_ild hx hb hK hP 2 rfl 770 (by decide) (by decide) dX4_flushOn_4 ?_
  refine lv_istore_n (lv' := [(2, .int (ro 770)), (0, .ref h0), (1, .ref qr)]) hx hb dX4_flushOn_5 rfl hl (by decide) rfl (fun ls hl => ?_)
  refine lv_aload_n hx hb dX4_flushOn_6 rfl (lv_at hl 2 rfl) ?_
  refine lv_iconst (v := 2) hx hb dX4_flushOn_7 (by decide) ?_
  refine lv_iconst (v := 0) hx hb dX4_flushOn_8 (by decide) ?_
  obtain ⟨r6, e6, h⟩ := zb h
  refine zS (As := [.ref qr, .int 2, .int 0]) (rest := []) (zQi_q _) ⟨hx, hb, hml, hown, hts⟩ (kX4_chosen l g qr ro 2 0 e6) (va_cwS 3 hts gX4_flushOn_X4_chosen rfl rfl rfl hdS_X4_chosen ⟨Nat.le_of_ble_eq_true rfl, Nat.le_of_ble_eq_true rfl⟩) hK hP [2] rfl rfl hl.1 rfl (Nat.le_of_ble_eq_true rfl) ⟨Nat.zero_le _, Nat.zero_le _⟩ dX4_flushOn_9 ?_
  refine lv_istore_n (lv' := [(3, .int r6), (2, .int (ro 770)), (0, .ref h0), (1, .ref qr)]) hx hb dX4_flushOn_12 rfl hl (by decide) rfl (fun ls hl => ?_)
  exact loop_13 1000 (ro 770) r6 sF sB ro h s.heap [] hP hD hS ls (lv_sub hl [2, 3, 1, 0] rfl)
theorem hdS_X4_freeOn : yX4_freeOn.cls ≠ "java/lang/invoke/MethodHandle" ∧ yX4_freeOn.cls ≠ "java/lang/invoke/VarHandle" ∧ (parseMethodDescriptor yX4_freeOn.desc).map (fun d => d.parameters.length) = some 3 := by decide +kernel
theorem hdS_X4_isSetting : yX4_isSetting.cls ≠ "java/lang/invoke/MethodHandle" ∧ yX4_isSetting.cls ≠ "java/lang/invoke/VarHandle" ∧ (parseMethodDescriptor yX4_isSetting.desc).map (fun d => d.parameters.length) = some 2 := by decide +kernel
theorem hdS_X4_lay : yX4_lay.cls ≠ "java/lang/invoke/MethodHandle" ∧ yX4_lay.cls ≠ "java/lang/invoke/VarHandle" ∧ (parseMethodDescriptor yX4_lay.desc).map (fun d => d.parameters.length) = some 3 := by decide +kernel
theorem hdS_X4_pinOn : yX4_pinOn.cls ≠ "java/lang/invoke/MethodHandle" ∧ yX4_pinOn.cls ≠ "java/lang/invoke/VarHandle" ∧ (parseMethodDescriptor yX4_pinOn.desc).map (fun d => d.parameters.length) = some 4 := by decide +kernel
theorem hdS_X4_whyNotSpan : yX4_whyNotSpan.cls ≠ "java/lang/invoke/MethodHandle" ∧ yX4_whyNotSpan.cls ≠ "java/lang/invoke/VarHandle" ∧ (parseMethodDescriptor yX4_whyNotSpan.desc).map (fun d => d.parameters.length) = some 2 := by decide +kernel
theorem hdS_X4_writeOn : yX4_writeOn.cls ≠ "java/lang/invoke/MethodHandle" ∧ yX4_writeOn.cls ≠ "java/lang/invoke/VarHandle" ∧ (parseMethodDescriptor yX4_writeOn.desc).map (fun d => d.parameters.length) = some 3 := by decide +kernel
theorem hdV_X4_done : yX4_done.cls = RX4 ∧ yX4_done.cls ≠ "java/lang/invoke/MethodHandle" ∧ yX4_done.cls ≠ "java/lang/invoke/VarHandle" ∧ (parseMethodDescriptor yX4_done.desc).map (fun d => d.parameters.length) = some 1 := by decide +kernel
theorem hdV_X4_figures : yX4_figures.cls = RX4 ∧ yX4_figures.cls ≠ "java/lang/invoke/MethodHandle" ∧ yX4_figures.cls ≠ "java/lang/invoke/VarHandle" ∧ (parseMethodDescriptor yX4_figures.desc).map (fun d => d.parameters.length) = some 4 := by decide +kernel
theorem hdV_X4_runOn : yX4_runOn.cls = RX4 ∧ yX4_runOn.cls ≠ "java/lang/invoke/MethodHandle" ∧ yX4_runOn.cls ≠ "java/lang/invoke/VarHandle" ∧ (parseMethodDescriptor yX4_runOn.desc).map (fun d => d.parameters.length) = some 2 := by decide +kernel
def fX4_readCommand (sz : Int32) (sF : Int32) (sB : Int32) (sp : Int32) (ou : Int32) (tx : Nat → Int32) (ro : Nat → Int32) : Option (Int32 × (Int32) × (Int32) × (Int32) × (Int32) × (Nat → Int32)) :=
  if sp < 0 ∨ 120 ≤ sp.toNatClampNeg then none else
  if (tx sp.toNatClampNeg) = 102 then
    ob2 (fX4_figures sz (sp + 1) tx 0 3 0 255) fun r3 sp3 =>
    ob2 (fX4_figures sz sp3 tx r3 2 1 99) fun r4 sp4 =>
    if r4 = (-1) then
      some (0, sF, sB, sp4, ou, ro)
    else
      ob (fX4_whyNotSpan r3 r4) fun r6 =>
      if r6 = 0 then
        if (tx sp.toNatClampNeg) = 119 then
          ob2 (fX4_writeOn ro r3 r4) fun r17 ro17 =>
          if r17 < 0 then
            ob2 (fX4_done ou 0) fun r19 ou19 =>
            if r19 = 0 then
              some (0, sF, sB, sp4, ou19, ro17)
            else
              some (1, sF, sB, sp4, ou19, ro17)
          else
            ob2 (fX4_done ou 1) fun r21 ou21 =>
            if r21 = 0 then
              some (0, sF, sB, sp4, ou21, ro17)
            else
              some (1, sF, sB, sp4, ou21, ro17)
        else
          ob2 (fX4_freeOn ro r3 r4) fun r11 ro11 =>
          if r11 < 0 then
            ob2 (fX4_done ou 0) fun r13 ou13 =>
            if r13 = 0 then
              some (0, sF, sB, sp4, ou13, ro11)
            else
              some (1, sF, sB, sp4, ou13, ro11)
          else
            ob2 (fX4_done ou 1) fun r15 ou15 =>
            if r15 = 0 then
              some (0, sF, sB, sp4, ou15, ro11)
            else
              some (1, sF, sB, sp4, ou15, ro11)
      else
        ob2 (fX4_done ou 0) fun r8 ou8 =>
        if r8 = 0 then
          some (0, sF, sB, sp4, ou8, ro)
        else
          some (1, sF, sB, sp4, ou8, ro)
  else if (tx sp.toNatClampNeg) = 105 then
    ob2 (fX4_figures sz (sp + 1) tx 0 2 1 60) fun r24 sp24 =>
    if r24 = (-1) then
      some (0, sF, sB, sp24, ou, ro)
    else
      ob4 (fX4_runOn sF sB ro r24) fun r26 sF26 sB26 ro26 =>
      if r26 < 0 then
        ob2 (fX4_done ou 0) fun r28 ou28 =>
        if r28 = 0 then
          some (0, sF26, sB26, sp24, ou28, ro26)
        else
          some (1, sF26, sB26, sp24, ou28, ro26)
      else
        ob2 (fX4_done ou 1) fun r30 ou30 =>
        if r30 = 0 then
          some (0, sF26, sB26, sp24, ou30, ro26)
        else
          some (1, sF26, sB26, sp24, ou30, ro26)
  else if (tx sp.toNatClampNeg) = 112 then
    ob2 (fX4_figures sz (sp + 1) tx 0 1 0 2) fun r33 sp33 =>
    ob2 (fX4_figures sz sp33 tx r33 3 0 255) fun r34 sp34 =>
    ob2 (fX4_figures sz sp34 tx r34 2 1 99) fun r35 sp35 =>
    if r35 = (-1) then
      some (0, sF, sB, sp35, ou, ro)
    else
      ob (fX4_whyNotSpan r34 r35) fun r37 =>
      if r37 = 0 then
        ob2 (fX4_pinOn ro r33 r34 r35) fun r41 ro41 =>
        if r41 < 0 then
          ob2 (fX4_done ou 0) fun r43 ou43 =>
          if r43 = 0 then
            some (0, sF, sB, sp35, ou43, ro41)
          else
            some (1, sF, sB, sp35, ou43, ro41)
        else
          ob2 (fX4_done ou 1) fun r45 ou45 =>
          if r45 = 0 then
            some (0, sF, sB, sp35, ou45, ro41)
          else
            some (1, sF, sB, sp35, ou45, ro41)
      else
        ob2 (fX4_done ou 0) fun r39 ou39 =>
        if r39 = 0 then
          some (0, sF, sB, sp35, ou39, ro)
        else
          some (1, sF, sB, sp35, ou39, ro)
  else if (tx sp.toNatClampNeg) = 115 then
    ob2 (fX4_figures sz (sp + 1) tx 0 1 0 5) fun r48 sp48 =>
    ob2 (fX4_figures sz sp48 tx r48 2 0 99) fun r49 sp49 =>
    if r49 = (-1) then
      some (0, sF, sB, sp49, ou, ro)
    else
      ob (fX4_isSetting r48 r49) fun r51 =>
      if r51 = 0 then
        ob2 (fX4_done ou 0) fun r53 ou53 =>
        if r53 = 0 then
          some (0, sF, sB, sp49, ou53, ro)
        else
          some (1, sF, sB, sp49, ou53, ro)
      else
        ob2 (fX4_lay ro r48 r49) fun r55 ro55 =>
        if r55 < 0 then
          ob2 (fX4_done ou 0) fun r57 ou57 =>
          if r57 = 0 then
            some (0, sF, sB, sp49, ou57, ro55)
          else
            some (1, sF, sB, sp49, ou57, ro55)
        else
          ob2 (fX4_done ou 1) fun r59 ou59 =>
          if r59 = 0 then
            some (0, sF, sB, sp49, ou59, ro55)
          else
            some (1, sF, sB, sp49, ou59, ro55)
  else if (tx sp.toNatClampNeg) = 119 then
    ob2 (fX4_figures sz (sp + 1) tx 0 3 0 255) fun r62 sp62 =>
    ob2 (fX4_figures sz sp62 tx r62 2 1 99) fun r63 sp63 =>
    if r63 = (-1) then
      some (0, sF, sB, sp63, ou, ro)
    else
      ob (fX4_whyNotSpan r62 r63) fun r65 =>
      if r65 = 0 then
        if (tx sp.toNatClampNeg) = 119 then
          ob2 (fX4_writeOn ro r62 r63) fun r76 ro76 =>
          if r76 < 0 then
            ob2 (fX4_done ou 0) fun r78 ou78 =>
            if r78 = 0 then
              some (0, sF, sB, sp63, ou78, ro76)
            else
              some (1, sF, sB, sp63, ou78, ro76)
          else
            ob2 (fX4_done ou 1) fun r80 ou80 =>
            if r80 = 0 then
              some (0, sF, sB, sp63, ou80, ro76)
            else
              some (1, sF, sB, sp63, ou80, ro76)
        else
          ob2 (fX4_freeOn ro r62 r63) fun r70 ro70 =>
          if r70 < 0 then
            ob2 (fX4_done ou 0) fun r72 ou72 =>
            if r72 = 0 then
              some (0, sF, sB, sp63, ou72, ro70)
            else
              some (1, sF, sB, sp63, ou72, ro70)
          else
            ob2 (fX4_done ou 1) fun r74 ou74 =>
            if r74 = 0 then
              some (0, sF, sB, sp63, ou74, ro70)
            else
              some (1, sF, sB, sp63, ou74, ro70)
      else
        ob2 (fX4_done ou 0) fun r67 ou67 =>
        if r67 = 0 then
          some (0, sF, sB, sp63, ou67, ro)
        else
          some (1, sF, sB, sp63, ou67, ro)
  else some (0, sF, sB, ((sp + 1) - 1), ou, ro)
theorem mX4_readCommand_7 : Cond.fieldLink RX4 7 "IdleDiscardsModel" "text" "[I" ∈ wsX4_readCommand := by decide +kernel
theorem uX4_readCommand_X4 : ∀ w ∈ wsX40, w ∈ wsX4_readCommand := by decide +kernel
theorem mX4_readCommand_121 : Cond.fieldLink RX4 121 "IdleDiscardsModel" "spot" "I" ∈ wsX4_readCommand := by decide +kernel
set_option maxRecDepth 100000 in
set_option maxHeartbeats 4000000 in
theorem kX4_readCommand (l : Launch) (g : zG) (h0 h1 qr : Nat) (vn vt vd vk vi : Value) (rf : Int32) (sz : Int32) (ac : Int32) (sF : Int32) (sB : Int32) (sp : Int32) (ou : Int32) (tx : Nat → Int32) (ro : Nat → Int32) {r : Int32} {sF' : Int32} {sB' : Int32} {sp' : Int32} {ou' : Int32} {ro' : Nat → Int32} (h : fX4_readCommand sz sF sB sp ou tx ro = some (r, sF', sB', sp', ou', ro')) : Mw l g yX4_readCommand wsX4_readCommand { frames := 9, cells := 0, slots := 0, locals := 206 } [.ref h0, .ref qr] (zMR g h0 h1 qr vn vt vd vk vi rf sz ac sF sB sp ou tx ro) (zWi g (zMR g h0 h1 qr vn vt vd vk vi rf sz ac sF' sB' sp' ou' tx ro') r) := by
  refine zw_in (cc := cX4_readCommand) (maxL := 6) (ret := (some .boolean)) (by decide) rfl (Nat.le_of_ble_eq_true rfl) ?_
  intro p e s m below meth c hx hb hr hml hts hown hlocks hK A hA hP hD hS ls hl
  replace hl : lv_has ls 6 [(0, .ref h0), (1, .ref qr)] := hl
  unfold fX4_readCommand at h
  refine lv_aload_n hx hb dX4_readCommand_0 rfl (lv_at hl 0 rfl) ?_
  refine va_get (ci := 4) (v := .ref h1) (C := RX4) (T := TX4) (N := 13) hx hb hts uX4_readCommand_X4 hown hK hP 0 rfl rfl 1 (by decide) (hts _ mX4_readCommand_7) (fun _ h9 => h9) rfl dX4_readCommand_1 ?_
  refine lv_aload_n hx hb dX4_readCommand_4 rfl (lv_at hl 0 rfl) ?_
  refine va_get (ci := 4) (v := .int sp) (C := RX4) (T := TX4) (N := 13) hx hb hts uX4_readCommand_X4 hown hK hP 0 rfl rfl 11 (by decide) (hts _ mX4_readCommand_121) (fun _ h9 => h9) rfl dX4_readCommand_5 ?_
  obtain ⟨i1, h⟩ := zi h
  refine za_ild hx hb hK hP 1 rfl _ rfl i1 dX4_readCommand_8 ?_
  refine lv_istore_n (lv' := [(2, .int (tx sp.toNatClampNeg)), (0, .ref h0), (1, .ref qr)]) hx hb dX4_readCommand_9 rfl hl (by decide) rfl (fun ls hl => ?_)
  refine lv_aload_n hx hb dX4_readCommand_10 rfl (lv_at hl 1 rfl) ?_
  refine lv_dup hx hb dX4_readCommand_11 rfl ?_
  refine va_get (ci := 4) (v := .int sp) (C := RX4) (T := TX4) (N := 13) hx hb hts uX4_readCommand_X4 hown hK hP 0 rfl rfl 11 (by decide) (hts _ mX4_readCommand_121) (fun _ h9 => h9) rfl dX4_readCommand_12 ?_
  refine lv_iconst (v := 1) hx hb dX4_readCommand_15 (by decide) ?_
  refine lv_iadd hx hb dX4_readCommand_16 ?_
  refine va_put (ci := 4) (v := .int (sp + 1)) (ty := .int) (C := RX4) (T := TX4) (N := 13) hx hb hts uX4_readCommand_X4 tyX4 tyX4_ok nmX4 hown hK hP hD hS 0 rfl rfl 11 (by decide) (hts _ mX4_readCommand_121) (fun _ h9 => h9) rfl (by decide +kernel) rfl rfl (Nat.le_of_ble_eq_true rfl) dX4_readCommand_17 (fun H locs hP hD hS => ?_)
  replace hP : zP g (zMR g h0 h1 qr vn vt vd vk vi rf sz ac sF sB (sp + 1) ou tx ro) H := hP
  replace hD : va_D A (zMR g h0 h1 qr vn vt vd vk vi rf sz ac sF sB (sp + 1) ou tx ro) := hD
  refine lv_iload_n hx hb dX4_readCommand_20 rfl (lv_at hl 0 rfl) ?_
  by_cases c2 : (tx sp.toNatClampNeg) = 102
  · replace h := zt c2 h
    refine lv_lookup (tgt := 72) (off := 51) hx hb dX4_readCommand_21 (by decide) (by rw [c2]; decide) (by decide) ?_
    refine lv_aload_n hx hb dX4_readCommand_72 rfl (lv_at hl 1 rfl) ?_
    refine lv_iconst (v := 0) hx hb dX4_readCommand_73 (by decide) ?_
    refine lv_iconst (v := 3) hx hb dX4_readCommand_74 (by decide) ?_
    refine lv_iconst (v := 0) hx hb dX4_readCommand_75 (by decide) ?_
    refine lv_sipush (v := 255) hx hb dX4_readCommand_76 (by decide) ?_
    obtain ⟨r3, sp3, e3, h⟩ := zb2 h
    refine zVw (As := [.int 0, .int 3, .int 0, .int 255]) (rest := []) (zWi_q g _ _) ⟨hx, hb, hml, hown, hts⟩ (kX4_figures l g h0 h1 vn vt vd vk vi rf sz ac sF sB (sp + 1) ou tx 0 3 0 255 e3) (cwV 4 hts gX4_readCommand_X4_figures rfl rfl rfl hdV_X4_figures ⟨Nat.le_of_ble_eq_true rfl, Nat.le_of_ble_eq_true rfl⟩) hK hP hD hS hA [0, 1] (by decide) rfl rfl 0 rfl rfl rfl hl.1 rfl (Nat.le_of_ble_eq_true rfl) ⟨Nat.zero_le _, Nat.zero_le _⟩ dX4_readCommand_79 (fun H locs hP hD hS => ?_)
    replace hP : zP g (zMR g h0 h1 qr vn vt vd vk vi rf sz ac sF sB sp3 ou tx ro) H := hP
    replace hD : va_D A (zMR g h0 h1 qr vn vt vd vk vi rf sz ac sF sB sp3 ou tx ro) := hD
    refine lv_istore_n (lv' := [(3, .int r3), (2, .int (tx sp.toNatClampNeg)), (0, .ref h0), (1, .ref qr)]) hx hb dX4_readCommand_82 rfl hl (by decide) rfl (fun ls hl => ?_)
    refine lv_aload_n hx hb dX4_readCommand_83 rfl (lv_at hl 2 rfl) ?_
    refine lv_iload_n hx hb dX4_readCommand_84 rfl (lv_at hl 0 rfl) ?_
    refine lv_iconst (v := 2) hx hb dX4_readCommand_85 (by decide) ?_
    refine lv_iconst (v := 1) hx hb dX4_readCommand_86 (by decide) ?_
    refine lv_bipush (v := 99) hx hb dX4_readCommand_87 (by decide) ?_
    obtain ⟨r4, sp4, e4, h⟩ := zb2 h
    refine zVw (As := [.int r3, .int 2, .int 1, .int 99]) (rest := []) (zWi_q g _ _) ⟨hx, hb, hml, hown, hts⟩ (kX4_figures l g h0 h1 vn vt vd vk vi rf sz ac sF sB sp3 ou tx r3 2 1 99 e4) (cwV 4 hts gX4_readCommand_X4_figures rfl rfl rfl hdV_X4_figures ⟨Nat.le_of_ble_eq_true rfl, Nat.le_of_ble_eq_true rfl⟩) hK hP hD hS hA [0, 1] (by decide) rfl rfl 0 rfl rfl rfl hl.1 rfl (Nat.le_of_ble_eq_true rfl) ⟨Nat.zero_le _, Nat.zero_le _⟩ dX4_readCommand_89 (fun H locs hP hD hS => ?_)
    replace hP : zP g (zMR g h0 h1 qr vn vt vd vk vi rf sz ac sF sB sp4 ou tx ro) H := hP
    replace hD : va_D A (zMR g h0 h1 qr vn vt vd vk vi rf sz ac sF sB sp4 ou tx ro) := hD
    refine lv_istore (lv' := [(4, .int r4), (3, .int r3), (2, .int (tx sp.toNatClampNeg)), (0, .ref h0), (1, .ref qr)]) hx hb dX4_readCommand_92 hl (by decide) rfl (fun ls hl => ?_)
    refine lv_iload hx hb dX4_readCommand_94 (lv_at hl 0 rfl) ?_
    refine lv_iconst (v := (-1)) hx hb dX4_readCommand_96 (by decide) ?_
    refine lv_icmp_eq (tgt := 151) hx hb dX4_readCommand_97 (by decide) (fun c5 => ?_) (fun c5 => ?_)
    · replace h := zt c5 h
      refine lv_iconst (v := 0) hx hb dX4_readCommand_151 (by decide) ?_
      cases h
      exact zw_z hx hb hr hlocks (by decide) hP hS dX4_readCommand_152
    · replace h := zf c5 h
      refine lv_aload_n hx hb dX4_readCommand_100 rfl (lv_at hl 3 rfl) ?_
      refine lv_iload_n hx hb dX4_readCommand_101 rfl (lv_at hl 1 rfl) ?_
      refine lv_iload hx hb dX4_readCommand_102 (lv_at hl 0 rfl) ?_
      obtain ⟨r6, e6, h⟩ := zb h
      refine zS (As := [.int r3, .int r4]) (rest := [.ref h0]) (zQi_q _) ⟨hx, hb, hml, hown, hts⟩ (kX4_whyNotSpan l g r3 r4 e6) (va_cwS 2 hts gX4_readCommand_X4_whyNotSpan rfl rfl rfl hdS_X4_whyNotSpan ⟨Nat.le_of_ble_eq_true rfl, Nat.le_of_ble_eq_true rfl⟩) hK hP [] rfl rfl hl.1 rfl (Nat.le_of_ble_eq_true rfl) ⟨Nat.zero_le _, Nat.zero_le _⟩ dX4_readCommand_104 ?_
      refine lv_if_ne (tgt := 140) hx hb dX4_readCommand_107 (by decide) (fun c7 => ?_) (fun c7 => ?_)
      · replace h := zf c7 h
        refine lv_iconst (v := 0) hx hb dX4_readCommand_140 (by decide) ?_
        obtain ⟨r8, ou8, e8, h⟩ := zb2 h
        refine zVw (As := [.int 0]) (rest := []) (zWi_q g _ _) ⟨hx, hb, hml, hown, hts⟩ (kX4_done l g h0 h1 vn vt vd vk vi rf sz ac sF sB sp4 ou tx 0 e8) (cwV 1 hts gX4_readCommand_X4_done rfl rfl rfl hdV_X4_done ⟨Nat.le_of_ble_eq_true rfl, Nat.le_of_ble_eq_true rfl⟩) hK hP hD hS hA [0, 1] (by decide) rfl rfl 0 rfl rfl rfl hl.1 rfl (Nat.le_of_ble_eq_true rfl) ⟨Nat.zero_le _, Nat.zero_le _⟩ dX4_readCommand_141 (fun H locs hP hD hS => ?_)
        replace hP : zP g (zMR g h0 h1 qr vn vt vd vk vi rf sz ac sF sB sp4 ou8 tx ro) H := hP
        replace hD : va_D A (zMR g h0 h1 qr vn vt vd vk vi rf sz ac sF sB sp4 ou8 tx ro) := hD
        refine lv_if_eq (tgt := 151) hx hb dX4_readCommand_144 (by decide) (fun c9 => ?_) (fun c9 => ?_)
        · replace h := zt c9 h
          refine lv_iconst (v := 0) hx hb dX4_readCommand_151 (by decide) ?_
          cases h
          exact zw_z hx hb hr hlocks (by decide) hP hS dX4_readCommand_152
        · replace h := zf c9 h
          refine lv_iconst (v := 1) hx hb dX4_readCommand_147 (by decide) ?_
          refine lv_goto (tgt := 152) hx hb dX4_readCommand_148 (by decide) ?_
          cases h
          exact zw_z hx hb hr hlocks (by decide) hP hS dX4_readCommand_152
      · replace h := zt c7 h
        refine lv_iload_n hx hb dX4_readCommand_110 rfl (lv_at hl 2 rfl) ?_
        refine lv_bipush (v := 119) hx hb dX4_readCommand_111 (by decide) ?_
        refine lv_icmp_ne (tgt := 126) hx hb dX4_readCommand_113 (by decide) (fun c10 => ?_) (fun c10 => ?_)
        · replace h := zf c10 h
          refine lv_aload_n hx hb dX4_readCommand_126 rfl (lv_at hl 4 rfl) ?_
          refine lv_iload_n hx hb dX4_readCommand_127 rfl (lv_at hl 1 rfl) ?_
          refine lv_iload hx hb dX4_readCommand_128 (lv_at hl 0 rfl) ?_
          obtain ⟨r11, ro11, e11, h⟩ := zb2 h
          refine zSw (As := [.ref qr, .int r3, .int r4]) (rest := [.ref h0]) (zWi_q g _ _) ⟨hx, hb, hml, hown, hts⟩ (kX4_freeOn l g qr ro r3 r4 e11) (va_cwS 3 hts gX4_readCommand_X4_freeOn rfl rfl rfl hdS_X4_freeOn ⟨Nat.le_of_ble_eq_true rfl, Nat.le_of_ble_eq_true rfl⟩) hK hP hD hS hA [2] (by decide) rfl rfl rfl hl.1 rfl (Nat.le_of_ble_eq_true rfl) ⟨Nat.zero_le _, Nat.zero_le _⟩ dX4_readCommand_130 (fun H locs hP hD hS => ?_)
          replace hP : zP g (zMR g h0 h1 qr vn vt vd vk vi rf sz ac sF sB sp4 ou tx ro11) H := hP
          replace hD : va_D A (zMR g h0 h1 qr vn vt vd vk vi rf sz ac sF sB sp4 ou tx ro11) := hD
          refine lv_if_lt (tgt := 140) hx hb dX4_readCommand_133 (by decide) (fun c12 => ?_) (fun c12 => ?_)
          · replace h := zt c12 h
            refine lv_iconst (v := 0) hx hb dX4_readCommand_140 (by decide) ?_
            obtain ⟨r13, ou13, e13, h⟩ := zb2 h
            refine zVw (As := [.int 0]) (rest := []) (zWi_q g _ _) ⟨hx, hb, hml, hown, hts⟩ (kX4_done l g h0 h1 vn vt vd vk vi rf sz ac sF sB sp4 ou tx 0 e13) (cwV 1 hts gX4_readCommand_X4_done rfl rfl rfl hdV_X4_done ⟨Nat.le_of_ble_eq_true rfl, Nat.le_of_ble_eq_true rfl⟩) hK hP hD hS hA [0, 1] (by decide) rfl rfl 0 rfl rfl rfl hl.1 rfl (Nat.le_of_ble_eq_true rfl) ⟨Nat.zero_le _, Nat.zero_le _⟩ dX4_readCommand_141 (fun H locs hP hD hS => ?_)
            replace hP : zP g (zMR g h0 h1 qr vn vt vd vk vi rf sz ac sF sB sp4 ou13 tx ro11) H := hP
            replace hD : va_D A (zMR g h0 h1 qr vn vt vd vk vi rf sz ac sF sB sp4 ou13 tx ro11) := hD
            refine lv_if_eq (tgt := 151) hx hb dX4_readCommand_144 (by decide) (fun c14 => ?_) (fun c14 => ?_)
            · replace h := zt c14 h
              refine lv_iconst (v := 0) hx hb dX4_readCommand_151 (by decide) ?_
              cases h
              exact zw_z hx hb hr hlocks (by decide) hP hS dX4_readCommand_152
            · replace h := zf c14 h
              refine lv_iconst (v := 1) hx hb dX4_readCommand_147 (by decide) ?_
              refine lv_goto (tgt := 152) hx hb dX4_readCommand_148 (by decide) ?_
              cases h
              exact zw_z hx hb hr hlocks (by decide) hP hS dX4_readCommand_152
          · replace h := zf c12 h
            refine lv_iconst (v := 1) hx hb dX4_readCommand_136 (by decide) ?_
            refine lv_goto (tgt := 141) hx hb dX4_readCommand_137 (by decide) ?_
            obtain ⟨r15, ou15, e15, h⟩ := zb2 h
            refine zVw (As := [.int 1]) (rest := []) (zWi_q g _ _) ⟨hx, hb, hml, hown, hts⟩ (kX4_done l g h0 h1 vn vt vd vk vi rf sz ac sF sB sp4 ou tx 1 e15) (cwV 1 hts gX4_readCommand_X4_done rfl rfl rfl hdV_X4_done ⟨Nat.le_of_ble_eq_true rfl, Nat.le_of_ble_eq_true rfl⟩) hK hP hD hS hA [0, 1] (by decide) rfl rfl 0 rfl rfl rfl hl.1 rfl (Nat.le_of_ble_eq_true rfl) ⟨Nat.zero_le _, Nat.zero_le _⟩ dX4_readCommand_141 (fun H locs hP hD hS => ?_)
            replace hP : zP g (zMR g h0 h1 qr vn vt vd vk vi rf sz ac sF sB sp4 ou15 tx ro11) H := hP
            replace hD : va_D A (zMR g h0 h1 qr vn vt vd vk vi rf sz ac sF sB sp4 ou15 tx ro11) := hD
            refine lv_if_eq (tgt := 151) hx hb dX4_readCommand_144 (by decide) (fun c16 => ?_) (fun c16 => ?_)
            · replace h := zt c16 h
              refine lv_iconst (v := 0) hx hb dX4_readCommand_151 (by decide) ?_
              cases h
              exact zw_z hx hb hr hlocks (by decide) hP hS dX4_readCommand_152
            · replace h := zf c16 h
              refine lv_iconst (v := 1) hx hb dX4_readCommand_147 (by decide) ?_
              refine lv_goto (tgt := 152) hx hb dX4_readCommand_148 (by decide) ?_
              cases h
              exact zw_z hx hb hr hlocks (by decide) hP hS dX4_readCommand_152
        · replace h := zt c10 h
          refine lv_aload_n hx hb dX4_readCommand_116 rfl (lv_at hl 4 rfl) ?_
          refine lv_iload_n hx hb dX4_readCommand_117 rfl (lv_at hl 1 rfl) ?_
          refine lv_iload hx hb dX4_readCommand_118 (lv_at hl 0 rfl) ?_
          obtain ⟨r17, ro17, e17, h⟩ := zb2 h
          refine zSw (As := [.ref qr, .int r3, .int r4]) (rest := [.ref h0]) (zWi_q g _ _) ⟨hx, hb, hml, hown, hts⟩ (kX4_writeOn l g qr ro r3 r4 e17) (va_cwS 3 hts gX4_readCommand_X4_writeOn rfl rfl rfl hdS_X4_writeOn ⟨Nat.le_of_ble_eq_true rfl, Nat.le_of_ble_eq_true rfl⟩) hK hP hD hS hA [2] (by decide) rfl rfl rfl hl.1 rfl (Nat.le_of_ble_eq_true rfl) ⟨Nat.zero_le _, Nat.zero_le _⟩ dX4_readCommand_120 (fun H locs hP hD hS => ?_)
          replace hP : zP g (zMR g h0 h1 qr vn vt vd vk vi rf sz ac sF sB sp4 ou tx ro17) H := hP
          replace hD : va_D A (zMR g h0 h1 qr vn vt vd vk vi rf sz ac sF sB sp4 ou tx ro17) := hD
          refine lv_goto (tgt := 133) hx hb dX4_readCommand_123 (by decide) ?_
          refine lv_if_lt (tgt := 140) hx hb dX4_readCommand_133 (by decide) (fun c18 => ?_) (fun c18 => ?_)
          · replace h := zt c18 h
            refine lv_iconst (v := 0) hx hb dX4_readCommand_140 (by decide) ?_
            obtain ⟨r19, ou19, e19, h⟩ := zb2 h
            refine zVw (As := [.int 0]) (rest := []) (zWi_q g _ _) ⟨hx, hb, hml, hown, hts⟩ (kX4_done l g h0 h1 vn vt vd vk vi rf sz ac sF sB sp4 ou tx 0 e19) (cwV 1 hts gX4_readCommand_X4_done rfl rfl rfl hdV_X4_done ⟨Nat.le_of_ble_eq_true rfl, Nat.le_of_ble_eq_true rfl⟩) hK hP hD hS hA [0, 1] (by decide) rfl rfl 0 rfl rfl rfl hl.1 rfl (Nat.le_of_ble_eq_true rfl) ⟨Nat.zero_le _, Nat.zero_le _⟩ dX4_readCommand_141 (fun H locs hP hD hS => ?_)
            replace hP : zP g (zMR g h0 h1 qr vn vt vd vk vi rf sz ac sF sB sp4 ou19 tx ro17) H := hP
            replace hD : va_D A (zMR g h0 h1 qr vn vt vd vk vi rf sz ac sF sB sp4 ou19 tx ro17) := hD
            refine lv_if_eq (tgt := 151) hx hb dX4_readCommand_144 (by decide) (fun c20 => ?_) (fun c20 => ?_)
            · replace h := zt c20 h
              refine lv_iconst (v := 0) hx hb dX4_readCommand_151 (by decide) ?_
              cases h
              exact zw_z hx hb hr hlocks (by decide) hP hS dX4_readCommand_152
            · replace h := zf c20 h
              refine lv_iconst (v := 1) hx hb dX4_readCommand_147 (by decide) ?_
              refine lv_goto (tgt := 152) hx hb dX4_readCommand_148 (by decide) ?_
              cases h
              exact zw_z hx hb hr hlocks (by decide) hP hS dX4_readCommand_152
          · replace h := zf c18 h
            refine lv_iconst (v := 1) hx hb dX4_readCommand_136 (by decide) ?_
            refine lv_goto (tgt := 141) hx hb dX4_readCommand_137 (by decide) ?_
            obtain ⟨r21, ou21, e21, h⟩ := zb2 h
            refine zVw (As := [.int 1]) (rest := []) (zWi_q g _ _) ⟨hx, hb, hml, hown, hts⟩ (kX4_done l g h0 h1 vn vt vd vk vi rf sz ac sF sB sp4 ou tx 1 e21) (cwV 1 hts gX4_readCommand_X4_done rfl rfl rfl hdV_X4_done ⟨Nat.le_of_ble_eq_true rfl, Nat.le_of_ble_eq_true rfl⟩) hK hP hD hS hA [0, 1] (by decide) rfl rfl 0 rfl rfl rfl hl.1 rfl (Nat.le_of_ble_eq_true rfl) ⟨Nat.zero_le _, Nat.zero_le _⟩ dX4_readCommand_141 (fun H locs hP hD hS => ?_)
            replace hP : zP g (zMR g h0 h1 qr vn vt vd vk vi rf sz ac sF sB sp4 ou21 tx ro17) H := hP
            replace hD : va_D A (zMR g h0 h1 qr vn vt vd vk vi rf sz ac sF sB sp4 ou21 tx ro17) := hD
            refine lv_if_eq (tgt := 151) hx hb dX4_readCommand_144 (by decide) (fun c22 => ?_) (fun c22 => ?_)
            · replace h := zt c22 h
              refine lv_iconst (v := 0) hx hb dX4_readCommand_151 (by decide) ?_
              cases h
              exact zw_z hx hb hr hlocks (by decide) hP hS dX4_readCommand_152
            · replace h := zf c22 h
              refine lv_iconst (v := 1) hx hb dX4_readCommand_147 (by decide) ?_
              refine lv_goto (tgt := 152) hx hb dX4_readCommand_148 (by decide) ?_
              cases h
              exact zw_z hx hb hr hlocks (by decide) hP hS dX4_readCommand_152
  replace h := zf c2 h
  by_cases c23 : (tx sp.toNatClampNeg) = 105
  · replace h := zt c23 h
    refine lv_lookup (tgt := 153) (off := 132) hx hb dX4_readCommand_21 (by decide) (by rw [c23]; decide) (by decide) ?_
    refine lv_aload_n hx hb dX4_readCommand_153 rfl (lv_at hl 1 rfl) ?_
    refine lv_iconst (v := 0) hx hb dX4_readCommand_154 (by decide) ?_
    refine lv_iconst (v := 2) hx hb dX4_readCommand_155 (by decide) ?_
    refine lv_iconst (v := 1) hx hb dX4_readCommand_156 (by decide) ?_
    refine lv_bipush (v := 60) hx hb dX4_readCommand_157 (by decide) ?_
    obtain ⟨r24, sp24, e24, h⟩ := zb2 h
    refine zVw (As := [.int 0, .int 2, .int 1, .int 60]) (rest := []) (zWi_q g _ _) ⟨hx, hb, hml, hown, hts⟩ (kX4_figures l g h0 h1 vn vt vd vk vi rf sz ac sF sB (sp + 1) ou tx 0 2 1 60 e24) (cwV 4 hts gX4_readCommand_X4_figures rfl rfl rfl hdV_X4_figures ⟨Nat.le_of_ble_eq_true rfl, Nat.le_of_ble_eq_true rfl⟩) hK hP hD hS hA [0, 1] (by decide) rfl rfl 0 rfl rfl rfl hl.1 rfl (Nat.le_of_ble_eq_true rfl) ⟨Nat.zero_le _, Nat.zero_le _⟩ dX4_readCommand_159 (fun H locs hP hD hS => ?_)
    replace hP : zP g (zMR g h0 h1 qr vn vt vd vk vi rf sz ac sF sB sp24 ou tx ro) H := hP
    replace hD : va_D A (zMR g h0 h1 qr vn vt vd vk vi rf sz ac sF sB sp24 ou tx ro) := hD
    refine lv_istore_n (lv' := [(3, .int r24), (2, .int (tx sp.toNatClampNeg)), (0, .ref h0), (1, .ref qr)]) hx hb dX4_readCommand_162 rfl hl (by decide) rfl (fun ls hl => ?_)
    refine lv_iload_n hx hb dX4_readCommand_163 rfl (lv_at hl 0 rfl) ?_
    refine lv_iconst (v := (-1)) hx hb dX4_readCommand_164 (by decide) ?_
    refine lv_icmp_eq (tgt := 193) hx hb dX4_readCommand_165 (by decide) (fun c25 => ?_) (fun c25 => ?_)
    · replace h := zt c25 h
      refine lv_iconst (v := 0) hx hb dX4_readCommand_193 (by decide) ?_
      cases h
      exact zw_z hx hb hr hlocks (by decide) hP hS dX4_readCommand_194
    · replace h := zf c25 h
      refine lv_aload_n hx hb dX4_readCommand_168 rfl (lv_at hl 2 rfl) ?_
      refine lv_aload_n hx hb dX4_readCommand_169 rfl (lv_at hl 2 rfl) ?_
      refine lv_aload_n hx hb dX4_readCommand_170 rfl (lv_at hl 3 rfl) ?_
      refine lv_iload_n hx hb dX4_readCommand_171 rfl (lv_at hl 0 rfl) ?_
      obtain ⟨r26, sF26, sB26, ro26, e26, h⟩ := zb4 h
      refine zVw (As := [.ref qr, .int r24]) (rest := [.ref h0]) (zWi_q g _ _) ⟨hx, hb, hml, hown, hts⟩ (kX4_runOn l g h0 h1 qr vn vt vd vk vi rf sz ac sF sB sp24 ou tx ro r24 e26) (cwV 2 hts gX4_readCommand_X4_runOn rfl rfl rfl hdV_X4_runOn ⟨Nat.le_of_ble_eq_true rfl, Nat.le_of_ble_eq_true rfl⟩) hK hP hD hS hA [0, 1, 2] (by decide) rfl rfl 0 rfl rfl rfl hl.1 rfl (Nat.le_of_ble_eq_true rfl) ⟨Nat.zero_le _, Nat.zero_le _⟩ dX4_readCommand_172 (fun H locs hP hD hS => ?_)
      replace hP : zP g (zMR g h0 h1 qr vn vt vd vk vi rf sz ac sF26 sB26 sp24 ou tx ro26) H := hP
      replace hD : va_D A (zMR g h0 h1 qr vn vt vd vk vi rf sz ac sF26 sB26 sp24 ou tx ro26) := hD
      refine lv_if_lt (tgt := 182) hx hb dX4_readCommand_175 (by decide) (fun c27 => ?_) (fun c27 => ?_)
      · replace h := zt c27 h
        refine lv_iconst (v := 0) hx hb dX4_readCommand_182 (by decide) ?_
        obtain ⟨r28, ou28, e28, h⟩ := zb2 h
        refine zVw (As := [.int 0]) (rest := []) (zWi_q g _ _) ⟨hx, hb, hml, hown, hts⟩ (kX4_done l g h0 h1 vn vt vd vk vi rf sz ac sF26 sB26 sp24 ou tx 0 e28) (cwV 1 hts gX4_readCommand_X4_done rfl rfl rfl hdV_X4_done ⟨Nat.le_of_ble_eq_true rfl, Nat.le_of_ble_eq_true rfl⟩) hK hP hD hS hA [0, 1] (by decide) rfl rfl 0 rfl rfl rfl hl.1 rfl (Nat.le_of_ble_eq_true rfl) ⟨Nat.zero_le _, Nat.zero_le _⟩ dX4_readCommand_183 (fun H locs hP hD hS => ?_)
        replace hP : zP g (zMR g h0 h1 qr vn vt vd vk vi rf sz ac sF26 sB26 sp24 ou28 tx ro26) H := hP
        replace hD : va_D A (zMR g h0 h1 qr vn vt vd vk vi rf sz ac sF26 sB26 sp24 ou28 tx ro26) := hD
        refine lv_if_eq (tgt := 193) hx hb dX4_readCommand_186 (by decide) (fun c29 => ?_) (fun c29 => ?_)
        · replace h := zt c29 h
          refine lv_iconst (v := 0) hx hb dX4_readCommand_193 (by decide) ?_
          cases h
          exact zw_z hx hb hr hlocks (by decide) hP hS dX4_readCommand_194
        · replace h := zf c29 h
          refine lv_iconst (v := 1) hx hb dX4_readCommand_189 (by decide) ?_
          refine lv_goto (tgt := 194) hx hb dX4_readCommand_190 (by decide) ?_
          cases h
          exact zw_z hx hb hr hlocks (by decide) hP hS dX4_readCommand_194
      · replace h := zf c27 h
        refine lv_iconst (v := 1) hx hb dX4_readCommand_178 (by decide) ?_
        refine lv_goto (tgt := 183) hx hb dX4_readCommand_179 (by decide) ?_
        obtain ⟨r30, ou30, e30, h⟩ := zb2 h
        refine zVw (As := [.int 1]) (rest := []) (zWi_q g _ _) ⟨hx, hb, hml, hown, hts⟩ (kX4_done l g h0 h1 vn vt vd vk vi rf sz ac sF26 sB26 sp24 ou tx 1 e30) (cwV 1 hts gX4_readCommand_X4_done rfl rfl rfl hdV_X4_done ⟨Nat.le_of_ble_eq_true rfl, Nat.le_of_ble_eq_true rfl⟩) hK hP hD hS hA [0, 1] (by decide) rfl rfl 0 rfl rfl rfl hl.1 rfl (Nat.le_of_ble_eq_true rfl) ⟨Nat.zero_le _, Nat.zero_le _⟩ dX4_readCommand_183 (fun H locs hP hD hS => ?_)
        replace hP : zP g (zMR g h0 h1 qr vn vt vd vk vi rf sz ac sF26 sB26 sp24 ou30 tx ro26) H := hP
        replace hD : va_D A (zMR g h0 h1 qr vn vt vd vk vi rf sz ac sF26 sB26 sp24 ou30 tx ro26) := hD
        refine lv_if_eq (tgt := 193) hx hb dX4_readCommand_186 (by decide) (fun c31 => ?_) (fun c31 => ?_)
        · replace h := zt c31 h
          refine lv_iconst (v := 0) hx hb dX4_readCommand_193 (by decide) ?_
          cases h
          exact zw_z hx hb hr hlocks (by decide) hP hS dX4_readCommand_194
        · replace h := zf c31 h
          refine lv_iconst (v := 1) hx hb dX4_readCommand_189 (by decide) ?_
          refine lv_goto (tgt := 194) hx hb dX4_readCommand_190 (by decide) ?_
          cases h
          exact zw_z hx hb hr hlocks (by decide) hP hS dX4_readCommand_194
  replace h := zf c23 h
  by_cases c32 : (tx sp.toNatClampNeg) = 112
  · replace h := zt c32 h
    refine lv_lookup (tgt := 195) (off := 174) hx hb dX4_readCommand_21 (by decide) (by rw [c32]; decide) (by decide) ?_
    refine lv_aload_n hx hb dX4_readCommand_195 rfl (lv_at hl 1 rfl) ?_
    refine lv_iconst (v := 0) hx hb dX4_readCommand_196 (by decide) ?_
    refine lv_iconst (v := 1) hx hb dX4_readCommand_197 (by decide) ?_
    refine lv_iconst (v := 0) hx hb dX4_readCommand_198 (by decide) ?_
    refine lv_iconst (v := 2) hx hb dX4_readCommand_199 (by decide) ?_
    obtain ⟨r33, sp33, e33, h⟩ := zb2 h
    refine zVw (As := [.int 0, .int 1, .int 0, .int 2]) (rest := []) (zWi_q g _ _) ⟨hx, hb, hml, hown, hts⟩ (kX4_figures l g h0 h1 vn vt vd vk vi rf sz ac sF sB (sp + 1) ou tx 0 1 0 2 e33) (cwV 4 hts gX4_readCommand_X4_figures rfl rfl rfl hdV_X4_figures ⟨Nat.le_of_ble_eq_true rfl, Nat.le_of_ble_eq_true rfl⟩) hK hP hD hS hA [0, 1] (by decide) rfl rfl 0 rfl rfl rfl hl.1 rfl (Nat.le_of_ble_eq_true rfl) ⟨Nat.zero_le _, Nat.zero_le _⟩ dX4_readCommand_200 (fun H locs hP hD hS => ?_)
    replace hP : zP g (zMR g h0 h1 qr vn vt vd vk vi rf sz ac sF sB sp33 ou tx ro) H := hP
    replace hD : va_D A (zMR g h0 h1 qr vn vt vd vk vi rf sz ac sF sB sp33 ou tx ro) := hD
    refine lv_istore_n (lv' := [(3, .int r33), (2, .int (tx sp.toNatClampNeg)), (0, .ref h0), (1, .ref qr)]) hx hb dX4_readCommand_203 rfl hl (by decide) rfl (fun ls hl => ?_)
    refine lv_aload_n hx hb dX4_readCommand_204 rfl (lv_at hl 2 rfl) ?_
    refine lv_iload_n hx hb dX4_readCommand_205 rfl (lv_at hl 0 rfl) ?_
    refine lv_iconst (v := 3) hx hb dX4_readCommand_206 (by decide) ?_
    refine lv_iconst (v := 0) hx hb dX4_readCommand_207 (by decide) ?_
    refine lv_sipush (v := 255) hx hb dX4_readCommand_208 (by decide) ?_
    obtain ⟨r34, sp34, e34, h⟩ := zb2 h
    refine zVw (As := [.int r33, .int 3, .int 0, .int 255]) (rest := []) (zWi_q g _ _) ⟨hx, hb, hml, hown, hts⟩ (kX4_figures l g h0 h1 vn vt vd vk vi rf sz ac sF sB sp33 ou tx r33 3 0 255 e34) (cwV 4 hts gX4_readCommand_X4_figures rfl rfl rfl hdV_X4_figures ⟨Nat.le_of_ble_eq_true rfl, Nat.le_of_ble_eq_true rfl⟩) hK hP hD hS hA [0, 1] (by decide) rfl rfl 0 rfl rfl rfl hl.1 rfl (Nat.le_of_ble_eq_true rfl) ⟨Nat.zero_le _, Nat.zero_le _⟩ dX4_readCommand_211 (fun H locs hP hD hS => ?_)
    replace hP : zP g (zMR g h0 h1 qr vn vt vd vk vi rf sz ac sF sB sp34 ou tx ro) H := hP
    replace hD : va_D A (zMR g h0 h1 qr vn vt vd vk vi rf sz ac sF sB sp34 ou tx ro) := hD
    refine lv_istore (lv' := [(4, .int r34), (3, .int r33), (2, .int (tx sp.toNatClampNeg)), (0, .ref h0), (1, .ref qr)]) hx hb dX4_readCommand_214 hl (by decide) rfl (fun ls hl => ?_)
    refine lv_aload_n hx hb dX4_readCommand_216 rfl (lv_at hl 3 rfl) ?_
    refine lv_iload hx hb dX4_readCommand_217 (lv_at hl 0 rfl) ?_
    refine lv_iconst (v := 2) hx hb dX4_readCommand_219 (by decide) ?_
    refine lv_iconst (v := 1) hx hb dX4_readCommand_220 (by decide) ?_
    refine lv_bipush (v := 99) hx hb dX4_readCommand_221 (by decide) ?_
    obtain ⟨r35, sp35, e35, h⟩ := zb2 h
    refine zVw (As := [.int r34, .int 2, .int 1, .int 99]) (rest := []) (zWi_q g _ _) ⟨hx, hb, hml, hown, hts⟩ (kX4_figures l g h0 h1 vn vt vd vk vi rf sz ac sF sB sp34 ou tx r34 2 1 99 e35) (cwV 4 hts gX4_readCommand_X4_figures rfl rfl rfl hdV_X4_figures ⟨Nat.le_of_ble_eq_true rfl, Nat.le_of_ble_eq_true rfl⟩) hK hP hD hS hA [0, 1] (by decide) rfl rfl 0 rfl rfl rfl hl.1 rfl (Nat.le_of_ble_eq_true rfl) ⟨Nat.zero_le _, Nat.zero_le _⟩ dX4_readCommand_223 (fun H locs hP hD hS => ?_)
    replace hP : zP g (zMR g h0 h1 qr vn vt vd vk vi rf sz ac sF sB sp35 ou tx ro) H := hP
    replace hD : va_D A (zMR g h0 h1 qr vn vt vd vk vi rf sz ac sF sB sp35 ou tx ro) := hD
    refine lv_istore (lv' := [(5, .int r35), (4, .int r34), (3, .int r33), (2, .int (tx sp.toNatClampNeg)), (0, .ref h0), (1, .ref qr)]) hx hb dX4_readCommand_226 hl (by decide) rfl (fun ls hl => ?_)
    refine lv_iload hx hb dX4_readCommand_228 (lv_at hl 0 rfl) ?_
    refine lv_iconst (v := (-1)) hx hb dX4_readCommand_230 (by decide) ?_
    refine lv_icmp_eq (tgt := 272) hx hb dX4_readCommand_231 (by decide) (fun c36 => ?_) (fun c36 => ?_)
    · replace h := zt c36 h
      refine lv_iconst (v := 0) hx hb dX4_readCommand_272 (by decide) ?_
      cases h
      exact zw_z hx hb hr hlocks (by decide) hP hS dX4_readCommand_273
    · replace h := zf c36 h
      refine lv_aload_n hx hb dX4_readCommand_234 rfl (lv_at hl 4 rfl) ?_
      refine lv_iload hx hb dX4_readCommand_235 (lv_at hl 1 rfl) ?_
      refine lv_iload hx hb dX4_readCommand_237 (lv_at hl 0 rfl) ?_
      obtain ⟨r37, e37, h⟩ := zb h
      refine zS (As := [.int r34, .int r35]) (rest := [.ref h0]) (zQi_q _) ⟨hx, hb, hml, hown, hts⟩ (kX4_whyNotSpan l g r34 r35 e37) (va_cwS 2 hts gX4_readCommand_X4_whyNotSpan rfl rfl rfl hdS_X4_whyNotSpan ⟨Nat.le_of_ble_eq_true rfl, Nat.le_of_ble_eq_true rfl⟩) hK hP [] rfl rfl hl.1 rfl (Nat.le_of_ble_eq_true rfl) ⟨Nat.zero_le _, Nat.zero_le _⟩ dX4_readCommand_239 ?_
      refine lv_if_ne (tgt := 261) hx hb dX4_readCommand_242 (by decide) (fun c38 => ?_) (fun c38 => ?_)
      · replace h := zf c38 h
        refine lv_iconst (v := 0) hx hb dX4_readCommand_261 (by decide) ?_
        obtain ⟨r39, ou39, e39, h⟩ := zb2 h
        refine zVw (As := [.int 0]) (rest := []) (zWi_q g _ _) ⟨hx, hb, hml, hown, hts⟩ (kX4_done l g h0 h1 vn vt vd vk vi rf sz ac sF sB sp35 ou tx 0 e39) (cwV 1 hts gX4_readCommand_X4_done rfl rfl rfl hdV_X4_done ⟨Nat.le_of_ble_eq_true rfl, Nat.le_of_ble_eq_true rfl⟩) hK hP hD hS hA [0, 1] (by decide) rfl rfl 0 rfl rfl rfl hl.1 rfl (Nat.le_of_ble_eq_true rfl) ⟨Nat.zero_le _, Nat.zero_le _⟩ dX4_readCommand_262 (fun H locs hP hD hS => ?_)
        replace hP : zP g (zMR g h0 h1 qr vn vt vd vk vi rf sz ac sF sB sp35 ou39 tx ro) H := hP
        replace hD : va_D A (zMR g h0 h1 qr vn vt vd vk vi rf sz ac sF sB sp35 ou39 tx ro) := hD
        refine lv_if_eq (tgt := 272) hx hb dX4_readCommand_265 (by decide) (fun c40 => ?_) (fun c40 => ?_)
        · replace h := zt c40 h
          refine lv_iconst (v := 0) hx hb dX4_readCommand_272 (by decide) ?_
          cases h
          exact zw_z hx hb hr hlocks (by decide) hP hS dX4_readCommand_273
        · replace h := zf c40 h
          refine lv_iconst (v := 1) hx hb dX4_readCommand_268 (by decide) ?_
          refine lv_goto (tgt := 273) hx hb dX4_readCommand_269 (by decide) ?_
          cases h
          exact zw_z hx hb hr hlocks (by decide) hP hS dX4_readCommand_273
      · replace h := zt c38 h
        refine lv_aload_n hx hb dX4_readCommand_245 rfl (lv_at hl 5 rfl) ?_
        refine lv_iload_n hx hb dX4_readCommand_246 rfl (lv_at hl 2 rfl) ?_
        refine lv_iload hx hb dX4_readCommand_247 (lv_at hl 1 rfl) ?_
        refine lv_iload hx hb dX4_readCommand_249 (lv_at hl 0 rfl) ?_
        obtain ⟨r41, ro41, e41, h⟩ := zb2 h
        refine zSw (As := [.ref qr, .int r33, .int r34, .int r35]) (rest := [.ref h0]) (zWi_q g _ _) ⟨hx, hb, hml, hown, hts⟩ (kX4_pinOn l g qr ro r33 r34 r35 e41) (va_cwS 4 hts gX4_readCommand_X4_pinOn rfl rfl rfl hdS_X4_pinOn ⟨Nat.le_of_ble_eq_true rfl, Nat.le_of_ble_eq_true rfl⟩) hK hP hD hS hA [2] (by decide) rfl rfl rfl hl.1 rfl (Nat.le_of_ble_eq_true rfl) ⟨Nat.zero_le _, Nat.zero_le _⟩ dX4_readCommand_251 (fun H locs hP hD hS => ?_)
        replace hP : zP g (zMR g h0 h1 qr vn vt vd vk vi rf sz ac sF sB sp35 ou tx ro41) H := hP
        replace hD : va_D A (zMR g h0 h1 qr vn vt vd vk vi rf sz ac sF sB sp35 ou tx ro41) := hD
        refine lv_if_lt (tgt := 261) hx hb dX4_readCommand_254 (by decide) (fun c42 => ?_) (fun c42 => ?_)
        · replace h := zt c42 h
          refine lv_iconst (v := 0) hx hb dX4_readCommand_261 (by decide) ?_
          obtain ⟨r43, ou43, e43, h⟩ := zb2 h
          refine zVw (As := [.int 0]) (rest := []) (zWi_q g _ _) ⟨hx, hb, hml, hown, hts⟩ (kX4_done l g h0 h1 vn vt vd vk vi rf sz ac sF sB sp35 ou tx 0 e43) (cwV 1 hts gX4_readCommand_X4_done rfl rfl rfl hdV_X4_done ⟨Nat.le_of_ble_eq_true rfl, Nat.le_of_ble_eq_true rfl⟩) hK hP hD hS hA [0, 1] (by decide) rfl rfl 0 rfl rfl rfl hl.1 rfl (Nat.le_of_ble_eq_true rfl) ⟨Nat.zero_le _, Nat.zero_le _⟩ dX4_readCommand_262 (fun H locs hP hD hS => ?_)
          replace hP : zP g (zMR g h0 h1 qr vn vt vd vk vi rf sz ac sF sB sp35 ou43 tx ro41) H := hP
          replace hD : va_D A (zMR g h0 h1 qr vn vt vd vk vi rf sz ac sF sB sp35 ou43 tx ro41) := hD
          refine lv_if_eq (tgt := 272) hx hb dX4_readCommand_265 (by decide) (fun c44 => ?_) (fun c44 => ?_)
          · replace h := zt c44 h
            refine lv_iconst (v := 0) hx hb dX4_readCommand_272 (by decide) ?_
            cases h
            exact zw_z hx hb hr hlocks (by decide) hP hS dX4_readCommand_273
          · replace h := zf c44 h
            refine lv_iconst (v := 1) hx hb dX4_readCommand_268 (by decide) ?_
            refine lv_goto (tgt := 273) hx hb dX4_readCommand_269 (by decide) ?_
            cases h
            exact zw_z hx hb hr hlocks (by decide) hP hS dX4_readCommand_273
        · replace h := zf c42 h
          refine lv_iconst (v := 1) hx hb dX4_readCommand_257 (by decide) ?_
          refine lv_goto (tgt := 262) hx hb dX4_readCommand_258 (by decide) ?_
          obtain ⟨r45, ou45, e45, h⟩ := zb2 h
          refine zVw (As := [.int 1]) (rest := []) (zWi_q g _ _) ⟨hx, hb, hml, hown, hts⟩ (kX4_done l g h0 h1 vn vt vd vk vi rf sz ac sF sB sp35 ou tx 1 e45) (cwV 1 hts gX4_readCommand_X4_done rfl rfl rfl hdV_X4_done ⟨Nat.le_of_ble_eq_true rfl, Nat.le_of_ble_eq_true rfl⟩) hK hP hD hS hA [0, 1] (by decide) rfl rfl 0 rfl rfl rfl hl.1 rfl (Nat.le_of_ble_eq_true rfl) ⟨Nat.zero_le _, Nat.zero_le _⟩ dX4_readCommand_262 (fun H locs hP hD hS => ?_)
          replace hP : zP g (zMR g h0 h1 qr vn vt vd vk vi rf sz ac sF sB sp35 ou45 tx ro41) H := hP
          replace hD : va_D A (zMR g h0 h1 qr vn vt vd vk vi rf sz ac sF sB sp35 ou45 tx ro41) := hD
          refine lv_if_eq (tgt := 272) hx hb dX4_readCommand_265 (by decide) (fun c46 => ?_) (fun c46 => ?_)
          · replace h := zt c46 h
            refine lv_iconst (v := 0) hx hb dX4_readCommand_272 (by decide) ?_
            cases h
            exact zw_z hx hb hr hlocks (by decide) hP hS dX4_readCommand_273
          · replace h := zf c46 h
            refine lv_iconst (v := 1) hx hb dX4_readCommand_268 (by decide) ?_
            refine lv_goto (tgt := 273) hx hb dX4_readCommand_269 (by decide) ?_
            cases h
            exact zw_z hx hb hr hlocks (by decide) hP hS dX4_readCommand_273
  replace h := zf c32 h
  by_cases c47 : (tx sp.toNatClampNeg) = 115
  · replace h := zt c47 h
    refine lv_lookup (tgt := 274) (off := 253) hx hb dX4_readCommand_21 (by decide) (by rw [c47]; decide) (by decide) ?_
    refine lv_aload_n hx hb dX4_readCommand_274 rfl (lv_at hl 1 rfl) ?_
    refine lv_iconst (v := 0) hx hb dX4_readCommand_275 (by decide) ?_
    refine lv_iconst (v := 1) hx hb dX4_readCommand_276 (by decide) ?_
    refine lv_iconst (v := 0) hx hb dX4_readCommand_277 (by decide) ?_
    refine lv_iconst (v := 5) hx hb dX4_readCommand_278 (by decide) ?_
    obtain ⟨r48, sp48, e48, h⟩ := zb2 h
    refine zVw (As := [.int 0, .int 1, .int 0, .int 5]) (rest := []) (zWi_q g _ _) ⟨hx, hb, hml, hown, hts⟩ (kX4_figures l g h0 h1 vn vt vd vk vi rf sz ac sF sB (sp + 1) ou tx 0 1 0 5 e48) (cwV 4 hts gX4_readCommand_X4_figures rfl rfl rfl hdV_X4_figures ⟨Nat.le_of_ble_eq_true rfl, Nat.le_of_ble_eq_true rfl⟩) hK hP hD hS hA [0, 1] (by decide) rfl rfl 0 rfl rfl rfl hl.1 rfl (Nat.le_of_ble_eq_true rfl) ⟨Nat.zero_le _, Nat.zero_le _⟩ dX4_readCommand_279 (fun H locs hP hD hS => ?_)
    replace hP : zP g (zMR g h0 h1 qr vn vt vd vk vi rf sz ac sF sB sp48 ou tx ro) H := hP
    replace hD : va_D A (zMR g h0 h1 qr vn vt vd vk vi rf sz ac sF sB sp48 ou tx ro) := hD
    refine lv_istore_n (lv' := [(3, .int r48), (2, .int (tx sp.toNatClampNeg)), (0, .ref h0), (1, .ref qr)]) hx hb dX4_readCommand_282 rfl hl (by decide) rfl (fun ls hl => ?_)
    refine lv_aload_n hx hb dX4_readCommand_283 rfl (lv_at hl 2 rfl) ?_
    refine lv_iload_n hx hb dX4_readCommand_284 rfl (lv_at hl 0 rfl) ?_
    refine lv_iconst (v := 2) hx hb dX4_readCommand_285 (by decide) ?_
    refine lv_iconst (v := 0) hx hb dX4_readCommand_286 (by decide) ?_
    refine lv_bipush (v := 99) hx hb dX4_readCommand_287 (by decide) ?_
    obtain ⟨r49, sp49, e49, h⟩ := zb2 h
    refine zVw (As := [.int r48, .int 2, .int 0, .int 99]) (rest := []) (zWi_q g _ _) ⟨hx, hb, hml, hown, hts⟩ (kX4_figures l g h0 h1 vn vt vd vk vi rf sz ac sF sB sp48 ou tx r48 2 0 99 e49) (cwV 4 hts gX4_readCommand_X4_figures rfl rfl rfl hdV_X4_figures ⟨Nat.le_of_ble_eq_true rfl, Nat.le_of_ble_eq_true rfl⟩) hK hP hD hS hA [0, 1] (by decide) rfl rfl 0 rfl rfl rfl hl.1 rfl (Nat.le_of_ble_eq_true rfl) ⟨Nat.zero_le _, Nat.zero_le _⟩ dX4_readCommand_289 (fun H locs hP hD hS => ?_)
    replace hP : zP g (zMR g h0 h1 qr vn vt vd vk vi rf sz ac sF sB sp49 ou tx ro) H := hP
    replace hD : va_D A (zMR g h0 h1 qr vn vt vd vk vi rf sz ac sF sB sp49 ou tx ro) := hD
    refine lv_istore (lv' := [(4, .int r49), (3, .int r48), (2, .int (tx sp.toNatClampNeg)), (0, .ref h0), (1, .ref qr)]) hx hb dX4_readCommand_292 hl (by decide) rfl (fun ls hl => ?_)
    refine lv_iload hx hb dX4_readCommand_294 (lv_at hl 0 rfl) ?_
    refine lv_iconst (v := (-1)) hx hb dX4_readCommand_296 (by decide) ?_
    refine lv_icmp_eq (tgt := 335) hx hb dX4_readCommand_297 (by decide) (fun c50 => ?_) (fun c50 => ?_)
    · replace h := zt c50 h
      refine lv_iconst (v := 0) hx hb dX4_readCommand_335 (by decide) ?_
      cases h
      exact zw_z hx hb hr hlocks (by decide) hP hS dX4_readCommand_336
    · replace h := zf c50 h
      refine lv_aload_n hx hb dX4_readCommand_300 rfl (lv_at hl 3 rfl) ?_
      refine lv_iload_n hx hb dX4_readCommand_301 rfl (lv_at hl 1 rfl) ?_
      refine lv_iload hx hb dX4_readCommand_302 (lv_at hl 0 rfl) ?_
      obtain ⟨r51, e51, h⟩ := zb h
      refine zS (As := [.int r48, .int r49]) (rest := [.ref h0]) (zQi_q _) ⟨hx, hb, hml, hown, hts⟩ (kX4_isSetting l g r48 r49 e51) (va_cwS 2 hts gX4_readCommand_X4_isSetting rfl rfl rfl hdS_X4_isSetting ⟨Nat.le_of_ble_eq_true rfl, Nat.le_of_ble_eq_true rfl⟩) hK hP [] rfl rfl hl.1 rfl (Nat.le_of_ble_eq_true rfl) ⟨Nat.zero_le _, Nat.zero_le _⟩ dX4_readCommand_304 ?_
      refine lv_if_eq (tgt := 324) hx hb dX4_readCommand_307 (by decide) (fun c52 => ?_) (fun c52 => ?_)
      · replace h := zt c52 h
        refine lv_iconst (v := 0) hx hb dX4_readCommand_324 (by decide) ?_
        obtain ⟨r53, ou53, e53, h⟩ := zb2 h
        refine zVw (As := [.int 0]) (rest := []) (zWi_q g _ _) ⟨hx, hb, hml, hown, hts⟩ (kX4_done l g h0 h1 vn vt vd vk vi rf sz ac sF sB sp49 ou tx 0 e53) (cwV 1 hts gX4_readCommand_X4_done rfl rfl rfl hdV_X4_done ⟨Nat.le_of_ble_eq_true rfl, Nat.le_of_ble_eq_true rfl⟩) hK hP hD hS hA [0, 1] (by decide) rfl rfl 0 rfl rfl rfl hl.1 rfl (Nat.le_of_ble_eq_true rfl) ⟨Nat.zero_le _, Nat.zero_le _⟩ dX4_readCommand_325 (fun H locs hP hD hS => ?_)
        replace hP : zP g (zMR g h0 h1 qr vn vt vd vk vi rf sz ac sF sB sp49 ou53 tx ro) H := hP
        replace hD : va_D A (zMR g h0 h1 qr vn vt vd vk vi rf sz ac sF sB sp49 ou53 tx ro) := hD
        refine lv_if_eq (tgt := 335) hx hb dX4_readCommand_328 (by decide) (fun c54 => ?_) (fun c54 => ?_)
        · replace h := zt c54 h
          refine lv_iconst (v := 0) hx hb dX4_readCommand_335 (by decide) ?_
          cases h
          exact zw_z hx hb hr hlocks (by decide) hP hS dX4_readCommand_336
        · replace h := zf c54 h
          refine lv_iconst (v := 1) hx hb dX4_readCommand_331 (by decide) ?_
          refine lv_goto (tgt := 336) hx hb dX4_readCommand_332 (by decide) ?_
          cases h
          exact zw_z hx hb hr hlocks (by decide) hP hS dX4_readCommand_336
      · replace h := zf c52 h
        refine lv_aload_n hx hb dX4_readCommand_310 rfl (lv_at hl 4 rfl) ?_
        refine lv_iload_n hx hb dX4_readCommand_311 rfl (lv_at hl 1 rfl) ?_
        refine lv_iload hx hb dX4_readCommand_312 (lv_at hl 0 rfl) ?_
        obtain ⟨r55, ro55, e55, h⟩ := zb2 h
        refine zSw (As := [.ref qr, .int r48, .int r49]) (rest := [.ref h0]) (zWi_q g _ _) ⟨hx, hb, hml, hown, hts⟩ (kX4_lay l g qr ro r48 r49 e55) (va_cwS 3 hts gX4_readCommand_X4_lay rfl rfl rfl hdS_X4_lay ⟨Nat.le_of_ble_eq_true rfl, Nat.le_of_ble_eq_true rfl⟩) hK hP hD hS hA [2] (by decide) rfl rfl rfl hl.1 rfl (Nat.le_of_ble_eq_true rfl) ⟨Nat.zero_le _, Nat.zero_le _⟩ dX4_readCommand_314 (fun H locs hP hD hS => ?_)
        replace hP : zP g (zMR g h0 h1 qr vn vt vd vk vi rf sz ac sF sB sp49 ou tx ro55) H := hP
        replace hD : va_D A (zMR g h0 h1 qr vn vt vd vk vi rf sz ac sF sB sp49 ou tx ro55) := hD
        refine lv_if_lt (tgt := 324) hx hb dX4_readCommand_317 (by decide) (fun c56 => ?_) (fun c56 => ?_)
        · replace h := zt c56 h
          refine lv_iconst (v := 0) hx hb dX4_readCommand_324 (by decide) ?_
          obtain ⟨r57, ou57, e57, h⟩ := zb2 h
          refine zVw (As := [.int 0]) (rest := []) (zWi_q g _ _) ⟨hx, hb, hml, hown, hts⟩ (kX4_done l g h0 h1 vn vt vd vk vi rf sz ac sF sB sp49 ou tx 0 e57) (cwV 1 hts gX4_readCommand_X4_done rfl rfl rfl hdV_X4_done ⟨Nat.le_of_ble_eq_true rfl, Nat.le_of_ble_eq_true rfl⟩) hK hP hD hS hA [0, 1] (by decide) rfl rfl 0 rfl rfl rfl hl.1 rfl (Nat.le_of_ble_eq_true rfl) ⟨Nat.zero_le _, Nat.zero_le _⟩ dX4_readCommand_325 (fun H locs hP hD hS => ?_)
          replace hP : zP g (zMR g h0 h1 qr vn vt vd vk vi rf sz ac sF sB sp49 ou57 tx ro55) H := hP
          replace hD : va_D A (zMR g h0 h1 qr vn vt vd vk vi rf sz ac sF sB sp49 ou57 tx ro55) := hD
          refine lv_if_eq (tgt := 335) hx hb dX4_readCommand_328 (by decide) (fun c58 => ?_) (fun c58 => ?_)
          · replace h := zt c58 h
            refine lv_iconst (v := 0) hx hb dX4_readCommand_335 (by decide) ?_
            cases h
            exact zw_z hx hb hr hlocks (by decide) hP hS dX4_readCommand_336
          · replace h := zf c58 h
            refine lv_iconst (v := 1) hx hb dX4_readCommand_331 (by decide) ?_
            refine lv_goto (tgt := 336) hx hb dX4_readCommand_332 (by decide) ?_
            cases h
            exact zw_z hx hb hr hlocks (by decide) hP hS dX4_readCommand_336
        · replace h := zf c56 h
          refine lv_iconst (v := 1) hx hb dX4_readCommand_320 (by decide) ?_
          refine lv_goto (tgt := 325) hx hb dX4_readCommand_321 (by decide) ?_
          obtain ⟨r59, ou59, e59, h⟩ := zb2 h
          refine zVw (As := [.int 1]) (rest := []) (zWi_q g _ _) ⟨hx, hb, hml, hown, hts⟩ (kX4_done l g h0 h1 vn vt vd vk vi rf sz ac sF sB sp49 ou tx 1 e59) (cwV 1 hts gX4_readCommand_X4_done rfl rfl rfl hdV_X4_done ⟨Nat.le_of_ble_eq_true rfl, Nat.le_of_ble_eq_true rfl⟩) hK hP hD hS hA [0, 1] (by decide) rfl rfl 0 rfl rfl rfl hl.1 rfl (Nat.le_of_ble_eq_true rfl) ⟨Nat.zero_le _, Nat.zero_le _⟩ dX4_readCommand_325 (fun H locs hP hD hS => ?_)
          replace hP : zP g (zMR g h0 h1 qr vn vt vd vk vi rf sz ac sF sB sp49 ou59 tx ro55) H := hP
          replace hD : va_D A (zMR g h0 h1 qr vn vt vd vk vi rf sz ac sF sB sp49 ou59 tx ro55) := hD
          refine lv_if_eq (tgt := 335) hx hb dX4_readCommand_328 (by decide) (fun c60 => ?_) (fun c60 => ?_)
          · replace h := zt c60 h
            refine lv_iconst (v := 0) hx hb dX4_readCommand_335 (by decide) ?_
            cases h
            exact zw_z hx hb hr hlocks (by decide) hP hS dX4_readCommand_336
          · replace h := zf c60 h
            refine lv_iconst (v := 1) hx hb dX4_readCommand_331 (by decide) ?_
            refine lv_goto (tgt := 336) hx hb dX4_readCommand_332 (by decide) ?_
            cases h
            exact zw_z hx hb hr hlocks (by decide) hP hS dX4_readCommand_336
  replace h := zf c47 h
  by_cases c61 : (tx sp.toNatClampNeg) = 119
  · replace h := zt c61 h
    refine lv_lookup (tgt := 72) (off := 51) hx hb dX4_readCommand_21 (by decide) (by rw [c61]; decide) (by decide) ?_
    refine lv_aload_n hx hb dX4_readCommand_72 rfl (lv_at hl 1 rfl) ?_
    refine lv_iconst (v := 0) hx hb dX4_readCommand_73 (by decide) ?_
    refine lv_iconst (v := 3) hx hb dX4_readCommand_74 (by decide) ?_
    refine lv_iconst (v := 0) hx hb dX4_readCommand_75 (by decide) ?_
    refine lv_sipush (v := 255) hx hb dX4_readCommand_76 (by decide) ?_
    obtain ⟨r62, sp62, e62, h⟩ := zb2 h
    refine zVw (As := [.int 0, .int 3, .int 0, .int 255]) (rest := []) (zWi_q g _ _) ⟨hx, hb, hml, hown, hts⟩ (kX4_figures l g h0 h1 vn vt vd vk vi rf sz ac sF sB (sp + 1) ou tx 0 3 0 255 e62) (cwV 4 hts gX4_readCommand_X4_figures rfl rfl rfl hdV_X4_figures ⟨Nat.le_of_ble_eq_true rfl, Nat.le_of_ble_eq_true rfl⟩) hK hP hD hS hA [0, 1] (by decide) rfl rfl 0 rfl rfl rfl hl.1 rfl (Nat.le_of_ble_eq_true rfl) ⟨Nat.zero_le _, Nat.zero_le _⟩ dX4_readCommand_79 (fun H locs hP hD hS => ?_)
    replace hP : zP g (zMR g h0 h1 qr vn vt vd vk vi rf sz ac sF sB sp62 ou tx ro) H := hP
    replace hD : va_D A (zMR g h0 h1 qr vn vt vd vk vi rf sz ac sF sB sp62 ou tx ro) := hD
    refine lv_istore_n (lv' := [(3, .int r62), (2, .int (tx sp.toNatClampNeg)), (0, .ref h0), (1, .ref qr)]) hx hb dX4_readCommand_82 rfl hl (by decide) rfl (fun ls hl => ?_)
    refine lv_aload_n hx hb dX4_readCommand_83 rfl (lv_at hl 2 rfl) ?_
    refine lv_iload_n hx hb dX4_readCommand_84 rfl (lv_at hl 0 rfl) ?_
    refine lv_iconst (v := 2) hx hb dX4_readCommand_85 (by decide) ?_
    refine lv_iconst (v := 1) hx hb dX4_readCommand_86 (by decide) ?_
    refine lv_bipush (v := 99) hx hb dX4_readCommand_87 (by decide) ?_
    obtain ⟨r63, sp63, e63, h⟩ := zb2 h
    refine zVw (As := [.int r62, .int 2, .int 1, .int 99]) (rest := []) (zWi_q g _ _) ⟨hx, hb, hml, hown, hts⟩ (kX4_figures l g h0 h1 vn vt vd vk vi rf sz ac sF sB sp62 ou tx r62 2 1 99 e63) (cwV 4 hts gX4_readCommand_X4_figures rfl rfl rfl hdV_X4_figures ⟨Nat.le_of_ble_eq_true rfl, Nat.le_of_ble_eq_true rfl⟩) hK hP hD hS hA [0, 1] (by decide) rfl rfl 0 rfl rfl rfl hl.1 rfl (Nat.le_of_ble_eq_true rfl) ⟨Nat.zero_le _, Nat.zero_le _⟩ dX4_readCommand_89 (fun H locs hP hD hS => ?_)
    replace hP : zP g (zMR g h0 h1 qr vn vt vd vk vi rf sz ac sF sB sp63 ou tx ro) H := hP
    replace hD : va_D A (zMR g h0 h1 qr vn vt vd vk vi rf sz ac sF sB sp63 ou tx ro) := hD
    refine lv_istore (lv' := [(4, .int r63), (3, .int r62), (2, .int (tx sp.toNatClampNeg)), (0, .ref h0), (1, .ref qr)]) hx hb dX4_readCommand_92 hl (by decide) rfl (fun ls hl => ?_)
    refine lv_iload hx hb dX4_readCommand_94 (lv_at hl 0 rfl) ?_
    refine lv_iconst (v := (-1)) hx hb dX4_readCommand_96 (by decide) ?_
    refine lv_icmp_eq (tgt := 151) hx hb dX4_readCommand_97 (by decide) (fun c64 => ?_) (fun c64 => ?_)
    · replace h := zt c64 h
      refine lv_iconst (v := 0) hx hb dX4_readCommand_151 (by decide) ?_
      cases h
      exact zw_z hx hb hr hlocks (by decide) hP hS dX4_readCommand_152
    · replace h := zf c64 h
      refine lv_aload_n hx hb dX4_readCommand_100 rfl (lv_at hl 3 rfl) ?_
      refine lv_iload_n hx hb dX4_readCommand_101 rfl (lv_at hl 1 rfl) ?_
      refine lv_iload hx hb dX4_readCommand_102 (lv_at hl 0 rfl) ?_
      obtain ⟨r65, e65, h⟩ := zb h
      refine zS (As := [.int r62, .int r63]) (rest := [.ref h0]) (zQi_q _) ⟨hx, hb, hml, hown, hts⟩ (kX4_whyNotSpan l g r62 r63 e65) (va_cwS 2 hts gX4_readCommand_X4_whyNotSpan rfl rfl rfl hdS_X4_whyNotSpan ⟨Nat.le_of_ble_eq_true rfl, Nat.le_of_ble_eq_true rfl⟩) hK hP [] rfl rfl hl.1 rfl (Nat.le_of_ble_eq_true rfl) ⟨Nat.zero_le _, Nat.zero_le _⟩ dX4_readCommand_104 ?_
      refine lv_if_ne (tgt := 140) hx hb dX4_readCommand_107 (by decide) (fun c66 => ?_) (fun c66 => ?_)
      · replace h := zf c66 h
        refine lv_iconst (v := 0) hx hb dX4_readCommand_140 (by decide) ?_
        obtain ⟨r67, ou67, e67, h⟩ := zb2 h
        refine zVw (As := [.int 0]) (rest := []) (zWi_q g _ _) ⟨hx, hb, hml, hown, hts⟩ (kX4_done l g h0 h1 vn vt vd vk vi rf sz ac sF sB sp63 ou tx 0 e67) (cwV 1 hts gX4_readCommand_X4_done rfl rfl rfl hdV_X4_done ⟨Nat.le_of_ble_eq_true rfl, Nat.le_of_ble_eq_true rfl⟩) hK hP hD hS hA [0, 1] (by decide) rfl rfl 0 rfl rfl rfl hl.1 rfl (Nat.le_of_ble_eq_true rfl) ⟨Nat.zero_le _, Nat.zero_le _⟩ dX4_readCommand_141 (fun H locs hP hD hS => ?_)
        replace hP : zP g (zMR g h0 h1 qr vn vt vd vk vi rf sz ac sF sB sp63 ou67 tx ro) H := hP
        replace hD : va_D A (zMR g h0 h1 qr vn vt vd vk vi rf sz ac sF sB sp63 ou67 tx ro) := hD
        refine lv_if_eq (tgt := 151) hx hb dX4_readCommand_144 (by decide) (fun c68 => ?_) (fun c68 => ?_)
        · replace h := zt c68 h
          refine lv_iconst (v := 0) hx hb dX4_readCommand_151 (by decide) ?_
          cases h
          exact zw_z hx hb hr hlocks (by decide) hP hS dX4_readCommand_152
        · replace h := zf c68 h
          refine lv_iconst (v := 1) hx hb dX4_readCommand_147 (by decide) ?_
          refine lv_goto (tgt := 152) hx hb dX4_readCommand_148 (by decide) ?_
          cases h
          exact zw_z hx hb hr hlocks (by decide) hP hS dX4_readCommand_152
      · replace h := zt c66 h
        refine lv_iload_n hx hb dX4_readCommand_110 rfl (lv_at hl 2 rfl) ?_
        refine lv_bipush (v := 119) hx hb dX4_readCommand_111 (by decide) ?_
        refine lv_icmp_ne (tgt := 126) hx hb dX4_readCommand_113 (by decide) (fun c69 => ?_) (fun c69 => ?_)
        · replace h := zf c69 h
          refine lv_aload_n hx hb dX4_readCommand_126 rfl (lv_at hl 4 rfl) ?_
          refine lv_iload_n hx hb dX4_readCommand_127 rfl (lv_at hl 1 rfl) ?_
          refine lv_iload hx hb dX4_readCommand_128 (lv_at hl 0 rfl) ?_
          obtain ⟨r70, ro70, e70, h⟩ := zb2 h
          refine zSw (As := [.ref qr, .int r62, .int r63]) (rest := [.ref h0]) (zWi_q g _ _) ⟨hx, hb, hml, hown, hts⟩ (kX4_freeOn l g qr ro r62 r63 e70) (va_cwS 3 hts gX4_readCommand_X4_freeOn rfl rfl rfl hdS_X4_freeOn ⟨Nat.le_of_ble_eq_true rfl, Nat.le_of_ble_eq_true rfl⟩) hK hP hD hS hA [2] (by decide) rfl rfl rfl hl.1 rfl (Nat.le_of_ble_eq_true rfl) ⟨Nat.zero_le _, Nat.zero_le _⟩ dX4_readCommand_130 (fun H locs hP hD hS => ?_)
          replace hP : zP g (zMR g h0 h1 qr vn vt vd vk vi rf sz ac sF sB sp63 ou tx ro70) H := hP
          replace hD : va_D A (zMR g h0 h1 qr vn vt vd vk vi rf sz ac sF sB sp63 ou tx ro70) := hD
          refine lv_if_lt (tgt := 140) hx hb dX4_readCommand_133 (by decide) (fun c71 => ?_) (fun c71 => ?_)
          · replace h := zt c71 h
            refine lv_iconst (v := 0) hx hb dX4_readCommand_140 (by decide) ?_
            obtain ⟨r72, ou72, e72, h⟩ := zb2 h
            refine zVw (As := [.int 0]) (rest := []) (zWi_q g _ _) ⟨hx, hb, hml, hown, hts⟩ (kX4_done l g h0 h1 vn vt vd vk vi rf sz ac sF sB sp63 ou tx 0 e72) (cwV 1 hts gX4_readCommand_X4_done rfl rfl rfl hdV_X4_done ⟨Nat.le_of_ble_eq_true rfl, Nat.le_of_ble_eq_true rfl⟩) hK hP hD hS hA [0, 1] (by decide) rfl rfl 0 rfl rfl rfl hl.1 rfl (Nat.le_of_ble_eq_true rfl) ⟨Nat.zero_le _, Nat.zero_le _⟩ dX4_readCommand_141 (fun H locs hP hD hS => ?_)
            replace hP : zP g (zMR g h0 h1 qr vn vt vd vk vi rf sz ac sF sB sp63 ou72 tx ro70) H := hP
            replace hD : va_D A (zMR g h0 h1 qr vn vt vd vk vi rf sz ac sF sB sp63 ou72 tx ro70) := hD
            refine lv_if_eq (tgt := 151) hx hb dX4_readCommand_144 (by decide) (fun c73 => ?_) (fun c73 => ?_)
            · replace h := zt c73 h
              refine lv_iconst (v := 0) hx hb dX4_readCommand_151 (by decide) ?_
              cases h
              exact zw_z hx hb hr hlocks (by decide) hP hS dX4_readCommand_152
            · replace h := zf c73 h
              refine lv_iconst (v := 1) hx hb dX4_readCommand_147 (by decide) ?_
              refine lv_goto (tgt := 152) hx hb dX4_readCommand_148 (by decide) ?_
              cases h
              exact zw_z hx hb hr hlocks (by decide) hP hS dX4_readCommand_152
          · replace h := zf c71 h
            refine lv_iconst (v := 1) hx hb dX4_readCommand_136 (by decide) ?_
            refine lv_goto (tgt := 141) hx hb dX4_readCommand_137 (by decide) ?_
            obtain ⟨r74, ou74, e74, h⟩ := zb2 h
            refine zVw (As := [.int 1]) (rest := []) (zWi_q g _ _) ⟨hx, hb, hml, hown, hts⟩ (kX4_done l g h0 h1 vn vt vd vk vi rf sz ac sF sB sp63 ou tx 1 e74) (cwV 1 hts gX4_readCommand_X4_done rfl rfl rfl hdV_X4_done ⟨Nat.le_of_ble_eq_true rfl, Nat.le_of_ble_eq_true rfl⟩) hK hP hD hS hA [0, 1] (by decide) rfl rfl 0 rfl rfl rfl hl.1 rfl (Nat.le_of_ble_eq_true rfl) ⟨Nat.zero_le _, Nat.zero_le _⟩ dX4_readCommand_141 (fun H locs hP hD hS => ?_)
            replace hP : zP g (zMR g h0 h1 qr vn vt vd vk vi rf sz ac sF sB sp63 ou74 tx ro70) H := hP
            replace hD : va_D A (zMR g h0 h1 qr vn vt vd vk vi rf sz ac sF sB sp63 ou74 tx ro70) := hD
            refine lv_if_eq (tgt := 151) hx hb dX4_readCommand_144 (by decide) (fun c75 => ?_) (fun c75 => ?_)
            · replace h := zt c75 h
              refine lv_iconst (v := 0) hx hb dX4_readCommand_151 (by decide) ?_
              cases h
              exact zw_z hx hb hr hlocks (by decide) hP hS dX4_readCommand_152
            · replace h := zf c75 h
              refine lv_iconst (v := 1) hx hb dX4_readCommand_147 (by decide) ?_
              refine lv_goto (tgt := 152) hx hb dX4_readCommand_148 (by decide) ?_
              cases h
              exact zw_z hx hb hr hlocks (by decide) hP hS dX4_readCommand_152
        · replace h := zt c69 h
          refine lv_aload_n hx hb dX4_readCommand_116 rfl (lv_at hl 4 rfl) ?_
          refine lv_iload_n hx hb dX4_readCommand_117 rfl (lv_at hl 1 rfl) ?_
          refine lv_iload hx hb dX4_readCommand_118 (lv_at hl 0 rfl) ?_
          obtain ⟨r76, ro76, e76, h⟩ := zb2 h
          refine zSw (As := [.ref qr, .int r62, .int r63]) (rest := [.ref h0]) (zWi_q g _ _) ⟨hx, hb, hml, hown, hts⟩ (kX4_writeOn l g qr ro r62 r63 e76) (va_cwS 3 hts gX4_readCommand_X4_writeOn rfl rfl rfl hdS_X4_writeOn ⟨Nat.le_of_ble_eq_true rfl, Nat.le_of_ble_eq_true rfl⟩) hK hP hD hS hA [2] (by decide) rfl rfl rfl hl.1 rfl (Nat.le_of_ble_eq_true rfl) ⟨Nat.zero_le _, Nat.zero_le _⟩ dX4_readCommand_120 (fun H locs hP hD hS => ?_)
          replace hP : zP g (zMR g h0 h1 qr vn vt vd vk vi rf sz ac sF sB sp63 ou tx ro76) H := hP
          replace hD : va_D A (zMR g h0 h1 qr vn vt vd vk vi rf sz ac sF sB sp63 ou tx ro76) := hD
          refine lv_goto (tgt := 133) hx hb dX4_readCommand_123 (by decide) ?_
          refine lv_if_lt (tgt := 140) hx hb dX4_readCommand_133 (by decide) (fun c77 => ?_) (fun c77 => ?_)
          · replace h := zt c77 h
            refine lv_iconst (v := 0) hx hb dX4_readCommand_140 (by decide) ?_
            obtain ⟨r78, ou78, e78, h⟩ := zb2 h
            refine zVw (As := [.int 0]) (rest := []) (zWi_q g _ _) ⟨hx, hb, hml, hown, hts⟩ (kX4_done l g h0 h1 vn vt vd vk vi rf sz ac sF sB sp63 ou tx 0 e78) (cwV 1 hts gX4_readCommand_X4_done rfl rfl rfl hdV_X4_done ⟨Nat.le_of_ble_eq_true rfl, Nat.le_of_ble_eq_true rfl⟩) hK hP hD hS hA [0, 1] (by decide) rfl rfl 0 rfl rfl rfl hl.1 rfl (Nat.le_of_ble_eq_true rfl) ⟨Nat.zero_le _, Nat.zero_le _⟩ dX4_readCommand_141 (fun H locs hP hD hS => ?_)
            replace hP : zP g (zMR g h0 h1 qr vn vt vd vk vi rf sz ac sF sB sp63 ou78 tx ro76) H := hP
            replace hD : va_D A (zMR g h0 h1 qr vn vt vd vk vi rf sz ac sF sB sp63 ou78 tx ro76) := hD
            refine lv_if_eq (tgt := 151) hx hb dX4_readCommand_144 (by decide) (fun c79 => ?_) (fun c79 => ?_)
            · replace h := zt c79 h
              refine lv_iconst (v := 0) hx hb dX4_readCommand_151 (by decide) ?_
              cases h
              exact zw_z hx hb hr hlocks (by decide) hP hS dX4_readCommand_152
            · replace h := zf c79 h
              refine lv_iconst (v := 1) hx hb dX4_readCommand_147 (by decide) ?_
              refine lv_goto (tgt := 152) hx hb dX4_readCommand_148 (by decide) ?_
              cases h
              exact zw_z hx hb hr hlocks (by decide) hP hS dX4_readCommand_152
          · replace h := zf c77 h
            refine lv_iconst (v := 1) hx hb dX4_readCommand_136 (by decide) ?_
            refine lv_goto (tgt := 141) hx hb dX4_readCommand_137 (by decide) ?_
            obtain ⟨r80, ou80, e80, h⟩ := zb2 h
            refine zVw (As := [.int 1]) (rest := []) (zWi_q g _ _) ⟨hx, hb, hml, hown, hts⟩ (kX4_done l g h0 h1 vn vt vd vk vi rf sz ac sF sB sp63 ou tx 1 e80) (cwV 1 hts gX4_readCommand_X4_done rfl rfl rfl hdV_X4_done ⟨Nat.le_of_ble_eq_true rfl, Nat.le_of_ble_eq_true rfl⟩) hK hP hD hS hA [0, 1] (by decide) rfl rfl 0 rfl rfl rfl hl.1 rfl (Nat.le_of_ble_eq_true rfl) ⟨Nat.zero_le _, Nat.zero_le _⟩ dX4_readCommand_141 (fun H locs hP hD hS => ?_)
            replace hP : zP g (zMR g h0 h1 qr vn vt vd vk vi rf sz ac sF sB sp63 ou80 tx ro76) H := hP
            replace hD : va_D A (zMR g h0 h1 qr vn vt vd vk vi rf sz ac sF sB sp63 ou80 tx ro76) := hD
            refine lv_if_eq (tgt := 151) hx hb dX4_readCommand_144 (by decide) (fun c81 => ?_) (fun c81 => ?_)
            · replace h := zt c81 h
              refine lv_iconst (v := 0) hx hb dX4_readCommand_151 (by decide) ?_
              cases h
              exact zw_z hx hb hr hlocks (by decide) hP hS dX4_readCommand_152
            · replace h := zf c81 h
              refine lv_iconst (v := 1) hx hb dX4_readCommand_147 (by decide) ?_
              refine lv_goto (tgt := 152) hx hb dX4_readCommand_148 (by decide) ?_
              cases h
              exact zw_z hx hb hr hlocks (by decide) hP hS dX4_readCommand_152
  replace h := zf c61 h
  refine lv_lookup (tgt := 337) (off := 316) hx hb dX4_readCommand_21 (by decide) (by show Op.lookupswitch.offset [(102, 51), (105, 132), (112, 174), (115, 253), (119, 51)] 316 _ = _; rw [lv_osw c2 (a := 102) (by decide), lv_osw c23 (a := 105) (by decide), lv_osw c32 (a := 112) (by decide), lv_osw c47 (a := 115) (by decide), lv_osw c61 (a := 119) (by decide)]; rfl) (by decide) ?_
  refine lv_aload_n hx hb dX4_readCommand_337 rfl (lv_at hl 1 rfl) ?_
  refine lv_dup hx hb dX4_readCommand_338 rfl ?_
  refine va_get (ci := 4) (v := .int (sp + 1)) (C := RX4) (T := TX4) (N := 13) hx hb hts uX4_readCommand_X4 hown hK hP 0 rfl rfl 11 (by decide) (hts _ mX4_readCommand_121) (fun _ h9 => h9) rfl dX4_readCommand_339 ?_
  refine lv_iconst (v := 1) hx hb dX4_readCommand_342 (by decide) ?_
  refine lv_isub hx hb dX4_readCommand_343 ?_
  refine va_put (ci := 4) (v := .int ((sp + 1) - 1)) (ty := .int) (C := RX4) (T := TX4) (N := 13) hx hb hts uX4_readCommand_X4 tyX4 tyX4_ok nmX4 hown hK hP hD hS 0 rfl rfl 11 (by decide) (hts _ mX4_readCommand_121) (fun _ h9 => h9) rfl (by decide +kernel) rfl rfl (Nat.le_of_ble_eq_true rfl) dX4_readCommand_344 (fun H locs hP hD hS => ?_)
  replace hP : zP g (zMR g h0 h1 qr vn vt vd vk vi rf sz ac sF sB ((sp + 1) - 1) ou tx ro) H := hP
  replace hD : va_D A (zMR g h0 h1 qr vn vt vd vk vi rf sz ac sF sB ((sp + 1) - 1) ou tx ro) := hD
  refine lv_iconst (v := 0) hx hb dX4_readCommand_347 (by decide) ?_
  cases h
  exact zw_z hx hb hr hlocks (by decide) hP hS dX4_readCommand_348
theorem hdS_X4_begin : yX4_begin.cls ≠ "java/lang/invoke/MethodHandle" ∧ yX4_begin.cls ≠ "java/lang/invoke/VarHandle" ∧ (parseMethodDescriptor yX4_begin.desc).map (fun d => d.parameters.length) = some 1 := by decide +kernel
theorem hdV_X4_readCommand : yX4_readCommand.cls = RX4 ∧ yX4_readCommand.cls ≠ "java/lang/invoke/MethodHandle" ∧ yX4_readCommand.cls ≠ "java/lang/invoke/VarHandle" ∧ (parseMethodDescriptor yX4_readCommand.desc).map (fun d => d.parameters.length) = some 1 := by decide +kernel
def fX4_readText_39 (sz : Int32) (tx : Nat → Int32) : Nat → (Int32) → (Int32) → (Int32) → (Int32) → (Nat → Int32) → Option (Int32 × (Int32) × (Int32) × (Int32) × (Int32) × (Nat → Int32))
  | 0, _, _, _, _, _ => none
  | n + 1, sF, sB, sp, ou, ro =>
    if sz ≤ sp then
        some ((-1), sF, sB, sp, ou, ro)
      else
        ob6 (fX4_readCommand sz sF sB sp ou tx ro) fun r2 sF2 sB2 sp2 ou2 ro2 =>
        if r2 = 0 then
          some (sp2, sF2, sB2, sp2, ou2, ro2)
        else
          fX4_readText_39 sz tx n sF2 sB2 sp2 ou2 ro2
def fX4_readText (sz : Int32) (sF : Int32) (sB : Int32) (tx : Nat → Int32) (ro : Nat → Int32) : Option (Int32 × (Int32) × (Int32) × (Int32) × (Int32) × (Nat → Int32)) :=
  ob (fX4_begin ro) fun ro4 =>
  if sz = 0 then
    some (0, sF, sB, 0, 0, ro4)
  else
    if (tx 0) = 68 then
      fX4_readText_39 sz tx 1000 sF sB 1 0 ro4
    else
      some (0, sF, sB, 0, 0, ro4)
theorem mX4_readText_121 : Cond.fieldLink RX4 121 "IdleDiscardsModel" "spot" "I" ∈ wsX4_readText := by decide +kernel
theorem uX4_readText_X4 : ∀ w ∈ wsX40, w ∈ wsX4_readText := by decide +kernel
theorem mX4_readText_115 : Cond.fieldLink RX4 115 "IdleDiscardsModel" "size" "I" ∈ wsX4_readText := by decide +kernel
theorem mX4_readText_126 : Cond.fieldLink RX4 126 "IdleDiscardsModel" "out" "I" ∈ wsX4_readText := by decide +kernel
theorem mX4_readText_7 : Cond.fieldLink RX4 7 "IdleDiscardsModel" "text" "[I" ∈ wsX4_readText := by decide +kernel
set_option maxRecDepth 100000 in
set_option maxHeartbeats 4000000 in
theorem kX4_readText (l : Launch) (g : zG) (h0 h1 qr : Nat) (vn vt vd vk vi : Value) (rf : Int32) (sz : Int32) (ac : Int32) (sF : Int32) (sB : Int32) (sp : Int32) (ou : Int32) (tx : Nat → Int32) (ro : Nat → Int32) {r : Int32} {sF' : Int32} {sB' : Int32} {sp' : Int32} {ou' : Int32} {ro' : Nat → Int32} (h : fX4_readText sz sF sB tx ro = some (r, sF', sB', sp', ou', ro')) : Mw l g yX4_readText wsX4_readText { frames := 10, cells := 0, slots := 0, locals := 231 } [.ref h0, .ref qr] (zMR g h0 h1 qr vn vt vd vk vi rf sz ac sF sB sp ou tx ro) (zWi g (zMR g h0 h1 qr vn vt vd vk vi rf sz ac sF' sB' sp' ou' tx ro') r) := by
  refine zw_in (cc := cX4_readText) (maxL := 2) (ret := (some .int)) (by decide) rfl (Nat.le_of_ble_eq_true rfl) ?_
  intro p e s m below meth c hx hb hr hml hts hown hlocks hK A hA hP hD hS ls hl
  replace hl : lv_has ls 2 [(0, .ref h0), (1, .ref qr)] := hl
  have loop_39 : ∀ (n : Nat) (sF : (Int32)) (sB : (Int32)) (sp : (Int32)) (ou : (Int32)) (ro : (Nat → Int32)), fX4_readText_39 sz tx n sF sB sp ou ro = some (r, sF', sB', sp', ou', ro') → ∀ (H : Heap) (locs : List Loc), zP g (zMR g h0 h1 qr vn vt vd vk vi rf sz ac sF sB sp ou tx ro) H → va_D A (zMR g h0 h1 qr vn vt vd vk vi rf sz ac sF sB sp ou tx ro) → va_S A s.heap H locs → ∀ (ls : Array Slot), lv_has ls 2 [(0, .ref h0), (1, .ref qr)] → W p l e ({ frames := 10, cells := 0, slots := 0, locals := 231 } : Room) s m [.ref h0, .ref qr].toArray below meth c H locs 0 0 (MQ below (zWi g (zMR g h0 h1 qr vn vt vd vk vi rf sz ac sF' sB' sp' ou' tx ro') r A) [.ref h0, .ref qr].toArray s 0 0 A) (F0 m 39 ls []) := by
    intro n
    induction n with
    | zero => intro sF sB sp ou ro h H locs hP hD hS ls hl; exact zn h
    | succ n ih =>
      intro sF sB sp ou ro h H locs hP hD hS ls hl
      rw [fX4_readText_39] at h
      refine lv_aload_n hx hb dX4_readText_39 rfl (lv_at hl 0 rfl) ?_
      refine va_get (ci := 4) (v := .int sp) (C := RX4) (T := TX4) (N := 13) hx hb hts uX4_readText_X4 hown hK hP 0 rfl rfl 11 (by decide) (hts _ mX4_readText_121) (fun _ h9 => h9) rfl dX4_readText_40 ?_
      refine lv_aload_n hx hb dX4_readText_43 rfl (lv_at hl 0 rfl) ?_
      refine va_get (ci := 4) (v := .int sz) (C := RX4) (T := TX4) (N := 13) hx hb hts uX4_readText_X4 hown hK hP 0 rfl rfl 2 (by decide) (hts _ mX4_readText_115) (fun _ h9 => h9) rfl dX4_readText_44 ?_
      refine lv_icmp_ge (tgt := 63) hx hb dX4_readText_47 (by decide) (fun c1 => ?_) (fun c1 => ?_)
      · replace h := zt c1 h
        refine lv_iconst (v := (-1)) hx hb dX4_readText_63 (by decide) ?_
        cases h
        exact zw_i hx hb hr hlocks hP hS dX4_readText_64
      · replace h := zf c1 h
        refine lv_aload_n hx hb dX4_readText_50 rfl (lv_at hl 0 rfl) ?_
        refine lv_aload_n hx hb dX4_readText_51 rfl (lv_at hl 1 rfl) ?_
        obtain ⟨r2, sF2, sB2, sp2, ou2, ro2, e2, h⟩ := zb6 h
        refine zVw (As := [.ref qr]) (rest := []) (zWi_q g _ _) ⟨hx, hb, hml, hown, hts⟩ (kX4_readCommand l g h0 h1 qr vn vt vd vk vi rf sz ac sF sB sp ou tx ro e2) (cwV 1 hts gX4_readText_X4_readCommand rfl rfl rfl hdV_X4_readCommand ⟨Nat.le_of_ble_eq_true rfl, Nat.le_of_ble_eq_true rfl⟩) hK hP hD hS hA [0, 1, 2] (by decide) rfl rfl 0 rfl rfl rfl hl.1 rfl (Nat.le_of_ble_eq_true rfl) ⟨Nat.zero_le _, Nat.zero_le _⟩ dX4_readText_52 (fun H locs hP hD hS => ?_)
        replace hP : zP g (zMR g h0 h1 qr vn vt vd vk vi rf sz ac sF2 sB2 sp2 ou2 tx ro2) H := hP
        replace hD : va_D A (zMR g h0 h1 qr vn vt vd vk vi rf sz ac sF2 sB2 sp2 ou2 tx ro2) := hD
        refine lv_if_ne (tgt := 39) hx hb dX4_readText_55 (by decide) (fun c3 => ?_) (fun c3 => ?_)
        · replace h := zf c3 h
          exact ih sF2 sB2 sp2 ou2 ro2 h H locs hP hD hS ls (lv_sub hl [0, 1] rfl)
        · replace h := zt c3 h
          refine lv_aload_n hx hb dX4_readText_58 rfl (lv_at hl 0 rfl) ?_
          refine va_get (ci := 4) (v := .int sp2) (C := RX4) (T := TX4) (N := 13) hx hb hts uX4_readText_X4 hown hK hP 0 rfl rfl 11 (by decide) (hts _ mX4_readText_121) (fun _ h9 => h9) rfl dX4_readText_59 ?_
          cases h
          exact zw_i hx hb hr hlocks hP hS dX4_readText_62
  unfold fX4_readText at h
  refine lv_aload_n hx hb dX4_readText_0 rfl (lv_at hl 1 rfl) ?_
  obtain ⟨ro4, e4, h⟩ := zb h
  refine zSw (As := [.ref qr]) (rest := []) (zWv_q g _) ⟨hx, hb, hml, hown, hts⟩ (kX4_begin l g qr ro e4) (va_cwS 1 hts gX4_readText_X4_begin rfl rfl rfl hdS_X4_begin ⟨Nat.le_of_ble_eq_true rfl, Nat.le_of_ble_eq_true rfl⟩) hK hP hD hS hA [2] (by decide) rfl rfl rfl hl.1 rfl (Nat.le_of_ble_eq_true rfl) ⟨Nat.zero_le _, Nat.zero_le _⟩ dX4_readText_1 (fun H locs hP hD hS => ?_)
  replace hP : zP g (zMR g h0 h1 qr vn vt vd vk vi rf sz ac sF sB sp ou tx ro4) H := hP
  replace hD : va_D A (zMR g h0 h1 qr vn vt vd vk vi rf sz ac sF sB sp ou tx ro4) := hD
  refine lv_aload_n hx hb dX4_readText_4 rfl (lv_at hl 0 rfl) ?_
  refine lv_iconst (v := 0) hx hb dX4_readText_5 (by decide) ?_
  refine va_put (ci := 4) (v := .int 0) (ty := .int) (C := RX4) (T := TX4) (N := 13) hx hb hts uX4_readText_X4 tyX4 tyX4_ok nmX4 hown hK hP hD hS 0 rfl rfl 12 (by decide) (hts _ mX4_readText_126) (fun _ h9 => h9) rfl (by decide +kernel) rfl rfl (Nat.le_of_ble_eq_true rfl) dX4_readText_6 (fun H locs hP hD hS => ?_)
  replace hP : zP g (zMR g h0 h1 qr vn vt vd vk vi rf sz ac sF sB sp 0 tx ro4) H := hP
  replace hD : va_D A (zMR g h0 h1 qr vn vt vd vk vi rf sz ac sF sB sp 0 tx ro4) := hD
  refine lv_aload_n hx hb dX4_readText_9 rfl (lv_at hl 0 rfl) ?_
  refine lv_iconst (v := 0) hx hb dX4_readText_10 (by decide) ?_
  refine va_put (ci := 4) (v := .int 0) (ty := .int) (C := RX4) (T := TX4) (N := 13) hx hb hts uX4_readText_X4 tyX4 tyX4_ok nmX4 hown hK hP hD hS 0 rfl rfl 11 (by decide) (hts _ mX4_readText_121) (fun _ h9 => h9) rfl (by decide +kernel) rfl rfl (Nat.le_of_ble_eq_true rfl) dX4_readText_11 (fun H locs hP hD hS => ?_)
  replace hP : zP g (zMR g h0 h1 qr vn vt vd vk vi rf sz ac sF sB 0 0 tx ro4) H := hP
  replace hD : va_D A (zMR g h0 h1 qr vn vt vd vk vi rf sz ac sF sB 0 0 tx ro4) := hD
  refine lv_aload_n hx hb dX4_readText_14 rfl (lv_at hl 0 rfl) ?_
  refine va_get (ci := 4) (v := .int sz) (C := RX4) (T := TX4) (N := 13) hx hb hts uX4_readText_X4 hown hK hP 0 rfl rfl 2 (by decide) (hts _ mX4_readText_115) (fun _ h9 => h9) rfl dX4_readText_15 ?_
  refine lv_if_eq (tgt := 32) hx hb dX4_readText_18 (by decide) (fun c5 => ?_) (fun c5 => ?_)
  · replace h := zt c5 h
    refine lv_iconst (v := 0) hx hb dX4_readText_32 (by decide) ?_
    cases h
    exact zw_i hx hb hr hlocks hP hS dX4_readText_33
  · replace h := zf c5 h
    refine lv_aload_n hx hb dX4_readText_21 rfl (lv_at hl 0 rfl) ?_
    refine va_get (ci := 4) (v := .ref h1) (C := RX4) (T := TX4) (N := 13) hx hb hts uX4_readText_X4 hown hK hP 0 rfl rfl 1 (by decide) (hts _ mX4_readText_7) (fun _ h9 => h9) rfl dX4_readText_22 ?_
    refine lv_iconst (v := 0) hx hb dX4_readText_25 (by decide) ?_
    refine za_ild hx hb hK hP 1 rfl 0 (by decide) (by decide) dX4_readText_26 ?_
    refine lv_bipush (v := 68) hx hb dX4_readText_27 (by decide) ?_
    refine lv_icmp_eq (tgt := 34) hx hb dX4_readText_29 (by decide) (fun c6 => ?_) (fun c6 => ?_)
    · replace h := zt c6 h
      refine lv_aload_n hx hb dX4_readText_34 rfl (lv_at hl 0 rfl) ?_
      refine lv_iconst (v := 1) hx hb dX4_readText_35 (by decide) ?_
      refine va_put (ci := 4) (v := .int 1) (ty := .int) (C := RX4) (T := TX4) (N := 13) hx hb hts uX4_readText_X4 tyX4 tyX4_ok nmX4 hown hK hP hD hS 0 rfl rfl 11 (by decide) (hts _ mX4_readText_121) (fun _ h9 => h9) rfl (by decide +kernel) rfl rfl (Nat.le_of_ble_eq_true rfl) dX4_readText_36 (fun H locs hP hD hS => ?_)
      replace hP : zP g (zMR g h0 h1 qr vn vt vd vk vi rf sz ac sF sB 1 0 tx ro4) H := hP
      replace hD : va_D A (zMR g h0 h1 qr vn vt vd vk vi rf sz ac sF sB 1 0 tx ro4) := hD
      exact loop_39 1000 sF sB 1 0 ro4 h H locs hP hD hS ls (lv_sub hl [0, 1] rfl)
    · replace h := zf c6 h
      refine lv_iconst (v := 0) hx hb dX4_readText_32 (by decide) ?_
      cases h
      exact zw_i hx hb hr hlocks hP hS dX4_readText_33
