abbrev zD (g : zG) (h0 h1 h2 h3 h4 : Nat) (b : Nat → Int32) (pF : Nat → Int32) (pL : Nat → Int32) (st : Nat → Int32) (tm : Int32) (qt : Int32) (cm : Int32) (ds : Int32) (dr : Int32) : va_W := [(h0, .inr (0, [.ref h1, .ref h2, .ref h3, .ref h4, .int tm, .int qt, .int cm, .int ds, .int dr])), (h1, .inl (g.2.1, 256, .inl b)), (h2, .inl (g.2.1, 3, .inl pF)), (h3, .inl (g.2.1, 3, .inl pL)), (h4, .inl (g.2.1, 6, .inl st))]
def fX0_time (tm : Int32) : Option (Int32) :=
  some tm
theorem mX0_time_42 : Cond.fieldLink RX0 42 "IdleDiscards$Device" "time" "I" ∈ wsX0_time := by decide +kernel
theorem uX0_time_X0 : ∀ w ∈ wsX00, w ∈ wsX0_time := by decide +kernel
set_option maxRecDepth 100000 in
set_option maxHeartbeats 4000000 in
theorem kX0_time (l : Launch) (g : zG) (h0 h1 h2 h3 h4 : Nat) (b : Nat → Int32) (pF : Nat → Int32) (pL : Nat → Int32) (st : Nat → Int32) (tm : Int32) (qt : Int32) (cm : Int32) (ds : Int32) (dr : Int32) {r : Int32} (h : fX0_time tm = some r) : Mr l g yX0_time wsX0_time { frames := 0, cells := 0, slots := 0, locals := 0 } [.ref h0] (zD g h0 h1 h2 h3 h4 b pF pL st tm qt cm ds dr) (zQi r) := by
  refine zr_in (cc := cX0_time) (maxL := 1) (ret := (some .int)) (by decide) rfl (Nat.le_of_ble_eq_true rfl) ?_
  intro p e s m below meth c hx hb hr hml hts hown hlocks hP hK ls hl
  replace hl : lv_has ls 1 [(0, .ref h0)] := hl
  unfold fX0_time at h
  refine lv_aload_n hx hb dX0_time_0 rfl (lv_at hl 0 rfl) ?_
  refine va_get (ci := 0) (v := .int tm) (C := RX0) (T := TX0) (N := 9) hx hb hts uX0_time_X0 hown hK hP 0 rfl rfl 4 (by decide) (hts _ mX0_time_42) (fun _ h9 => h9) rfl dX0_time_1 ?_
  cases h
  exact zr_i hx hb hr hlocks dX0_time_4
def fX0_quietTicks (qt : Int32) : Option (Int32) :=
  some qt
theorem mX0_quietTicks_46 : Cond.fieldLink RX0 46 "IdleDiscards$Device" "quiet" "I" ∈ wsX0_quietTicks := by decide +kernel
theorem uX0_quietTicks_X0 : ∀ w ∈ wsX00, w ∈ wsX0_quietTicks := by decide +kernel
set_option maxRecDepth 100000 in
set_option maxHeartbeats 4000000 in
theorem kX0_quietTicks (l : Launch) (g : zG) (h0 h1 h2 h3 h4 : Nat) (b : Nat → Int32) (pF : Nat → Int32) (pL : Nat → Int32) (st : Nat → Int32) (tm : Int32) (qt : Int32) (cm : Int32) (ds : Int32) (dr : Int32) {r : Int32} (h : fX0_quietTicks qt = some r) : Mr l g yX0_quietTicks wsX0_quietTicks { frames := 0, cells := 0, slots := 0, locals := 0 } [.ref h0] (zD g h0 h1 h2 h3 h4 b pF pL st tm qt cm ds dr) (zQi r) := by
  refine zr_in (cc := cX0_quietTicks) (maxL := 1) (ret := (some .int)) (by decide) rfl (Nat.le_of_ble_eq_true rfl) ?_
  intro p e s m below meth c hx hb hr hml hts hown hlocks hP hK ls hl
  replace hl : lv_has ls 1 [(0, .ref h0)] := hl
  unfold fX0_quietTicks at h
  refine lv_aload_n hx hb dX0_quietTicks_0 rfl (lv_at hl 0 rfl) ?_
  refine va_get (ci := 0) (v := .int qt) (C := RX0) (T := TX0) (N := 9) hx hb hts uX0_quietTicks_X0 hown hK hP 0 rfl rfl 5 (by decide) (hts _ mX0_quietTicks_46) (fun _ h9 => h9) rfl dX0_quietTicks_1 ?_
  cases h
  exact zr_i hx hb hr hlocks dX0_quietTicks_4
def fX0_commands (cm : Int32) : Option (Int32) :=
  some cm
theorem mX0_commands_49 : Cond.fieldLink RX0 49 "IdleDiscards$Device" "commands" "I" ∈ wsX0_commands := by decide +kernel
theorem uX0_commands_X0 : ∀ w ∈ wsX00, w ∈ wsX0_commands := by decide +kernel
set_option maxRecDepth 100000 in
set_option maxHeartbeats 4000000 in
theorem kX0_commands (l : Launch) (g : zG) (h0 h1 h2 h3 h4 : Nat) (b : Nat → Int32) (pF : Nat → Int32) (pL : Nat → Int32) (st : Nat → Int32) (tm : Int32) (qt : Int32) (cm : Int32) (ds : Int32) (dr : Int32) {r : Int32} (h : fX0_commands cm = some r) : Mr l g yX0_commands wsX0_commands { frames := 0, cells := 0, slots := 0, locals := 0 } [.ref h0] (zD g h0 h1 h2 h3 h4 b pF pL st tm qt cm ds dr) (zQi r) := by
  refine zr_in (cc := cX0_commands) (maxL := 1) (ret := (some .int)) (by decide) rfl (Nat.le_of_ble_eq_true rfl) ?_
  intro p e s m below meth c hx hb hr hml hts hown hlocks hP hK ls hl
  replace hl : lv_has ls 1 [(0, .ref h0)] := hl
  unfold fX0_commands at h
  refine lv_aload_n hx hb dX0_commands_0 rfl (lv_at hl 0 rfl) ?_
  refine va_get (ci := 0) (v := .int cm) (C := RX0) (T := TX0) (N := 9) hx hb hts uX0_commands_X0 hown hK hP 0 rfl rfl 6 (by decide) (hts _ mX0_commands_49) (fun _ h9 => h9) rfl dX0_commands_1 ?_
  cases h
  exact zr_i hx hb hr hlocks dX0_commands_4
def fX0_discarded (ds : Int32) : Option (Int32) :=
  some ds
theorem mX0_discarded_52 : Cond.fieldLink RX0 52 "IdleDiscards$Device" "discarded" "I" ∈ wsX0_discarded := by decide +kernel
theorem uX0_discarded_X0 : ∀ w ∈ wsX00, w ∈ wsX0_discarded := by decide +kernel
set_option maxRecDepth 100000 in
set_option maxHeartbeats 4000000 in
theorem kX0_discarded (l : Launch) (g : zG) (h0 h1 h2 h3 h4 : Nat) (b : Nat → Int32) (pF : Nat → Int32) (pL : Nat → Int32) (st : Nat → Int32) (tm : Int32) (qt : Int32) (cm : Int32) (ds : Int32) (dr : Int32) {r : Int32} (h : fX0_discarded ds = some r) : Mr l g yX0_discarded wsX0_discarded { frames := 0, cells := 0, slots := 0, locals := 0 } [.ref h0] (zD g h0 h1 h2 h3 h4 b pF pL st tm qt cm ds dr) (zQi r) := by
  refine zr_in (cc := cX0_discarded) (maxL := 1) (ret := (some .int)) (by decide) rfl (Nat.le_of_ble_eq_true rfl) ?_
  intro p e s m below meth c hx hb hr hml hts hown hlocks hP hK ls hl
  replace hl : lv_has ls 1 [(0, .ref h0)] := hl
  unfold fX0_discarded at h
  refine lv_aload_n hx hb dX0_discarded_0 rfl (lv_at hl 0 rfl) ?_
  refine va_get (ci := 0) (v := .int ds) (C := RX0) (T := TX0) (N := 9) hx hb hts uX0_discarded_X0 hown hK hP 0 rfl rfl 7 (by decide) (hts _ mX0_discarded_52) (fun _ h9 => h9) rfl dX0_discarded_1 ?_
  cases h
  exact zr_i hx hb hr hlocks dX0_discarded_4
def fX0_dropped (dr : Int32) : Option (Int32) :=
  some dr
theorem mX0_dropped_55 : Cond.fieldLink RX0 55 "IdleDiscards$Device" "dropped" "I" ∈ wsX0_dropped := by decide +kernel
theorem uX0_dropped_X0 : ∀ w ∈ wsX00, w ∈ wsX0_dropped := by decide +kernel
set_option maxRecDepth 100000 in
set_option maxHeartbeats 4000000 in
theorem kX0_dropped (l : Launch) (g : zG) (h0 h1 h2 h3 h4 : Nat) (b : Nat → Int32) (pF : Nat → Int32) (pL : Nat → Int32) (st : Nat → Int32) (tm : Int32) (qt : Int32) (cm : Int32) (ds : Int32) (dr : Int32) {r : Int32} (h : fX0_dropped dr = some r) : Mr l g yX0_dropped wsX0_dropped { frames := 0, cells := 0, slots := 0, locals := 0 } [.ref h0] (zD g h0 h1 h2 h3 h4 b pF pL st tm qt cm ds dr) (zQi r) := by
  refine zr_in (cc := cX0_dropped) (maxL := 1) (ret := (some .int)) (by decide) rfl (Nat.le_of_ble_eq_true rfl) ?_
  intro p e s m below meth c hx hb hr hml hts hown hlocks hP hK ls hl
  replace hl : lv_has ls 1 [(0, .ref h0)] := hl
  unfold fX0_dropped at h
  refine lv_aload_n hx hb dX0_dropped_0 rfl (lv_at hl 0 rfl) ?_
  refine va_get (ci := 0) (v := .int dr) (C := RX0) (T := TX0) (N := 9) hx hb hts uX0_dropped_X0 hown hK hP 0 rfl rfl 8 (by decide) (hts _ mX0_dropped_55) (fun _ h9 => h9) rfl dX0_dropped_1 ?_
  cases h
  exact zr_i hx hb hr hlocks dX0_dropped_4
def fX0_settingAt (st : Nat → Int32) (a1 : Int32) : Option (Int32) :=
  if a1 < 0 ∨ 6 ≤ a1.toNatClampNeg then none else
  some (st a1.toNatClampNeg)
theorem mX0_settingAt_21 : Cond.fieldLink RX0 21 "IdleDiscards$Device" "settings" "[I" ∈ wsX0_settingAt := by decide +kernel
theorem uX0_settingAt_X0 : ∀ w ∈ wsX00, w ∈ wsX0_settingAt := by decide +kernel
set_option maxRecDepth 100000 in
set_option maxHeartbeats 4000000 in
theorem kX0_settingAt (l : Launch) (g : zG) (h0 h1 h2 h3 h4 : Nat) (b : Nat → Int32) (pF : Nat → Int32) (pL : Nat → Int32) (st : Nat → Int32) (tm : Int32) (qt : Int32) (cm : Int32) (ds : Int32) (dr : Int32) (a1 : Int32) {r : Int32} (h : fX0_settingAt st a1 = some r) : Mr l g yX0_settingAt wsX0_settingAt { frames := 0, cells := 0, slots := 0, locals := 0 } [.ref h0, .int a1] (zD g h0 h1 h2 h3 h4 b pF pL st tm qt cm ds dr) (zQi r) := by
  refine zr_in (cc := cX0_settingAt) (maxL := 2) (ret := (some .int)) (by decide) rfl (Nat.le_of_ble_eq_true rfl) ?_
  intro p e s m below meth c hx hb hr hml hts hown hlocks hP hK ls hl
  replace hl : lv_has ls 2 [(0, .ref h0), (1, .int a1)] := hl
  unfold fX0_settingAt at h
  refine lv_aload_n hx hb dX0_settingAt_0 rfl (lv_at hl 0 rfl) ?_
  refine va_get (ci := 0) (v := .ref h4) (C := RX0) (T := TX0) (N := 9) hx hb hts uX0_settingAt_X0 hown hK hP 0 rfl rfl 3 (by decide) (hts _ mX0_settingAt_21) (fun _ h9 => h9) rfl dX0_settingAt_1 ?_
  refine lv_iload_n hx hb dX0_settingAt_4 rfl (lv_at hl 1 rfl) ?_
  obtain ⟨i1, h⟩ := zi h
  refine za_ild hx hb hK hP 4 rfl _ rfl i1 dX0_settingAt_5 ?_
  cases h
  exact zr_i hx hb hr hlocks dX0_settingAt_6
def fX0_changeSetting (st : Nat → Int32) (a1 : Int32) (a2 : Int32) : Option ((Nat → Int32)) :=
  if a1 < 0 ∨ 6 ≤ a1.toNatClampNeg then none else
  some (upd st a1.toNatClampNeg a2)
theorem mX0_changeSetting_21 : Cond.fieldLink RX0 21 "IdleDiscards$Device" "settings" "[I" ∈ wsX0_changeSetting := by decide +kernel
theorem uX0_changeSetting_X0 : ∀ w ∈ wsX00, w ∈ wsX0_changeSetting := by decide +kernel
set_option maxRecDepth 100000 in
set_option maxHeartbeats 4000000 in
theorem kX0_changeSetting (l : Launch) (g : zG) (h0 h1 h2 h3 h4 : Nat) (b : Nat → Int32) (pF : Nat → Int32) (pL : Nat → Int32) (st : Nat → Int32) (tm : Int32) (qt : Int32) (cm : Int32) (ds : Int32) (dr : Int32) (a1 : Int32) (a2 : Int32) {st' : Nat → Int32} (h : fX0_changeSetting st a1 a2 = some st') : Mw l g yX0_changeSetting wsX0_changeSetting { frames := 0, cells := 0, slots := 0, locals := 0 } [.ref h0, .int a1, .int a2] (zD g h0 h1 h2 h3 h4 b pF pL st tm qt cm ds dr) (zWv g (zD g h0 h1 h2 h3 h4 b pF pL st' tm qt cm ds dr)) := by
  refine zw_in (cc := cX0_changeSetting) (maxL := 3) (ret := none) (by decide) rfl (Nat.le_of_ble_eq_true rfl) ?_
  intro p e s m below meth c hx hb hr hml hts hown hlocks hK A hA hP hD hS ls hl
  replace hl : lv_has ls 3 [(0, .ref h0), (1, .int a1), (2, .int a2)] := hl
  unfold fX0_changeSetting at h
  refine lv_aload_n hx hb dX0_changeSetting_0 rfl (lv_at hl 0 rfl) ?_
  refine va_get (ci := 0) (v := .ref h4) (C := RX0) (T := TX0) (N := 9) hx hb hts uX0_changeSetting_X0 hown hK hP 0 rfl rfl 3 (by decide) (hts _ mX0_changeSetting_21) (fun _ h9 => h9) rfl dX0_changeSetting_1 ?_
  refine lv_iload_n hx hb dX0_changeSetting_4 rfl (lv_at hl 1 rfl) ?_
  refine lv_iload_n hx hb dX0_changeSetting_5 rfl (lv_at hl 2 rfl) ?_
  obtain ⟨i1, h⟩ := zi h
  refine za_ist hx hb hK hP hD hS 4 rfl _ rfl i1 dX0_changeSetting_6 (fun H locs hP hD hS => ?_)
  replace hP : zP g (zD g h0 h1 h2 h3 h4 b pF pL (upd st a1.toNatClampNeg a2) tm qt cm ds dr) H := hP
  replace hD : va_D A (zD g h0 h1 h2 h3 h4 b pF pL (upd st a1.toNatClampNeg a2) tm qt cm ds dr) := hD
  cases h
  exact zw_v hx hb hr hlocks hP hS dX0_changeSetting_7
def fX0_isAlive (b : Nat → Int32) (a1 : Int32) : Option (Int32) :=
  if a1 < 0 ∨ 256 ≤ a1.toNatClampNeg then none else
  if (b a1.toNatClampNeg) = (-2) then
    some 1
  else
    some 0
theorem mX0_isAlive_9 : Cond.fieldLink RX0 9 "IdleDiscards$Device" "blocks" "[I" ∈ wsX0_isAlive := by decide +kernel
theorem uX0_isAlive_X0 : ∀ w ∈ wsX00, w ∈ wsX0_isAlive := by decide +kernel
set_option maxRecDepth 100000 in
set_option maxHeartbeats 4000000 in
theorem kX0_isAlive (l : Launch) (g : zG) (h0 h1 h2 h3 h4 : Nat) (b : Nat → Int32) (pF : Nat → Int32) (pL : Nat → Int32) (st : Nat → Int32) (tm : Int32) (qt : Int32) (cm : Int32) (ds : Int32) (dr : Int32) (a1 : Int32) {r : Int32} (h : fX0_isAlive b a1 = some r) : Mr l g yX0_isAlive wsX0_isAlive { frames := 0, cells := 0, slots := 0, locals := 0 } [.ref h0, .int a1] (zD g h0 h1 h2 h3 h4 b pF pL st tm qt cm ds dr) (zQi r) := by
  refine zr_in (cc := cX0_isAlive) (maxL := 2) (ret := (some .boolean)) (by decide) rfl (Nat.le_of_ble_eq_true rfl) ?_
  intro p e s m below meth c hx hb hr hml hts hown hlocks hP hK ls hl
  replace hl : lv_has ls 2 [(0, .ref h0), (1, .int a1)] := hl
  unfold fX0_isAlive at h
  refine lv_aload_n hx hb dX0_isAlive_0 rfl (lv_at hl 0 rfl) ?_
  refine va_get (ci := 0) (v := .ref h1) (C := RX0) (T := TX0) (N := 9) hx hb hts uX0_isAlive_X0 hown hK hP 0 rfl rfl 0 (by decide) (hts _ mX0_isAlive_9) (fun _ h9 => h9) rfl dX0_isAlive_1 ?_
  refine lv_iload_n hx hb dX0_isAlive_4 rfl (lv_at hl 1 rfl) ?_
  obtain ⟨i1, h⟩ := zi h
  refine za_ild hx hb hK hP 1 rfl _ rfl i1 dX0_isAlive_5 ?_
  refine lv_bipush (v := (-2)) hx hb dX0_isAlive_6 (by decide) ?_
  refine lv_icmp_ne (tgt := 15) hx hb dX0_isAlive_8 (by decide) (fun c2 => ?_) (fun c2 => ?_)
  · replace h := zf c2 h
    refine lv_iconst (v := 0) hx hb dX0_isAlive_15 (by decide) ?_
    cases h
    exact zr_z hx hb hr hlocks (by decide) dX0_isAlive_16
  · replace h := zt c2 h
    refine lv_iconst (v := 1) hx hb dX0_isAlive_11 (by decide) ?_
    refine lv_goto (tgt := 16) hx hb dX0_isAlive_12 (by decide) ?_
    cases h
    exact zr_z hx hb hr hlocks (by decide) dX0_isAlive_16
def fX0_isHeld (b : Nat → Int32) (a1 : Int32) : Option (Int32) :=
  if a1 < 0 ∨ 256 ≤ a1.toNatClampNeg then none else
  if (b a1.toNatClampNeg) = (-1) then
    some 0
  else
    some 1
theorem mX0_isHeld_9 : Cond.fieldLink RX0 9 "IdleDiscards$Device" "blocks" "[I" ∈ wsX0_isHeld := by decide +kernel
theorem uX0_isHeld_X0 : ∀ w ∈ wsX00, w ∈ wsX0_isHeld := by decide +kernel
set_option maxRecDepth 100000 in
set_option maxHeartbeats 4000000 in
theorem kX0_isHeld (l : Launch) (g : zG) (h0 h1 h2 h3 h4 : Nat) (b : Nat → Int32) (pF : Nat → Int32) (pL : Nat → Int32) (st : Nat → Int32) (tm : Int32) (qt : Int32) (cm : Int32) (ds : Int32) (dr : Int32) (a1 : Int32) {r : Int32} (h : fX0_isHeld b a1 = some r) : Mr l g yX0_isHeld wsX0_isHeld { frames := 0, cells := 0, slots := 0, locals := 0 } [.ref h0, .int a1] (zD g h0 h1 h2 h3 h4 b pF pL st tm qt cm ds dr) (zQi r) := by
  refine zr_in (cc := cX0_isHeld) (maxL := 2) (ret := (some .boolean)) (by decide) rfl (Nat.le_of_ble_eq_true rfl) ?_
  intro p e s m below meth c hx hb hr hml hts hown hlocks hP hK ls hl
  replace hl : lv_has ls 2 [(0, .ref h0), (1, .int a1)] := hl
  unfold fX0_isHeld at h
  refine lv_aload_n hx hb dX0_isHeld_0 rfl (lv_at hl 0 rfl) ?_
  refine va_get (ci := 0) (v := .ref h1) (C := RX0) (T := TX0) (N := 9) hx hb hts uX0_isHeld_X0 hown hK hP 0 rfl rfl 0 (by decide) (hts _ mX0_isHeld_9) (fun _ h9 => h9) rfl dX0_isHeld_1 ?_
  refine lv_iload_n hx hb dX0_isHeld_4 rfl (lv_at hl 1 rfl) ?_
  obtain ⟨i1, h⟩ := zi h
  refine za_ild hx hb hK hP 1 rfl _ rfl i1 dX0_isHeld_5 ?_
  refine lv_iconst (v := (-1)) hx hb dX0_isHeld_6 (by decide) ?_
  refine lv_icmp_eq (tgt := 14) hx hb dX0_isHeld_7 (by decide) (fun c2 => ?_) (fun c2 => ?_)
  · replace h := zt c2 h
    refine lv_iconst (v := 0) hx hb dX0_isHeld_14 (by decide) ?_
    cases h
    exact zr_z hx hb hr hlocks (by decide) dX0_isHeld_15
  · replace h := zf c2 h
    refine lv_iconst (v := 1) hx hb dX0_isHeld_10 (by decide) ?_
    refine lv_goto (tgt := 15) hx hb dX0_isHeld_11 (by decide) ?_
    cases h
    exact zr_z hx hb hr hlocks (by decide) dX0_isHeld_15
def fX0_isQueued (b : Nat → Int32) (a1 : Int32) : Option (Int32) :=
  if a1 < 0 ∨ 256 ≤ a1.toNatClampNeg then none else
  if (b a1.toNatClampNeg) < 0 then
    some 0
  else
    some 1
theorem mX0_isQueued_9 : Cond.fieldLink RX0 9 "IdleDiscards$Device" "blocks" "[I" ∈ wsX0_isQueued := by decide +kernel
theorem uX0_isQueued_X0 : ∀ w ∈ wsX00, w ∈ wsX0_isQueued := by decide +kernel
set_option maxRecDepth 100000 in
set_option maxHeartbeats 4000000 in
theorem kX0_isQueued (l : Launch) (g : zG) (h0 h1 h2 h3 h4 : Nat) (b : Nat → Int32) (pF : Nat → Int32) (pL : Nat → Int32) (st : Nat → Int32) (tm : Int32) (qt : Int32) (cm : Int32) (ds : Int32) (dr : Int32) (a1 : Int32) {r : Int32} (h : fX0_isQueued b a1 = some r) : Mr l g yX0_isQueued wsX0_isQueued { frames := 0, cells := 0, slots := 0, locals := 0 } [.ref h0, .int a1] (zD g h0 h1 h2 h3 h4 b pF pL st tm qt cm ds dr) (zQi r) := by
  refine zr_in (cc := cX0_isQueued) (maxL := 2) (ret := (some .boolean)) (by decide) rfl (Nat.le_of_ble_eq_true rfl) ?_
  intro p e s m below meth c hx hb hr hml hts hown hlocks hP hK ls hl
  replace hl : lv_has ls 2 [(0, .ref h0), (1, .int a1)] := hl
  unfold fX0_isQueued at h
  refine lv_aload_n hx hb dX0_isQueued_0 rfl (lv_at hl 0 rfl) ?_
  refine va_get (ci := 0) (v := .ref h1) (C := RX0) (T := TX0) (N := 9) hx hb hts uX0_isQueued_X0 hown hK hP 0 rfl rfl 0 (by decide) (hts _ mX0_isQueued_9) (fun _ h9 => h9) rfl dX0_isQueued_1 ?_
  refine lv_iload_n hx hb dX0_isQueued_4 rfl (lv_at hl 1 rfl) ?_
  obtain ⟨i1, h⟩ := zi h
  refine za_ild hx hb hK hP 1 rfl _ rfl i1 dX0_isQueued_5 ?_
  refine lv_if_lt (tgt := 13) hx hb dX0_isQueued_6 (by decide) (fun c2 => ?_) (fun c2 => ?_)
  · replace h := zt c2 h
    refine lv_iconst (v := 0) hx hb dX0_isQueued_13 (by decide) ?_
    cases h
    exact zr_z hx hb hr hlocks (by decide) dX0_isQueued_14
  · replace h := zf c2 h
    refine lv_iconst (v := 1) hx hb dX0_isQueued_9 (by decide) ?_
    refine lv_goto (tgt := 14) hx hb dX0_isQueued_10 (by decide) ?_
    cases h
    exact zr_z hx hb hr hlocks (by decide) dX0_isQueued_14
def fX0_count_4 (b : Nat → Int32) : Nat → Int32 → Int32 → Int32 → Option (Int32)
  | 0, _, _, _ => none
  | n + 1, v1, v2, v3 =>
    if 256 ≤ v3 then
        some v2
      else
        if v3 < 0 ∨ 256 ≤ v3.toNatClampNeg then none else
        if (b v3.toNatClampNeg) = v1 then
          fX0_count_4 b n v1 (v2 + 1) (v3 + 1)
        else
          fX0_count_4 b n v1 v2 (v3 + 1)
def fX0_count (b : Nat → Int32) (a1 : Int32) : Option (Int32) :=
  fX0_count_4 b 1000 a1 0 0
theorem mX0_count_9 : Cond.fieldLink RX0 9 "IdleDiscards$Device" "blocks" "[I" ∈ wsX0_count := by decide +kernel
theorem uX0_count_X0 : ∀ w ∈ wsX00, w ∈ wsX0_count := by decide +kernel
set_option maxRecDepth 100000 in
set_option maxHeartbeats 4000000 in
theorem kX0_count (l : Launch) (g : zG) (h0 h1 h2 h3 h4 : Nat) (b : Nat → Int32) (pF : Nat → Int32) (pL : Nat → Int32) (st : Nat → Int32) (tm : Int32) (qt : Int32) (cm : Int32) (ds : Int32) (dr : Int32) (a1 : Int32) {r : Int32} (h : fX0_count b a1 = some r) : Mr l g yX0_count wsX0_count { frames := 0, cells := 0, slots := 0, locals := 0 } [.ref h0, .int a1] (zD g h0 h1 h2 h3 h4 b pF pL st tm qt cm ds dr) (zQi r) := by
  refine zr_in (cc := cX0_count) (maxL := 4) (ret := (some .int)) (by decide) rfl (Nat.le_of_ble_eq_true rfl) ?_
  intro p e s m below meth c hx hb hr hml hts hown hlocks hP hK ls hl
  replace hl : lv_has ls 4 [(0, .ref h0), (1, .int a1)] := hl
  have loop_4 : ∀ (n : Nat) (v1 : Int32) (v2 : Int32) (v3 : Int32), fX0_count_4 b n v1 v2 v3 = some r → ∀ (ls : Array Slot), lv_has ls 4 [(0, .ref h0), (1, .int v1), (2, .int v2), (3, .int v3)] → W p l e ({ frames := 0, cells := 0, slots := 0, locals := 0 } : Room) s m [.ref h0, .int a1].toArray below meth c s.heap [] 0 0 (MQ below (zQi r) [.ref h0, .int a1].toArray s 0 0 (fun _ => False)) (F0 m 4 ls []) := by
    intro n
    induction n with
    | zero => intro v1 v2 v3 h ls hl; exact zn h
    | succ n ih =>
      intro v1 v2 v3 h ls hl
      rw [fX0_count_4] at h
      refine lv_iload_n hx hb dX0_count_4 rfl (lv_at hl 3 rfl) ?_
      refine lv_sipush (v := 256) hx hb dX0_count_5 (by decide) ?_
      refine lv_icmp_ge (tgt := 30) hx hb dX0_count_8 (by decide) (fun c1 => ?_) (fun c1 => ?_)
      · replace h := zt c1 h
        refine lv_iload_n hx hb dX0_count_30 rfl (lv_at hl 2 rfl) ?_
        cases h
        exact zr_i hx hb hr hlocks dX0_count_31
      · replace h := zf c1 h
        refine lv_aload_n hx hb dX0_count_11 rfl (lv_at hl 0 rfl) ?_
        refine va_get (ci := 0) (v := .ref h1) (C := RX0) (T := TX0) (N := 9) hx hb hts uX0_count_X0 hown hK hP 0 rfl rfl 0 (by decide) (hts _ mX0_count_9) (fun _ h9 => h9) rfl dX0_count_12 ?_
        refine lv_iload_n hx hb dX0_count_15 rfl (lv_at hl 3 rfl) ?_
        obtain ⟨i2, h⟩ := zi h
        refine za_ild hx hb hK hP 1 rfl _ rfl i2 dX0_count_16 ?_
        refine lv_iload_n hx hb dX0_count_17 rfl (lv_at hl 1 rfl) ?_
        refine lv_icmp_ne (tgt := 24) hx hb dX0_count_18 (by decide) (fun c3 => ?_) (fun c3 => ?_)
        · replace h := zf c3 h
          refine lv_iinc (v := (v3 + 1)) (lv' := [(3, .int (v3 + 1)), (0, .ref h0), (1, .int v1), (2, .int v2)]) hx hb dX0_count_24 hl (k := 3) rfl rfl (by decide) rfl (fun ls hl => ?_)
          refine lv_goto (tgt := 4) hx hb dX0_count_27 (by decide) ?_
          exact ih v1 v2 (v3 + 1) h ls (lv_sub hl [1, 2, 3, 0] rfl)
        · replace h := zt c3 h
          refine lv_iinc (v := (v2 + 1)) (lv' := [(2, .int (v2 + 1)), (0, .ref h0), (1, .int v1), (3, .int v3)]) hx hb dX0_count_21 hl (k := 2) rfl rfl (by decide) rfl (fun ls hl => ?_)
          refine lv_iinc (v := (v3 + 1)) (lv' := [(3, .int (v3 + 1)), (2, .int (v2 + 1)), (0, .ref h0), (1, .int v1)]) hx hb dX0_count_24 hl (k := 3) rfl rfl (by decide) rfl (fun ls hl => ?_)
          refine lv_goto (tgt := 4) hx hb dX0_count_27 (by decide) ?_
          exact ih v1 (v2 + 1) (v3 + 1) h ls (lv_sub hl [2, 3, 1, 0] rfl)
  unfold fX0_count at h
  refine lv_iconst (v := 0) hx hb dX0_count_0 (by decide) ?_
  refine lv_istore_n (lv' := [(2, .int 0), (0, .ref h0), (1, .int a1)]) hx hb dX0_count_1 rfl hl (by decide) rfl (fun ls hl => ?_)
  refine lv_iconst (v := 0) hx hb dX0_count_2 (by decide) ?_
  refine lv_istore_n (lv' := [(3, .int 0), (2, .int 0), (0, .ref h0), (1, .int a1)]) hx hb dX0_count_3 rfl hl (by decide) rfl (fun ls hl => ?_)
  exact loop_4 1000 a1 0 0 h ls (lv_sub hl [2, 3, 1, 0] rfl)
def fX0_countQueued_4 (b : Nat → Int32) : Nat → Int32 → Int32 → Option (Int32)
  | 0, _, _ => none
  | n + 1, v1, v2 =>
    if 256 ≤ v2 then
        some v1
      else
        if v2 < 0 ∨ 256 ≤ v2.toNatClampNeg then none else
        if (b v2.toNatClampNeg) < 0 then
          fX0_countQueued_4 b n v1 (v2 + 1)
        else
          fX0_countQueued_4 b n (v1 + 1) (v2 + 1)
def fX0_countQueued (b : Nat → Int32) : Option (Int32) :=
  fX0_countQueued_4 b 1000 0 0
theorem mX0_countQueued_9 : Cond.fieldLink RX0 9 "IdleDiscards$Device" "blocks" "[I" ∈ wsX0_countQueued := by decide +kernel
theorem uX0_countQueued_X0 : ∀ w ∈ wsX00, w ∈ wsX0_countQueued := by decide +kernel
set_option maxRecDepth 100000 in
set_option maxHeartbeats 4000000 in
theorem kX0_countQueued (l : Launch) (g : zG) (h0 h1 h2 h3 h4 : Nat) (b : Nat → Int32) (pF : Nat → Int32) (pL : Nat → Int32) (st : Nat → Int32) (tm : Int32) (qt : Int32) (cm : Int32) (ds : Int32) (dr : Int32) {r : Int32} (h : fX0_countQueued b = some r) : Mr l g yX0_countQueued wsX0_countQueued { frames := 0, cells := 0, slots := 0, locals := 0 } [.ref h0] (zD g h0 h1 h2 h3 h4 b pF pL st tm qt cm ds dr) (zQi r) := by
  refine zr_in (cc := cX0_countQueued) (maxL := 3) (ret := (some .int)) (by decide) rfl (Nat.le_of_ble_eq_true rfl) ?_
  intro p e s m below meth c hx hb hr hml hts hown hlocks hP hK ls hl
  replace hl : lv_has ls 3 [(0, .ref h0)] := hl
  have loop_4 : ∀ (n : Nat) (v1 : Int32) (v2 : Int32), fX0_countQueued_4 b n v1 v2 = some r → ∀ (ls : Array Slot), lv_has ls 3 [(0, .ref h0), (1, .int v1), (2, .int v2)] → W p l e ({ frames := 0, cells := 0, slots := 0, locals := 0 } : Room) s m [.ref h0].toArray below meth c s.heap [] 0 0 (MQ below (zQi r) [.ref h0].toArray s 0 0 (fun _ => False)) (F0 m 4 ls []) := by
    intro n
    induction n with
    | zero => intro v1 v2 h ls hl; exact zn h
    | succ n ih =>
      intro v1 v2 h ls hl
      rw [fX0_countQueued_4] at h
      refine lv_iload_n hx hb dX0_countQueued_4 rfl (lv_at hl 2 rfl) ?_
      refine lv_sipush (v := 256) hx hb dX0_countQueued_5 (by decide) ?_
      refine lv_icmp_ge (tgt := 29) hx hb dX0_countQueued_8 (by decide) (fun c1 => ?_) (fun c1 => ?_)
      · replace h := zt c1 h
        refine lv_iload_n hx hb dX0_countQueued_29 rfl (lv_at hl 1 rfl) ?_
        cases h
        exact zr_i hx hb hr hlocks dX0_countQueued_30
      · replace h := zf c1 h
        refine lv_aload_n hx hb dX0_countQueued_11 rfl (lv_at hl 0 rfl) ?_
        refine va_get (ci := 0) (v := .ref h1) (C := RX0) (T := TX0) (N := 9) hx hb hts uX0_countQueued_X0 hown hK hP 0 rfl rfl 0 (by decide) (hts _ mX0_countQueued_9) (fun _ h9 => h9) rfl dX0_countQueued_12 ?_
        refine lv_iload_n hx hb dX0_countQueued_15 rfl (lv_at hl 2 rfl) ?_
        obtain ⟨i2, h⟩ := zi h
        refine za_ild hx hb hK hP 1 rfl _ rfl i2 dX0_countQueued_16 ?_
        refine lv_if_lt (tgt := 23) hx hb dX0_countQueued_17 (by decide) (fun c3 => ?_) (fun c3 => ?_)
        · replace h := zt c3 h
          refine lv_iinc (v := (v2 + 1)) (lv' := [(2, .int (v2 + 1)), (0, .ref h0), (1, .int v1)]) hx hb dX0_countQueued_23 hl (k := 2) rfl rfl (by decide) rfl (fun ls hl => ?_)
          refine lv_goto (tgt := 4) hx hb dX0_countQueued_26 (by decide) ?_
          exact ih v1 (v2 + 1) h ls (lv_sub hl [1, 2, 0] rfl)
        · replace h := zf c3 h
          refine lv_iinc (v := (v1 + 1)) (lv' := [(1, .int (v1 + 1)), (0, .ref h0), (2, .int v2)]) hx hb dX0_countQueued_20 hl (k := 1) rfl rfl (by decide) rfl (fun ls hl => ?_)
          refine lv_iinc (v := (v2 + 1)) (lv' := [(2, .int (v2 + 1)), (1, .int (v1 + 1)), (0, .ref h0)]) hx hb dX0_countQueued_23 hl (k := 2) rfl rfl (by decide) rfl (fun ls hl => ?_)
          refine lv_goto (tgt := 4) hx hb dX0_countQueued_26 (by decide) ?_
          exact ih (v1 + 1) (v2 + 1) h ls (lv_sub hl [2, 1, 0] rfl)
  unfold fX0_countQueued at h
  refine lv_iconst (v := 0) hx hb dX0_countQueued_0 (by decide) ?_
  refine lv_istore_n (lv' := [(1, .int 0), (0, .ref h0)]) hx hb dX0_countQueued_1 rfl hl (by decide) rfl (fun ls hl => ?_)
  refine lv_iconst (v := 0) hx hb dX0_countQueued_2 (by decide) ?_
  refine lv_istore_n (lv' := [(2, .int 0), (1, .int 0), (0, .ref h0)]) hx hb dX0_countQueued_3 rfl hl (by decide) rfl (fun ls hl => ?_)
  exact loop_4 1000 0 0 h ls (lv_sub hl [2, 1, 0] rfl)
def fX0_queueNow_60 (tm : Int32) : Nat → Int32 → (Nat → Int32) → Option ((Nat → Int32))
  | 0, _, _ => none
  | n + 1, v2, b =>
    if 256 ≤ v2 then
        some b
      else
        if v2 < 0 ∨ 256 ≤ v2.toNatClampNeg then none else
        if (b v2.toNatClampNeg) < 0 then
          some b
        else
          if v2 < 0 ∨ 256 ≤ v2.toNatClampNeg then none else
          if (b v2.toNatClampNeg) = tm then
            some b
          else
            if v2 < 0 ∨ 256 ≤ v2.toNatClampNeg then none else
            fX0_queueNow_60 tm n (v2 + 1) (upd b v2.toNatClampNeg tm)
def fX0_queueNow_14 (tm : Int32) : Nat → Int32 → Int32 → (Nat → Int32) → Option ((Nat → Int32))
  | 0, _, _, _ => none
  | n + 1, v1, v2, b =>
    if v2 < 0 then
        fX0_queueNow_60 tm 1000 (v1 + 1) b
      else
        if v2 < 0 ∨ 256 ≤ v2.toNatClampNeg then none else
        if (b v2.toNatClampNeg) < 0 then
          fX0_queueNow_60 tm 1000 (v1 + 1) b
        else
          if v2 < 0 ∨ 256 ≤ v2.toNatClampNeg then none else
          if (b v2.toNatClampNeg) = tm then
            fX0_queueNow_60 tm 1000 (v1 + 1) b
          else
            if v2 < 0 ∨ 256 ≤ v2.toNatClampNeg then none else
            fX0_queueNow_14 tm n v1 (v2 + (-1)) (upd b v2.toNatClampNeg tm)
def fX0_queueNow (b : Nat → Int32) (tm : Int32) (a1 : Int32) : Option ((Nat → Int32)) :=
  if a1 < 0 ∨ 256 ≤ a1.toNatClampNeg then none else
  fX0_queueNow_14 tm 1000 a1 (a1 - 1) (upd b a1.toNatClampNeg tm)
theorem mX0_queueNow_9 : Cond.fieldLink RX0 9 "IdleDiscards$Device" "blocks" "[I" ∈ wsX0_queueNow := by decide +kernel
theorem uX0_queueNow_X0 : ∀ w ∈ wsX00, w ∈ wsX0_queueNow := by decide +kernel
theorem mX0_queueNow_42 : Cond.fieldLink RX0 42 "IdleDiscards$Device" "time" "I" ∈ wsX0_queueNow := by decide +kernel
set_option maxRecDepth 100000 in
set_option maxHeartbeats 4000000 in
theorem kX0_queueNow (l : Launch) (g : zG) (h0 h1 h2 h3 h4 : Nat) (b : Nat → Int32) (pF : Nat → Int32) (pL : Nat → Int32) (st : Nat → Int32) (tm : Int32) (qt : Int32) (cm : Int32) (ds : Int32) (dr : Int32) (a1 : Int32) {b' : Nat → Int32} (h : fX0_queueNow b tm a1 = some b') : Mw l g yX0_queueNow wsX0_queueNow { frames := 0, cells := 0, slots := 0, locals := 0 } [.ref h0, .int a1] (zD g h0 h1 h2 h3 h4 b pF pL st tm qt cm ds dr) (zWv g (zD g h0 h1 h2 h3 h4 b' pF pL st tm qt cm ds dr)) := by
  refine zw_in (cc := cX0_queueNow) (maxL := 3) (ret := none) (by decide) rfl (Nat.le_of_ble_eq_true rfl) ?_
  intro p e s m below meth c hx hb hr hml hts hown hlocks hK A hA hP hD hS ls hl
  replace hl : lv_has ls 3 [(0, .ref h0), (1, .int a1)] := hl
  have loop_60 : ∀ (n : Nat) (v2 : Int32) (b : (Nat → Int32)), fX0_queueNow_60 tm n v2 b = some b' → ∀ (H : Heap) (locs : List Loc), zP g (zD g h0 h1 h2 h3 h4 b pF pL st tm qt cm ds dr) H → va_D A (zD g h0 h1 h2 h3 h4 b pF pL st tm qt cm ds dr) → va_S A s.heap H locs → ∀ (ls : Array Slot), lv_has ls 3 [(0, .ref h0), (2, .int v2)] → W p l e ({ frames := 0, cells := 0, slots := 0, locals := 0 } : Room) s m [.ref h0, .int a1].toArray below meth c H locs 0 0 (MQ below (zWv g (zD g h0 h1 h2 h3 h4 b' pF pL st tm qt cm ds dr) A) [.ref h0, .int a1].toArray s 0 0 A) (F0 m 60 ls []) := by
    intro n
    induction n with
    | zero => intro v2 b h H locs hP hD hS ls hl; exact zn h
    | succ n ih =>
      intro v2 b h H locs hP hD hS ls hl
      rw [fX0_queueNow_60] at h
      refine lv_iload_n hx hb dX0_queueNow_60 rfl (lv_at hl 1 rfl) ?_
      refine lv_sipush (v := 256) hx hb dX0_queueNow_61 (by decide) ?_
      refine lv_icmp_ge (tgt := 105) hx hb dX0_queueNow_64 (by decide) (fun c1 => ?_) (fun c1 => ?_)
      · replace h := zt c1 h
        cases h
        exact zw_v hx hb hr hlocks hP hS dX0_queueNow_105
      · replace h := zf c1 h
        refine lv_aload_n hx hb dX0_queueNow_67 rfl (lv_at hl 0 rfl) ?_
        refine va_get (ci := 0) (v := .ref h1) (C := RX0) (T := TX0) (N := 9) hx hb hts uX0_queueNow_X0 hown hK hP 0 rfl rfl 0 (by decide) (hts _ mX0_queueNow_9) (fun _ h9 => h9) rfl dX0_queueNow_68 ?_
        refine lv_iload_n hx hb dX0_queueNow_71 rfl (lv_at hl 1 rfl) ?_
        obtain ⟨i2, h⟩ := zi h
        refine za_ild hx hb hK hP 1 rfl _ rfl i2 dX0_queueNow_72 ?_
        refine lv_if_lt (tgt := 105) hx hb dX0_queueNow_73 (by decide) (fun c3 => ?_) (fun c3 => ?_)
        · replace h := zt c3 h
          cases h
          exact zw_v hx hb hr hlocks hP hS dX0_queueNow_105
        · replace h := zf c3 h
          refine lv_aload_n hx hb dX0_queueNow_76 rfl (lv_at hl 0 rfl) ?_
          refine va_get (ci := 0) (v := .ref h1) (C := RX0) (T := TX0) (N := 9) hx hb hts uX0_queueNow_X0 hown hK hP 0 rfl rfl 0 (by decide) (hts _ mX0_queueNow_9) (fun _ h9 => h9) rfl dX0_queueNow_77 ?_
          refine lv_iload_n hx hb dX0_queueNow_80 rfl (lv_at hl 1 rfl) ?_
          obtain ⟨i4, h⟩ := zi h
          refine za_ild hx hb hK hP 1 rfl _ rfl i4 dX0_queueNow_81 ?_
          refine lv_aload_n hx hb dX0_queueNow_82 rfl (lv_at hl 0 rfl) ?_
          refine va_get (ci := 0) (v := .int tm) (C := RX0) (T := TX0) (N := 9) hx hb hts uX0_queueNow_X0 hown hK hP 0 rfl rfl 4 (by decide) (hts _ mX0_queueNow_42) (fun _ h9 => h9) rfl dX0_queueNow_83 ?_
          refine lv_icmp_eq (tgt := 105) hx hb dX0_queueNow_86 (by decide) (fun c5 => ?_) (fun c5 => ?_)
          · replace h := zt c5 h
            cases h
            exact zw_v hx hb hr hlocks hP hS dX0_queueNow_105
          · replace h := zf c5 h
            refine lv_aload_n hx hb dX0_queueNow_89 rfl (lv_at hl 0 rfl) ?_
            refine va_get (ci := 0) (v := .ref h1) (C := RX0) (T := TX0) (N := 9) hx hb hts uX0_queueNow_X0 hown hK hP 0 rfl rfl 0 (by decide) (hts _ mX0_queueNow_9) (fun _ h9 => h9) rfl dX0_queueNow_90 ?_
            refine lv_iload_n hx hb dX0_queueNow_93 rfl (lv_at hl 1 rfl) ?_
            refine lv_aload_n hx hb dX0_queueNow_94 rfl (lv_at hl 0 rfl) ?_
            refine va_get (ci := 0) (v := .int tm) (C := RX0) (T := TX0) (N := 9) hx hb hts uX0_queueNow_X0 hown hK hP 0 rfl rfl 4 (by decide) (hts _ mX0_queueNow_42) (fun _ h9 => h9) rfl dX0_queueNow_95 ?_
            obtain ⟨i6, h⟩ := zi h
            refine za_ist hx hb hK hP hD hS 1 rfl _ rfl i6 dX0_queueNow_98 (fun H locs hP hD hS => ?_)
            replace hP : zP g (zD g h0 h1 h2 h3 h4 (upd b v2.toNatClampNeg tm) pF pL st tm qt cm ds dr) H := hP
            replace hD : va_D A (zD g h0 h1 h2 h3 h4 (upd b v2.toNatClampNeg tm) pF pL st tm qt cm ds dr) := hD
            refine lv_iinc (v := (v2 + 1)) (lv' := [(2, .int (v2 + 1)), (0, .ref h0)]) hx hb dX0_queueNow_99 hl (k := 1) rfl rfl (by decide) rfl (fun ls hl => ?_)
            refine lv_goto (tgt := 60) hx hb dX0_queueNow_102 (by decide) ?_
            exact ih (v2 + 1) (upd b v2.toNatClampNeg tm) h H locs hP hD hS ls (lv_sub hl [1, 0] rfl)
  have loop_14 : ∀ (n : Nat) (v1 : Int32) (v2 : Int32) (b : (Nat → Int32)), fX0_queueNow_14 tm n v1 v2 b = some b' → ∀ (H : Heap) (locs : List Loc), zP g (zD g h0 h1 h2 h3 h4 b pF pL st tm qt cm ds dr) H → va_D A (zD g h0 h1 h2 h3 h4 b pF pL st tm qt cm ds dr) → va_S A s.heap H locs → ∀ (ls : Array Slot), lv_has ls 3 [(0, .ref h0), (1, .int v1), (2, .int v2)] → W p l e ({ frames := 0, cells := 0, slots := 0, locals := 0 } : Room) s m [.ref h0, .int a1].toArray below meth c H locs 0 0 (MQ below (zWv g (zD g h0 h1 h2 h3 h4 b' pF pL st tm qt cm ds dr) A) [.ref h0, .int a1].toArray s 0 0 A) (F0 m 14 ls []) := by
    intro n
    induction n with
    | zero => intro v1 v2 b h H locs hP hD hS ls hl; exact zn h
    | succ n ih =>
      intro v1 v2 b h H locs hP hD hS ls hl
      rw [fX0_queueNow_14] at h
      refine lv_iload_n hx hb dX0_queueNow_14 rfl (lv_at hl 2 rfl) ?_
      refine lv_if_lt (tgt := 56) hx hb dX0_queueNow_15 (by decide) (fun c7 => ?_) (fun c7 => ?_)
      · replace h := zt c7 h
        refine lv_iload_n hx hb dX0_queueNow_56 rfl (lv_at hl 1 rfl) ?_
        refine lv_iconst (v := 1) hx hb dX0_queueNow_57 (by decide) ?_
        refine lv_iadd hx hb dX0_queueNow_58 ?_
        refine lv_istore_n (lv' := [(2, .int (v1 + 1)), (0, .ref h0), (1, .int v1)]) hx hb dX0_queueNow_59 rfl hl (by decide) rfl (fun ls hl => ?_)
        exact loop_60 1000 (v1 + 1) b h H locs hP hD hS ls (lv_sub hl [1, 0] rfl)
      · replace h := zf c7 h
        refine lv_aload_n hx hb dX0_queueNow_18 rfl (lv_at hl 0 rfl) ?_
        refine va_get (ci := 0) (v := .ref h1) (C := RX0) (T := TX0) (N := 9) hx hb hts uX0_queueNow_X0 hown hK hP 0 rfl rfl 0 (by decide) (hts _ mX0_queueNow_9) (fun _ h9 => h9) rfl dX0_queueNow_19 ?_
        refine lv_iload_n hx hb dX0_queueNow_22 rfl (lv_at hl 2 rfl) ?_
        obtain ⟨i8, h⟩ := zi h
        refine za_ild hx hb hK hP 1 rfl _ rfl i8 dX0_queueNow_23 ?_
        refine lv_if_lt (tgt := 56) hx hb dX0_queueNow_24 (by decide) (fun c9 => ?_) (fun c9 => ?_)
        · replace h := zt c9 h
          refine lv_iload_n hx hb dX0_queueNow_56 rfl (lv_at hl 1 rfl) ?_
          refine lv_iconst (v := 1) hx hb dX0_queueNow_57 (by decide) ?_
          refine lv_iadd hx hb dX0_queueNow_58 ?_
          refine lv_istore_n (lv' := [(2, .int (v1 + 1)), (0, .ref h0), (1, .int v1)]) hx hb dX0_queueNow_59 rfl hl (by decide) rfl (fun ls hl => ?_)
          exact loop_60 1000 (v1 + 1) b h H locs hP hD hS ls (lv_sub hl [1, 0] rfl)
        · replace h := zf c9 h
          refine lv_aload_n hx hb dX0_queueNow_27 rfl (lv_at hl 0 rfl) ?_
          refine va_get (ci := 0) (v := .ref h1) (C := RX0) (T := TX0) (N := 9) hx hb hts uX0_queueNow_X0 hown hK hP 0 rfl rfl 0 (by decide) (hts _ mX0_queueNow_9) (fun _ h9 => h9) rfl dX0_queueNow_28 ?_
          refine lv_iload_n hx hb dX0_queueNow_31 rfl (lv_at hl 2 rfl) ?_
          obtain ⟨i10, h⟩ := zi h
          refine za_ild hx hb hK hP 1 rfl _ rfl i10 dX0_queueNow_32 ?_
          refine lv_aload_n hx hb dX0_queueNow_33 rfl (lv_at hl 0 rfl) ?_
          refine va_get (ci := 0) (v := .int tm) (C := RX0) (T := TX0) (N := 9) hx hb hts uX0_queueNow_X0 hown hK hP 0 rfl rfl 4 (by decide) (hts _ mX0_queueNow_42) (fun _ h9 => h9) rfl dX0_queueNow_34 ?_
          refine lv_icmp_eq (tgt := 56) hx hb dX0_queueNow_37 (by decide) (fun c11 => ?_) (fun c11 => ?_)
          · replace h := zt c11 h
            refine lv_iload_n hx hb dX0_queueNow_56 rfl (lv_at hl 1 rfl) ?_
            refine lv_iconst (v := 1) hx hb dX0_queueNow_57 (by decide) ?_
            refine lv_iadd hx hb dX0_queueNow_58 ?_
            refine lv_istore_n (lv' := [(2, .int (v1 + 1)), (0, .ref h0), (1, .int v1)]) hx hb dX0_queueNow_59 rfl hl (by decide) rfl (fun ls hl => ?_)
            exact loop_60 1000 (v1 + 1) b h H locs hP hD hS ls (lv_sub hl [1, 0] rfl)
          · replace h := zf c11 h
            refine lv_aload_n hx hb dX0_queueNow_40 rfl (lv_at hl 0 rfl) ?_
            refine va_get (ci := 0) (v := .ref h1) (C := RX0) (T := TX0) (N := 9) hx hb hts uX0_queueNow_X0 hown hK hP 0 rfl rfl 0 (by decide) (hts _ mX0_queueNow_9) (fun _ h9 => h9) rfl dX0_queueNow_41 ?_
            refine lv_iload_n hx hb dX0_queueNow_44 rfl (lv_at hl 2 rfl) ?_
            refine lv_aload_n hx hb dX0_queueNow_45 rfl (lv_at hl 0 rfl) ?_
            refine va_get (ci := 0) (v := .int tm) (C := RX0) (T := TX0) (N := 9) hx hb hts uX0_queueNow_X0 hown hK hP 0 rfl rfl 4 (by decide) (hts _ mX0_queueNow_42) (fun _ h9 => h9) rfl dX0_queueNow_46 ?_
            obtain ⟨i12, h⟩ := zi h
            refine za_ist hx hb hK hP hD hS 1 rfl _ rfl i12 dX0_queueNow_49 (fun H locs hP hD hS => ?_)
            replace hP : zP g (zD g h0 h1 h2 h3 h4 (upd b v2.toNatClampNeg tm) pF pL st tm qt cm ds dr) H := hP
            replace hD : va_D A (zD g h0 h1 h2 h3 h4 (upd b v2.toNatClampNeg tm) pF pL st tm qt cm ds dr) := hD
            refine lv_iinc (v := (v2 + (-1))) (lv' := [(2, .int (v2 + (-1))), (0, .ref h0), (1, .int v1)]) hx hb dX0_queueNow_50 hl (k := 2) rfl rfl (by decide) rfl (fun ls hl => ?_)
            refine lv_goto (tgt := 14) hx hb dX0_queueNow_53 (by decide) ?_
            exact ih v1 (v2 + (-1)) (upd b v2.toNatClampNeg tm) h H locs hP hD hS ls (lv_sub hl [1, 2, 0] rfl)
  unfold fX0_queueNow at h
  refine lv_aload_n hx hb dX0_queueNow_0 rfl (lv_at hl 0 rfl) ?_
  refine va_get (ci := 0) (v := .ref h1) (C := RX0) (T := TX0) (N := 9) hx hb hts uX0_queueNow_X0 hown hK hP 0 rfl rfl 0 (by decide) (hts _ mX0_queueNow_9) (fun _ h9 => h9) rfl dX0_queueNow_1 ?_
  refine lv_iload_n hx hb dX0_queueNow_4 rfl (lv_at hl 1 rfl) ?_
  refine lv_aload_n hx hb dX0_queueNow_5 rfl (lv_at hl 0 rfl) ?_
  refine va_get (ci := 0) (v := .int tm) (C := RX0) (T := TX0) (N := 9) hx hb hts uX0_queueNow_X0 hown hK hP 0 rfl rfl 4 (by decide) (hts _ mX0_queueNow_42) (fun _ h9 => h9) rfl dX0_queueNow_6 ?_
  obtain ⟨i13, h⟩ := zi h
  refine za_ist hx hb hK hP hD hS 1 rfl _ rfl i13 dX0_queueNow_9 (fun H locs hP hD hS => ?_)
  replace hP : zP g (zD g h0 h1 h2 h3 h4 (upd b a1.toNatClampNeg tm) pF pL st tm qt cm ds dr) H := hP
  replace hD : va_D A (zD g h0 h1 h2 h3 h4 (upd b a1.toNatClampNeg tm) pF pL st tm qt cm ds dr) := hD
  refine lv_iload_n hx hb dX0_queueNow_10 rfl (lv_at hl 1 rfl) ?_
  refine lv_iconst (v := 1) hx hb dX0_queueNow_11 (by decide) ?_
  refine lv_isub hx hb dX0_queueNow_12 ?_
  refine lv_istore_n (lv' := [(2, .int (a1 - 1)), (0, .ref h0), (1, .int a1)]) hx hb dX0_queueNow_13 rfl hl (by decide) rfl (fun ls hl => ?_)
  exact loop_14 1000 a1 (a1 - 1) (upd b a1.toNatClampNeg tm) h H locs hP hD hS ls (lv_sub hl [1, 2, 0] rfl)
def fX0_shortestRange_11 (b : Nat → Int32) : Nat → Int32 → Int32 → Int32 → Int32 → Option (Int32)
  | 0, _, _, _, _ => none
  | n + 1, v1, v2, v3, v4 =>
    if 256 < v4 then
        some v1
      else
        if 256 ≤ v4 then
          if v3 ≤ 0 then
            fX0_shortestRange_11 b n v1 v2 0 (v4 + 1)
          else
            if v2 ≤ v3 then
              fX0_shortestRange_11 b n v1 v2 0 (v4 + 1)
            else
              fX0_shortestRange_11 b n (v4 - v3) v3 0 (v4 + 1)
        else
          if v4 < 0 ∨ 256 ≤ v4.toNatClampNeg then none else
          if (b v4.toNatClampNeg) < 0 then
            if v3 ≤ 0 then
              fX0_shortestRange_11 b n v1 v2 0 (v4 + 1)
            else
              if v2 ≤ v3 then
                fX0_shortestRange_11 b n v1 v2 0 (v4 + 1)
              else
                fX0_shortestRange_11 b n (v4 - v3) v3 0 (v4 + 1)
          else
            fX0_shortestRange_11 b n v1 v2 (v3 + 1) (v4 + 1)
def fX0_shortestRange (b : Nat → Int32) : Option (Int32) :=
  fX0_shortestRange_11 b 1000 0 257 0 0
theorem mX0_shortestRange_9 : Cond.fieldLink RX0 9 "IdleDiscards$Device" "blocks" "[I" ∈ wsX0_shortestRange := by decide +kernel
theorem uX0_shortestRange_X0 : ∀ w ∈ wsX00, w ∈ wsX0_shortestRange := by decide +kernel
set_option maxRecDepth 100000 in
set_option maxHeartbeats 4000000 in
theorem kX0_shortestRange (l : Launch) (g : zG) (h0 h1 h2 h3 h4 : Nat) (b : Nat → Int32) (pF : Nat → Int32) (pL : Nat → Int32) (st : Nat → Int32) (tm : Int32) (qt : Int32) (cm : Int32) (ds : Int32) (dr : Int32) {r : Int32} (h : fX0_shortestRange b = some r) : Mr l g yX0_shortestRange wsX0_shortestRange { frames := 0, cells := 0, slots := 0, locals := 0 } [.ref h0] (zD g h0 h1 h2 h3 h4 b pF pL st tm qt cm ds dr) (zQi r) := by
  refine zr_in (cc := cX0_shortestRange) (maxL := 5) (ret := (some .int)) (by decide) rfl (Nat.le_of_ble_eq_true rfl) ?_
  intro p e s m below meth c hx hb hr hml hts hown hlocks hP hK ls hl
  replace hl : lv_has ls 5 [(0, .ref h0)] := hl
  have loop_11 : ∀ (n : Nat) (v1 : Int32) (v2 : Int32) (v3 : Int32) (v4 : Int32), fX0_shortestRange_11 b n v1 v2 v3 v4 = some r → ∀ (ls : Array Slot), lv_has ls 5 [(0, .ref h0), (1, .int v1), (2, .int v2), (3, .int v3), (4, .int v4)] → W p l e ({ frames := 0, cells := 0, slots := 0, locals := 0 } : Room) s m [.ref h0].toArray below meth c s.heap [] 0 0 (MQ below (zQi r) [.ref h0].toArray s 0 0 (fun _ => False)) (F0 m 11 ls []) := by
    intro n
    induction n with
    | zero => intro v1 v2 v3 v4 h ls hl; exact zn h
    | succ n ih =>
      intro v1 v2 v3 v4 h ls hl
      rw [fX0_shortestRange_11] at h
      refine lv_iload hx hb dX0_shortestRange_11 (lv_at hl 4 rfl) ?_
      refine lv_sipush (v := 256) hx hb dX0_shortestRange_13 (by decide) ?_
      refine lv_icmp_gt (tgt := 67) hx hb dX0_shortestRange_16 (by decide) (fun c1 => ?_) (fun c1 => ?_)
      · replace h := zt c1 h
        refine lv_iload_n hx hb dX0_shortestRange_67 rfl (lv_at hl 1 rfl) ?_
        cases h
        exact zr_i hx hb hr hlocks dX0_shortestRange_68
      · replace h := zf c1 h
        refine lv_iload hx hb dX0_shortestRange_19 (lv_at hl 4 rfl) ?_
        refine lv_sipush (v := 256) hx hb dX0_shortestRange_21 (by decide) ?_
        refine lv_icmp_ge (tgt := 43) hx hb dX0_shortestRange_24 (by decide) (fun c2 => ?_) (fun c2 => ?_)
        · replace h := zt c2 h
          refine lv_iload_n hx hb dX0_shortestRange_43 rfl (lv_at hl 3 rfl) ?_
          refine lv_if_le (tgt := 59) hx hb dX0_shortestRange_44 (by decide) (fun c3 => ?_) (fun c3 => ?_)
          · replace h := zt c3 h
            refine lv_iconst (v := 0) hx hb dX0_shortestRange_59 (by decide) ?_
            refine lv_istore_n (lv' := [(3, .int 0), (0, .ref h0), (1, .int v1), (2, .int v2), (4, .int v4)]) hx hb dX0_shortestRange_60 rfl hl (by decide) rfl (fun ls hl => ?_)
            refine lv_iinc (v := (v4 + 1)) (lv' := [(4, .int (v4 + 1)), (3, .int 0), (0, .ref h0), (1, .int v1), (2, .int v2)]) hx hb dX0_shortestRange_61 hl (k := 4) rfl rfl (by decide) rfl (fun ls hl => ?_)
            refine lv_goto (tgt := 11) hx hb dX0_shortestRange_64 (by decide) ?_
            exact ih v1 v2 0 (v4 + 1) h ls (lv_sub hl [2, 3, 4, 1, 0] rfl)
          · replace h := zf c3 h
            refine lv_iload_n hx hb dX0_shortestRange_47 rfl (lv_at hl 3 rfl) ?_
            refine lv_iload_n hx hb dX0_shortestRange_48 rfl (lv_at hl 2 rfl) ?_
            refine lv_icmp_ge (tgt := 59) hx hb dX0_shortestRange_49 (by decide) (fun c4 => ?_) (fun c4 => ?_)
            · replace h := zt c4 h
              refine lv_iconst (v := 0) hx hb dX0_shortestRange_59 (by decide) ?_
              refine lv_istore_n (lv' := [(3, .int 0), (0, .ref h0), (1, .int v1), (2, .int v2), (4, .int v4)]) hx hb dX0_shortestRange_60 rfl hl (by decide) rfl (fun ls hl => ?_)
              refine lv_iinc (v := (v4 + 1)) (lv' := [(4, .int (v4 + 1)), (3, .int 0), (0, .ref h0), (1, .int v1), (2, .int v2)]) hx hb dX0_shortestRange_61 hl (k := 4) rfl rfl (by decide) rfl (fun ls hl => ?_)
              refine lv_goto (tgt := 11) hx hb dX0_shortestRange_64 (by decide) ?_
              exact ih v1 v2 0 (v4 + 1) h ls (lv_sub hl [2, 3, 4, 1, 0] rfl)
            · replace h := zf c4 h
              refine lv_iload hx hb dX0_shortestRange_52 (lv_at hl 4 rfl) ?_
              refine lv_iload_n hx hb dX0_shortestRange_54 rfl (lv_at hl 3 rfl) ?_
              refine lv_isub hx hb dX0_shortestRange_55 ?_
              refine lv_istore_n (lv' := [(1, .int (v4 - v3)), (0, .ref h0), (2, .int v2), (3, .int v3), (4, .int v4)]) hx hb dX0_shortestRange_56 rfl hl (by decide) rfl (fun ls hl => ?_)
              refine lv_iload_n hx hb dX0_shortestRange_57 rfl (lv_at hl 3 rfl) ?_
              refine lv_istore_n (lv' := [(2, .int v3), (1, .int (v4 - v3)), (0, .ref h0), (3, .int v3), (4, .int v4)]) hx hb dX0_shortestRange_58 rfl hl (by decide) rfl (fun ls hl => ?_)
              refine lv_iconst (v := 0) hx hb dX0_shortestRange_59 (by decide) ?_
              refine lv_istore_n (lv' := [(3, .int 0), (2, .int v3), (1, .int (v4 - v3)), (0, .ref h0), (4, .int v4)]) hx hb dX0_shortestRange_60 rfl hl (by decide) rfl (fun ls hl => ?_)
              refine lv_iinc (v := (v4 + 1)) (lv' := [(4, .int (v4 + 1)), (3, .int 0), (2, .int v3), (1, .int (v4 - v3)), (0, .ref h0)]) hx hb dX0_shortestRange_61 hl (k := 4) rfl rfl (by decide) rfl (fun ls hl => ?_)
              refine lv_goto (tgt := 11) hx hb dX0_shortestRange_64 (by decide) ?_
              exact ih (v4 - v3) v3 0 (v4 + 1) h ls (lv_sub hl [4, 3, 2, 1, 0] rfl)
        · replace h := zf c2 h
          refine lv_aload_n hx hb dX0_shortestRange_27 rfl (lv_at hl 0 rfl) ?_
          refine va_get (ci := 0) (v := .ref h1) (C := RX0) (T := TX0) (N := 9) hx hb hts uX0_shortestRange_X0 hown hK hP 0 rfl rfl 0 (by decide) (hts _ mX0_shortestRange_9) (fun _ h9 => h9) rfl dX0_shortestRange_28 ?_
          refine lv_iload hx hb dX0_shortestRange_31 (lv_at hl 4 rfl) ?_
          obtain ⟨i5, h⟩ := zi h
          refine za_ild hx hb hK hP 1 rfl _ rfl i5 dX0_shortestRange_33 ?_
          refine lv_if_lt (tgt := 43) hx hb dX0_shortestRange_34 (by decide) (fun c6 => ?_) (fun c6 => ?_)
          · replace h := zt c6 h
            refine lv_iload_n hx hb dX0_shortestRange_43 rfl (lv_at hl 3 rfl) ?_
            refine lv_if_le (tgt := 59) hx hb dX0_shortestRange_44 (by decide) (fun c7 => ?_) (fun c7 => ?_)
            · replace h := zt c7 h
              refine lv_iconst (v := 0) hx hb dX0_shortestRange_59 (by decide) ?_
              refine lv_istore_n (lv' := [(3, .int 0), (0, .ref h0), (1, .int v1), (2, .int v2), (4, .int v4)]) hx hb dX0_shortestRange_60 rfl hl (by decide) rfl (fun ls hl => ?_)
              refine lv_iinc (v := (v4 + 1)) (lv' := [(4, .int (v4 + 1)), (3, .int 0), (0, .ref h0), (1, .int v1), (2, .int v2)]) hx hb dX0_shortestRange_61 hl (k := 4) rfl rfl (by decide) rfl (fun ls hl => ?_)
              refine lv_goto (tgt := 11) hx hb dX0_shortestRange_64 (by decide) ?_
              exact ih v1 v2 0 (v4 + 1) h ls (lv_sub hl [2, 3, 4, 1, 0] rfl)
            · replace h := zf c7 h
              refine lv_iload_n hx hb dX0_shortestRange_47 rfl (lv_at hl 3 rfl) ?_
              refine lv_iload_n hx hb dX0_shortestRange_48 rfl (lv_at hl 2 rfl) ?_
              refine lv_icmp_ge (tgt := 59) hx hb dX0_shortestRange_49 (by decide) (fun c8 => ?_) (fun c8 => ?_)
              · replace h := zt c8 h
                refine lv_iconst (v := 0) hx hb dX0_shortestRange_59 (by decide) ?_
                refine lv_istore_n (lv' := [(3, .int 0), (0, .ref h0), (1, .int v1), (2, .int v2), (4, .int v4)]) hx hb dX0_shortestRange_60 rfl hl (by decide) rfl (fun ls hl => ?_)
                refine lv_iinc (v := (v4 + 1)) (lv' := [(4, .int (v4 + 1)), (3, .int 0), (0, .ref h0), (1, .int v1), (2, .int v2)]) hx hb dX0_shortestRange_61 hl (k := 4) rfl rfl (by decide) rfl (fun ls hl => ?_)
                refine lv_goto (tgt := 11) hx hb dX0_shortestRange_64 (by decide) ?_
                exact ih v1 v2 0 (v4 + 1) h ls (lv_sub hl [2, 3, 4, 1, 0] rfl)
              · replace h := zf c8 h
                refine lv_iload hx hb dX0_shortestRange_52 (lv_at hl 4 rfl) ?_
                refine lv_iload_n hx hb dX0_shortestRange_54 rfl (lv_at hl 3 rfl) ?_
                refine lv_isub hx hb dX0_shortestRange_55 ?_
                refine lv_istore_n (lv' := [(1, .int (v4 - v3)), (0, .ref h0), (2, .int v2), (3, .int v3), (4, .int v4)]) hx hb dX0_shortestRange_56 rfl hl (by decide) rfl (fun ls hl => ?_)
                refine lv_iload_n hx hb dX0_shortestRange_57 rfl (lv_at hl 3 rfl) ?_
                refine lv_istore_n (lv' := [(2, .int v3), (1, .int (v4 - v3)), (0, .ref h0), (3, .int v3), (4, .int v4)]) hx hb dX0_shortestRange_58 rfl hl (by decide) rfl (fun ls hl => ?_)
                refine lv_iconst (v := 0) hx hb dX0_shortestRange_59 (by decide) ?_
                refine lv_istore_n (lv' := [(3, .int 0), (2, .int v3), (1, .int (v4 - v3)), (0, .ref h0), (4, .int v4)]) hx hb dX0_shortestRange_60 rfl hl (by decide) rfl (fun ls hl => ?_)
                refine lv_iinc (v := (v4 + 1)) (lv' := [(4, .int (v4 + 1)), (3, .int 0), (2, .int v3), (1, .int (v4 - v3)), (0, .ref h0)]) hx hb dX0_shortestRange_61 hl (k := 4) rfl rfl (by decide) rfl (fun ls hl => ?_)
                refine lv_goto (tgt := 11) hx hb dX0_shortestRange_64 (by decide) ?_
                exact ih (v4 - v3) v3 0 (v4 + 1) h ls (lv_sub hl [4, 3, 2, 1, 0] rfl)
          · replace h := zf c6 h
            refine lv_iinc (v := (v3 + 1)) (lv' := [(3, .int (v3 + 1)), (0, .ref h0), (1, .int v1), (2, .int v2), (4, .int v4)]) hx hb dX0_shortestRange_37 hl (k := 3) rfl rfl (by decide) rfl (fun ls hl => ?_)
            refine lv_goto (tgt := 61) hx hb dX0_shortestRange_40 (by decide) ?_
            refine lv_iinc (v := (v4 + 1)) (lv' := [(4, .int (v4 + 1)), (3, .int (v3 + 1)), (0, .ref h0), (1, .int v1), (2, .int v2)]) hx hb dX0_shortestRange_61 hl (k := 4) rfl rfl (by decide) rfl (fun ls hl => ?_)
            refine lv_goto (tgt := 11) hx hb dX0_shortestRange_64 (by decide) ?_
            exact ih v1 v2 (v3 + 1) (v4 + 1) h ls (lv_sub hl [2, 3, 4, 1, 0] rfl)
  unfold fX0_shortestRange at h
  refine lv_iconst (v := 0) hx hb dX0_shortestRange_0 (by decide) ?_
  refine lv_istore_n (lv' := [(1, .int 0), (0, .ref h0)]) hx hb dX0_shortestRange_1 rfl hl (by decide) rfl (fun ls hl => ?_)
  refine lv_sipush (v := 257) hx hb dX0_shortestRange_2 (by decide) ?_
  refine lv_istore_n (lv' := [(2, .int 257), (1, .int 0), (0, .ref h0)]) hx hb dX0_shortestRange_5 rfl hl (by decide) rfl (fun ls hl => ?_)
  refine lv_iconst (v := 0) hx hb dX0_shortestRange_6 (by decide) ?_
  refine lv_istore_n (lv' := [(3, .int 0), (2, .int 257), (1, .int 0), (0, .ref h0)]) hx hb dX0_shortestRange_7 rfl hl (by decide) rfl (fun ls hl => ?_)
  refine lv_iconst (v := 0) hx hb dX0_shortestRange_8 (by decide) ?_
  refine lv_istore (lv' := [(4, .int 0), (3, .int 0), (2, .int 257), (1, .int 0), (0, .ref h0)]) hx hb dX0_shortestRange_9 hl (by decide) rfl (fun ls hl => ?_)
  exact loop_11 1000 0 257 0 0 h ls (lv_sub hl [4, 3, 2, 1, 0] rfl)
def fX0_countRangesAhead_7 (b : Nat → Int32) : Nat → Int32 → Int32 → Int32 → Int32 → Option (Int32)
  | 0, _, _, _, _ => none
  | n + 1, v1, v2, v3, v4 =>
    if v1 ≤ v4 then
        some v2
      else
        if v4 < 0 ∨ 256 ≤ v4.toNatClampNeg then none else
        if (b v4.toNatClampNeg) < 0 then
          fX0_countRangesAhead_7 b n v1 v2 0 (v4 + 1)
        else
          if v3 = 0 then
            fX0_countRangesAhead_7 b n v1 (v2 + 1) 1 (v4 + 1)
          else
            fX0_countRangesAhead_7 b n v1 v2 1 (v4 + 1)
def fX0_countRangesAhead (b : Nat → Int32) (a1 : Int32) : Option (Int32) :=
  fX0_countRangesAhead_7 b 1000 a1 0 0 0
theorem mX0_countRangesAhead_9 : Cond.fieldLink RX0 9 "IdleDiscards$Device" "blocks" "[I" ∈ wsX0_countRangesAhead := by decide +kernel
theorem uX0_countRangesAhead_X0 : ∀ w ∈ wsX00, w ∈ wsX0_countRangesAhead := by decide +kernel
set_option maxRecDepth 100000 in
set_option maxHeartbeats 4000000 in
theorem kX0_countRangesAhead (l : Launch) (g : zG) (h0 h1 h2 h3 h4 : Nat) (b : Nat → Int32) (pF : Nat → Int32) (pL : Nat → Int32) (st : Nat → Int32) (tm : Int32) (qt : Int32) (cm : Int32) (ds : Int32) (dr : Int32) (a1 : Int32) {r : Int32} (h : fX0_countRangesAhead b a1 = some r) : Mr l g yX0_countRangesAhead wsX0_countRangesAhead { frames := 0, cells := 0, slots := 0, locals := 0 } [.ref h0, .int a1] (zD g h0 h1 h2 h3 h4 b pF pL st tm qt cm ds dr) (zQi r) := by
  refine zr_in (cc := cX0_countRangesAhead) (maxL := 6) (ret := (some .int)) (by decide) rfl (Nat.le_of_ble_eq_true rfl) ?_
  intro p e s m below meth c hx hb hr hml hts hown hlocks hP hK ls hl
  replace hl : lv_has ls 6 [(0, .ref h0), (1, .int a1)] := hl
  have loop_7 : ∀ (n : Nat) (v1 : Int32) (v2 : Int32) (v3 : Int32) (v4 : Int32), fX0_countRangesAhead_7 b n v1 v2 v3 v4 = some r → ∀ (ls : Array Slot), lv_has ls 6 [(0, .ref h0), (1, .int v1), (2, .int v2), (3, .int v3), (4, .int v4)] → W p l e ({ frames := 0, cells := 0, slots := 0, locals := 0 } : Room) s m [.ref h0, .int a1].toArray below meth c s.heap [] 0 0 (MQ below (zQi r) [.ref h0, .int a1].toArray s 0 0 (fun _ => False)) (F0 m 7 ls []) := by
    intro n
    induction n with
    | zero => intro v1 v2 v3 v4 h ls hl; exact zn h
    | succ n ih =>
      intro v1 v2 v3 v4 h ls hl
      rw [fX0_countRangesAhead_7] at h
      refine lv_iload hx hb dX0_countRangesAhead_7 (lv_at hl 4 rfl) ?_
      refine lv_iload_n hx hb dX0_countRangesAhead_9 rfl (lv_at hl 1 rfl) ?_
      refine lv_icmp_ge (tgt := 51) hx hb dX0_countRangesAhead_10 (by decide) (fun c1 => ?_) (fun c1 => ?_)
      · replace h := zt c1 h
        refine lv_iload_n hx hb dX0_countRangesAhead_51 rfl (lv_at hl 2 rfl) ?_
        cases h
        exact zr_i hx hb hr hlocks dX0_countRangesAhead_52
      · replace h := zf c1 h
        refine lv_aload_n hx hb dX0_countRangesAhead_13 rfl (lv_at hl 0 rfl) ?_
        refine va_get (ci := 0) (v := .ref h1) (C := RX0) (T := TX0) (N := 9) hx hb hts uX0_countRangesAhead_X0 hown hK hP 0 rfl rfl 0 (by decide) (hts _ mX0_countRangesAhead_9) (fun _ h9 => h9) rfl dX0_countRangesAhead_14 ?_
        refine lv_iload hx hb dX0_countRangesAhead_17 (lv_at hl 4 rfl) ?_
        obtain ⟨i2, h⟩ := zi h
        refine za_ild hx hb hK hP 1 rfl _ rfl i2 dX0_countRangesAhead_19 ?_
        refine lv_if_lt (tgt := 27) hx hb dX0_countRangesAhead_20 (by decide) (fun c3 => ?_) (fun c3 => ?_)
        · replace h := zt c3 h
          refine lv_iconst (v := 0) hx hb dX0_countRangesAhead_27 (by decide) ?_
          refine lv_istore (lv' := [(5, .int 0), (0, .ref h0), (1, .int v1), (2, .int v2), (3, .int v3), (4, .int v4)]) hx hb dX0_countRangesAhead_28 hl (by decide) rfl (fun ls hl => ?_)
          refine lv_iload hx hb dX0_countRangesAhead_30 (lv_at hl 0 rfl) ?_
          refine lv_if_eq (tgt := 42) hx hb dX0_countRangesAhead_32 (by decide) (fun _ => ?_) (fun c4 => absurd (by decide) c4)
          refine lv_iload hx hb dX0_countRangesAhead_42 (lv_at hl 0 rfl) ?_
          refine lv_istore_n (lv' := [(3, .int 0), (5, .int 0), (0, .ref h0), (1, .int v1), (2, .int v2), (4, .int v4)]) hx hb dX0_countRangesAhead_44 rfl hl (by decide) rfl (fun ls hl => ?_)
          refine lv_iinc (v := (v4 + 1)) (lv' := [(4, .int (v4 + 1)), (3, .int 0), (5, .int 0), (0, .ref h0), (1, .int v1), (2, .int v2)]) hx hb dX0_countRangesAhead_45 hl (k := 5) rfl rfl (by decide) rfl (fun ls hl => ?_)
          refine lv_goto (tgt := 7) hx hb dX0_countRangesAhead_48 (by decide) ?_
          exact ih v1 v2 0 (v4 + 1) h ls (lv_sub hl [3, 4, 5, 1, 0] rfl)
        · replace h := zf c3 h
          refine lv_iconst (v := 1) hx hb dX0_countRangesAhead_23 (by decide) ?_
          refine lv_goto (tgt := 28) hx hb dX0_countRangesAhead_24 (by decide) ?_
          refine lv_istore (lv' := [(5, .int 1), (0, .ref h0), (1, .int v1), (2, .int v2), (3, .int v3), (4, .int v4)]) hx hb dX0_countRangesAhead_28 hl (by decide) rfl (fun ls hl => ?_)
          refine lv_iload hx hb dX0_countRangesAhead_30 (lv_at hl 0 rfl) ?_
          refine lv_if_eq (tgt := 42) hx hb dX0_countRangesAhead_32 (by decide) (fun c5 => absurd c5 (by decide)) (fun _ => ?_)
          refine lv_iload_n hx hb dX0_countRangesAhead_35 rfl (lv_at hl 4 rfl) ?_
          refine lv_if_ne (tgt := 42) hx hb dX0_countRangesAhead_36 (by decide) (fun c6 => ?_) (fun c6 => ?_)
          · replace h := zf c6 h
            refine lv_iload hx hb dX0_countRangesAhead_42 (lv_at hl 0 rfl) ?_
            refine lv_istore_n (lv' := [(3, .int 1), (5, .int 1), (0, .ref h0), (1, .int v1), (2, .int v2), (4, .int v4)]) hx hb dX0_countRangesAhead_44 rfl hl (by decide) rfl (fun ls hl => ?_)
            refine lv_iinc (v := (v4 + 1)) (lv' := [(4, .int (v4 + 1)), (3, .int 1), (5, .int 1), (0, .ref h0), (1, .int v1), (2, .int v2)]) hx hb dX0_countRangesAhead_45 hl (k := 5) rfl rfl (by decide) rfl (fun ls hl => ?_)
            refine lv_goto (tgt := 7) hx hb dX0_countRangesAhead_48 (by decide) ?_
            exact ih v1 v2 1 (v4 + 1) h ls (lv_sub hl [3, 4, 5, 1, 0] rfl)
          · replace h := zt c6 h
            refine lv_iinc (v := (v2 + 1)) (lv' := [(2, .int (v2 + 1)), (5, .int 1), (0, .ref h0), (1, .int v1), (3, .int v3), (4, .int v4)]) hx hb dX0_countRangesAhead_39 hl (k := 3) rfl rfl (by decide) rfl (fun ls hl => ?_)
            refine lv_iload hx hb dX0_countRangesAhead_42 (lv_at hl 1 rfl) ?_
            refine lv_istore_n (lv' := [(3, .int 1), (2, .int (v2 + 1)), (5, .int 1), (0, .ref h0), (1, .int v1), (4, .int v4)]) hx hb dX0_countRangesAhead_44 rfl hl (by decide) rfl (fun ls hl => ?_)
            refine lv_iinc (v := (v4 + 1)) (lv' := [(4, .int (v4 + 1)), (3, .int 1), (2, .int (v2 + 1)), (5, .int 1), (0, .ref h0), (1, .int v1)]) hx hb dX0_countRangesAhead_45 hl (k := 5) rfl rfl (by decide) rfl (fun ls hl => ?_)
            refine lv_goto (tgt := 7) hx hb dX0_countRangesAhead_48 (by decide) ?_
            exact ih v1 (v2 + 1) 1 (v4 + 1) h ls (lv_sub hl [4, 5, 2, 1, 0] rfl)
  unfold fX0_countRangesAhead at h
  refine lv_iconst (v := 0) hx hb dX0_countRangesAhead_0 (by decide) ?_
  refine lv_istore_n (lv' := [(2, .int 0), (0, .ref h0), (1, .int a1)]) hx hb dX0_countRangesAhead_1 rfl hl (by decide) rfl (fun ls hl => ?_)
  refine lv_iconst (v := 0) hx hb dX0_countRangesAhead_2 (by decide) ?_
  refine lv_istore_n (lv' := [(3, .int 0), (2, .int 0), (0, .ref h0), (1, .int a1)]) hx hb dX0_countRangesAhead_3 rfl hl (by decide) rfl (fun ls hl => ?_)
  refine lv_iconst (v := 0) hx hb dX0_countRangesAhead_4 (by decide) ?_
  refine lv_istore (lv' := [(4, .int 0), (3, .int 0), (2, .int 0), (0, .ref h0), (1, .int a1)]) hx hb dX0_countRangesAhead_5 hl (by decide) rfl (fun ls hl => ?_)
  exact loop_7 1000 a1 0 0 0 h ls (lv_sub hl [3, 4, 2, 1, 0] rfl)
theorem hdV_X0_countRangesAhead : yX0_countRangesAhead.cls = RX0 ∧ yX0_countRangesAhead.cls ≠ "java/lang/invoke/MethodHandle" ∧ yX0_countRangesAhead.cls ≠ "java/lang/invoke/VarHandle" ∧ (parseMethodDescriptor yX0_countRangesAhead.desc).map (fun d => d.parameters.length) = some 1 := by decide +kernel
theorem hdV_X0_shortestRange : yX0_shortestRange.cls = RX0 ∧ yX0_shortestRange.cls ≠ "java/lang/invoke/MethodHandle" ∧ yX0_shortestRange.cls ≠ "java/lang/invoke/VarHandle" ∧ (parseMethodDescriptor yX0_shortestRange.desc).map (fun d => d.parameters.length) = some 0 := by decide +kernel
def fX0_dropSurplus_22  : Nat → Int32 → Int32 → (Nat → Int32) → (Int32) → Option ((Nat → Int32))
  | 0, _, _, _, _ => none
  | n + 1, v1, v3, b, dr =>
    if 256 ≤ v3 then
        some b
      else
        if v3 < 0 ∨ 256 ≤ v3.toNatClampNeg then none else
        if (b v3.toNatClampNeg) < 0 then
          some b
        else
          if v3 < 0 ∨ 256 ≤ v3.toNatClampNeg then none else
          fX0_dropSurplus_22 n v1 (v3 + 1) (upd b v3.toNatClampNeg (-3)) dr
def fX0_dropSurplus_11  : Nat → Int32 → (Nat → Int32) → (Int32) → Option ((Nat → Int32) × (Int32))
  | 0, _, _, _ => none
  | n + 1, v1, b, dr =>
    if v1 ≤ 0 then
        some (b, dr)
      else
        ob (fX0_shortestRange b) fun r6 =>
        ob (fX0_dropSurplus_22 1000 v1 r6 b dr) fun b7 =>
        fX0_dropSurplus_11 n (v1 + (-1)) b7 (dr + 1)
def fX0_dropSurplus (b : Nat → Int32) (dr : Int32) : Option ((Nat → Int32) × (Int32)) :=
  ob (fX0_countRangesAhead b 256) fun r8 =>
  fX0_dropSurplus_11 1000 (r8 - 16) b dr
theorem mX0_dropSurplus_9 : Cond.fieldLink RX0 9 "IdleDiscards$Device" "blocks" "[I" ∈ wsX0_dropSurplus := by decide +kernel
theorem uX0_dropSurplus_X0 : ∀ w ∈ wsX00, w ∈ wsX0_dropSurplus := by decide +kernel
theorem mX0_dropSurplus_55 : Cond.fieldLink RX0 55 "IdleDiscards$Device" "dropped" "I" ∈ wsX0_dropSurplus := by decide +kernel
set_option maxRecDepth 100000 in
set_option maxHeartbeats 4000000 in
theorem kX0_dropSurplus (l : Launch) (g : zG) (h0 h1 h2 h3 h4 : Nat) (b : Nat → Int32) (pF : Nat → Int32) (pL : Nat → Int32) (st : Nat → Int32) (tm : Int32) (qt : Int32) (cm : Int32) (ds : Int32) (dr : Int32) {b' : Nat → Int32} {dr' : Int32} (h : fX0_dropSurplus b dr = some (b', dr')) : Mw l g yX0_dropSurplus wsX0_dropSurplus { frames := 1, cells := 0, slots := 0, locals := 25 } [.ref h0] (zD g h0 h1 h2 h3 h4 b pF pL st tm qt cm ds dr) (zWv g (zD g h0 h1 h2 h3 h4 b' pF pL st tm qt cm ds dr')) := by
  refine zw_in (cc := cX0_dropSurplus) (maxL := 4) (ret := none) (by decide) rfl (Nat.le_of_ble_eq_true rfl) ?_
  intro p e s m below meth c hx hb hr hml hts hown hlocks hK A hA hP hD hS ls hl
  replace hl : lv_has ls 4 [(0, .ref h0)] := hl
  have loop_22 : ∀ (n : Nat) (v1 : Int32) (v3 : Int32) (b : (Nat → Int32)) (dr : (Int32)) (b_o : (Nat → Int32)), fX0_dropSurplus_22 n v1 v3 b dr = some b_o → (∀ (H : Heap) (locs : List Loc), zP g (zD g h0 h1 h2 h3 h4 b_o pF pL st tm qt cm ds dr) H → va_D A (zD g h0 h1 h2 h3 h4 b_o pF pL st tm qt cm ds dr) → va_S A s.heap H locs → ∀ (ls : Array Slot), lv_has ls 4 [(0, .ref h0), (1, .int v1)] → W p l e ({ frames := 1, cells := 0, slots := 0, locals := 25 } : Room) s m [.ref h0].toArray below meth c H locs 0 0 (MQ below (zWv g (zD g h0 h1 h2 h3 h4 b' pF pL st tm qt cm ds dr') A) [.ref h0].toArray s 0 0 A) (F0 m 52 ls [])) → ∀ (H : Heap) (locs : List Loc), zP g (zD g h0 h1 h2 h3 h4 b pF pL st tm qt cm ds dr) H → va_D A (zD g h0 h1 h2 h3 h4 b pF pL st tm qt cm ds dr) → va_S A s.heap H locs → ∀ (ls : Array Slot), lv_has ls 4 [(0, .ref h0), (1, .int v1), (3, .int v3)] → W p l e ({ frames := 1, cells := 0, slots := 0, locals := 25 } : Room) s m [.ref h0].toArray below meth c H locs 0 0 (MQ below (zWv g (zD g h0 h1 h2 h3 h4 b' pF pL st tm qt cm ds dr') A) [.ref h0].toArray s 0 0 A) (F0 m 22 ls []) := by
    intro n
    induction n with
    | zero => intro v1 v3 b dr b_o h kk H locs hP hD hS ls hl; exact zn h
    | succ n ih =>
      intro v1 v3 b dr b_o h kk H locs hP hD hS ls hl
      rw [fX0_dropSurplus_22] at h
      refine lv_iload_n hx hb dX0_dropSurplus_22 rfl (lv_at hl 2 rfl) ?_
      refine lv_sipush (v := 256) hx hb dX0_dropSurplus_23 (by decide) ?_
      refine lv_icmp_ge (tgt := 52) hx hb dX0_dropSurplus_26 (by decide) (fun c1 => ?_) (fun c1 => ?_)
      · replace h := zt c1 h
        cases h
        exact kk H locs hP hD hS ls (lv_sub hl [0, 1] rfl)
      · replace h := zf c1 h
        refine lv_aload_n hx hb dX0_dropSurplus_29 rfl (lv_at hl 0 rfl) ?_
        refine va_get (ci := 0) (v := .ref h1) (C := RX0) (T := TX0) (N := 9) hx hb hts uX0_dropSurplus_X0 hown hK hP 0 rfl rfl 0 (by decide) (hts _ mX0_dropSurplus_9) (fun _ h9 => h9) rfl dX0_dropSurplus_30 ?_
        refine lv_iload_n hx hb dX0_dropSurplus_33 rfl (lv_at hl 2 rfl) ?_
        obtain ⟨i2, h⟩ := zi h
        refine za_ild hx hb hK hP 1 rfl _ rfl i2 dX0_dropSurplus_34 ?_
        refine lv_if_lt (tgt := 52) hx hb dX0_dropSurplus_35 (by decide) (fun c3 => ?_) (fun c3 => ?_)
        · replace h := zt c3 h
          cases h
          exact kk H locs hP hD hS ls (lv_sub hl [0, 1] rfl)
        · replace h := zf c3 h
          refine lv_aload_n hx hb dX0_dropSurplus_38 rfl (lv_at hl 0 rfl) ?_
          refine va_get (ci := 0) (v := .ref h1) (C := RX0) (T := TX0) (N := 9) hx hb hts uX0_dropSurplus_X0 hown hK hP 0 rfl rfl 0 (by decide) (hts _ mX0_dropSurplus_9) (fun _ h9 => h9) rfl dX0_dropSurplus_39 ?_
          refine lv_iload_n hx hb dX0_dropSurplus_42 rfl (lv_at hl 2 rfl) ?_
          refine lv_bipush (v := (-3)) hx hb dX0_dropSurplus_43 (by decide) ?_
          obtain ⟨i4, h⟩ := zi h
          refine za_ist hx hb hK hP hD hS 1 rfl _ rfl i4 dX0_dropSurplus_45 (fun H locs hP hD hS => ?_)
          replace hP : zP g (zD g h0 h1 h2 h3 h4 (upd b v3.toNatClampNeg (-3)) pF pL st tm qt cm ds dr) H := hP
          replace hD : va_D A (zD g h0 h1 h2 h3 h4 (upd b v3.toNatClampNeg (-3)) pF pL st tm qt cm ds dr) := hD
          refine lv_iinc (v := (v3 + 1)) (lv' := [(3, .int (v3 + 1)), (0, .ref h0), (1, .int v1)]) hx hb dX0_dropSurplus_46 hl (k := 2) rfl rfl (by decide) rfl (fun ls hl => ?_)
          refine lv_goto (tgt := 22) hx hb dX0_dropSurplus_49 (by decide) ?_
          exact ih v1 (v3 + 1) (upd b v3.toNatClampNeg (-3)) dr _ h kk H locs hP hD hS ls (lv_sub hl [1, 2, 0] rfl)
  have loop_11 : ∀ (n : Nat) (v1 : Int32) (b : (Nat → Int32)) (dr : (Int32)), fX0_dropSurplus_11 n v1 b dr = some (b', dr') → ∀ (H : Heap) (locs : List Loc), zP g (zD g h0 h1 h2 h3 h4 b pF pL st tm qt cm ds dr) H → va_D A (zD g h0 h1 h2 h3 h4 b pF pL st tm qt cm ds dr) → va_S A s.heap H locs → ∀ (ls : Array Slot), lv_has ls 4 [(0, .ref h0), (1, .int v1)] → W p l e ({ frames := 1, cells := 0, slots := 0, locals := 25 } : Room) s m [.ref h0].toArray below meth c H locs 0 0 (MQ below (zWv g (zD g h0 h1 h2 h3 h4 b' pF pL st tm qt cm ds dr') A) [.ref h0].toArray s 0 0 A) (F0 m 11 ls []) := by
    intro n
    induction n with
    | zero => intro v1 b dr h H locs hP hD hS ls hl; exact zn h
    | succ n ih =>
      intro v1 b dr h H locs hP hD hS ls hl
      rw [fX0_dropSurplus_11] at h
      refine lv_iload_n hx hb dX0_dropSurplus_11 rfl (lv_at hl 1 rfl) ?_
      refine lv_if_le (tgt := 68) hx hb dX0_dropSurplus_12 (by decide) (fun c5 => ?_) (fun c5 => ?_)
      · replace h := zt c5 h
        cases h
        exact zw_v hx hb hr hlocks hP hS dX0_dropSurplus_68
      · replace h := zf c5 h
        refine lv_aload_n hx hb dX0_dropSurplus_15 rfl (lv_at hl 0 rfl) ?_
        obtain ⟨r6, e6, h⟩ := zb h
        refine zV (As := []) (rest := []) (zQi_q _) ⟨hx, hb, hml, hown, hts⟩ (kX0_shortestRange l g h0 h1 h2 h3 h4 b pF pL st tm qt cm ds dr e6) (cwV 0 hts gX0_dropSurplus_X0_shortestRange rfl rfl rfl hdV_X0_shortestRange ⟨Nat.le_of_ble_eq_true rfl, Nat.le_of_ble_eq_true rfl⟩) hK hP [0, 1, 2, 3, 4] rfl 0 rfl rfl rfl hl.1 rfl (Nat.le_of_ble_eq_true rfl) ⟨Nat.zero_le _, Nat.zero_le _⟩ dX0_dropSurplus_16 ?_
        refine lv_istore_n (lv' := [(2, .int r6), (0, .ref h0), (1, .int v1)]) hx hb dX0_dropSurplus_19 rfl hl (by decide) rfl (fun ls hl => ?_)
        refine lv_iload_n hx hb dX0_dropSurplus_20 rfl (lv_at hl 0 rfl) ?_
        refine lv_istore_n (lv' := [(3, .int r6), (2, .int r6), (0, .ref h0), (1, .int v1)]) hx hb dX0_dropSurplus_21 rfl hl (by decide) rfl (fun ls hl => ?_)
        obtain ⟨b7, e7, h⟩ := zb h
        refine loop_22 1000 v1 r6 b dr _ e7 (fun H locs hP hD hS ls hl => ?_) H locs hP hD hS ls (lv_sub hl [2, 3, 0] rfl)
        refine lv_aload_n hx hb dX0_dropSurplus_52 rfl (lv_at hl 0 rfl) ?_
        refine lv_dup hx hb dX0_dropSurplus_53 rfl ?_
        refine va_get (ci := 0) (v := .int dr) (C := RX0) (T := TX0) (N := 9) hx hb hts uX0_dropSurplus_X0 hown hK hP 0 rfl rfl 8 (by decide) (hts _ mX0_dropSurplus_55) (fun _ h9 => h9) rfl dX0_dropSurplus_54 ?_
        refine lv_iconst (v := 1) hx hb dX0_dropSurplus_57 (by decide) ?_
        refine lv_iadd hx hb dX0_dropSurplus_58 ?_
        refine va_put (ci := 0) (v := .int (dr + 1)) (ty := .int) (C := RX0) (T := TX0) (N := 9) hx hb hts uX0_dropSurplus_X0 tyX0 tyX0_ok nmX0 hown hK hP hD hS 0 rfl rfl 8 (by decide) (hts _ mX0_dropSurplus_55) (fun _ h9 => h9) rfl (by decide +kernel) rfl rfl (Nat.le_of_ble_eq_true rfl) dX0_dropSurplus_59 (fun H locs hP hD hS => ?_)
        replace hP : zP g (zD g h0 h1 h2 h3 h4 b7 pF pL st tm qt cm ds (dr + 1)) H := hP
        replace hD : va_D A (zD g h0 h1 h2 h3 h4 b7 pF pL st tm qt cm ds (dr + 1)) := hD
        refine lv_iinc (v := (v1 + (-1))) (lv' := [(1, .int (v1 + (-1))), (0, .ref h0)]) hx hb dX0_dropSurplus_62 hl (k := 1) rfl rfl (by decide) rfl (fun ls hl => ?_)
        refine lv_goto (tgt := 11) hx hb dX0_dropSurplus_65 (by decide) ?_
        exact ih (v1 + (-1)) b7 (dr + 1) h H locs hP hD hS ls (lv_sub hl [1, 0] rfl)
  unfold fX0_dropSurplus at h
  refine lv_aload_n hx hb dX0_dropSurplus_0 rfl (lv_at hl 0 rfl) ?_
  refine lv_sipush (v := 256) hx hb dX0_dropSurplus_1 (by decide) ?_
  obtain ⟨r8, e8, h⟩ := zb h
  refine zV (As := [.int 256]) (rest := []) (zQi_q _) ⟨hx, hb, hml, hown, hts⟩ (kX0_countRangesAhead l g h0 h1 h2 h3 h4 b pF pL st tm qt cm ds dr 256 e8) (cwV 1 hts gX0_dropSurplus_X0_countRangesAhead rfl rfl rfl hdV_X0_countRangesAhead ⟨Nat.le_of_ble_eq_true rfl, Nat.le_of_ble_eq_true rfl⟩) hK hP [0, 1, 2, 3, 4] rfl 0 rfl rfl rfl hl.1 rfl (Nat.le_of_ble_eq_true rfl) ⟨Nat.zero_le _, Nat.zero_le _⟩ dX0_dropSurplus_4 ?_
  refine lv_bipush (v := 16) hx hb dX0_dropSurplus_7 (by decide) ?_
  refine lv_isub hx hb dX0_dropSurplus_9 ?_
  refine lv_istore_n (lv' := [(1, .int (r8 - 16)), (0, .ref h0)]) hx hb dX0_dropSurplus_10 rfl hl (by decide) rfl (fun ls hl => ?_)
  exact loop_11 1000 (r8 - 16) b dr h s.heap [] hP hD hS ls (lv_sub hl [1, 0] rfl)
theorem hdV_X0_dropSurplus : yX0_dropSurplus.cls = RX0 ∧ yX0_dropSurplus.cls ≠ "java/lang/invoke/MethodHandle" ∧ yX0_dropSurplus.cls ≠ "java/lang/invoke/VarHandle" ∧ (parseMethodDescriptor yX0_dropSurplus.desc).map (fun d => d.parameters.length) = some 0 := by decide +kernel
def fX0_writeSpan_5  : Nat → Int32 → Int32 → Int32 → Int32 → (Nat → Int32) → (Int32) → (Int32) → Option (Int32 × (Nat → Int32) × (Int32) × (Int32))
  | 0, _, _, _, _, _, _, _ => none
  | n + 1, v1, v2, v3, v4, b, qt, dr =>
    if (v1 + v2) ≤ v4 then
        ob2 (fX0_dropSurplus b dr) fun b2 dr2 =>
        some (v3, b2, 0, dr2)
      else
        if v4 < 0 ∨ 256 ≤ v4.toNatClampNeg then none else
        if (b v4.toNatClampNeg) < 0 then
          if v4 < 0 ∨ 256 ≤ v4.toNatClampNeg then none else
          fX0_writeSpan_5 n v1 v2 v3 (v4 + 1) (upd b v4.toNatClampNeg (-2)) qt dr
        else
          if v4 < 0 ∨ 256 ≤ v4.toNatClampNeg then none else
          fX0_writeSpan_5 n v1 v2 (v3 + 1) (v4 + 1) (upd b v4.toNatClampNeg (-2)) qt dr
def fX0_writeSpan (b : Nat → Int32) (qt : Int32) (dr : Int32) (a1 : Int32) (a2 : Int32) : Option (Int32 × (Nat → Int32) × (Int32) × (Int32)) :=
  fX0_writeSpan_5 1000 a1 a2 0 a1 b qt dr
theorem mX0_writeSpan_46 : Cond.fieldLink RX0 46 "IdleDiscards$Device" "quiet" "I" ∈ wsX0_writeSpan := by decide +kernel
theorem uX0_writeSpan_X0 : ∀ w ∈ wsX00, w ∈ wsX0_writeSpan := by decide +kernel
theorem mX0_writeSpan_9 : Cond.fieldLink RX0 9 "IdleDiscards$Device" "blocks" "[I" ∈ wsX0_writeSpan := by decide +kernel
set_option maxRecDepth 100000 in
set_option maxHeartbeats 4000000 in
theorem kX0_writeSpan (l : Launch) (g : zG) (h0 h1 h2 h3 h4 : Nat) (b : Nat → Int32) (pF : Nat → Int32) (pL : Nat → Int32) (st : Nat → Int32) (tm : Int32) (qt : Int32) (cm : Int32) (ds : Int32) (dr : Int32) (a1 : Int32) (a2 : Int32) {r : Int32} {b' : Nat → Int32} {qt' : Int32} {dr' : Int32} (h : fX0_writeSpan b qt dr a1 a2 = some (r, b', qt', dr')) : Mw l g yX0_writeSpan wsX0_writeSpan { frames := 2, cells := 0, slots := 0, locals := 48 } [.ref h0, .int a1, .int a2] (zD g h0 h1 h2 h3 h4 b pF pL st tm qt cm ds dr) (zWi g (zD g h0 h1 h2 h3 h4 b' pF pL st tm qt' cm ds dr') r) := by
  refine zw_in (cc := cX0_writeSpan) (maxL := 5) (ret := (some .int)) (by decide) rfl (Nat.le_of_ble_eq_true rfl) ?_
  intro p e s m below meth c hx hb hr hml hts hown hlocks hK A hA hP hD hS ls hl
  replace hl : lv_has ls 5 [(0, .ref h0), (1, .int a1), (2, .int a2)] := hl
  have loop_5 : ∀ (n : Nat) (v1 : Int32) (v2 : Int32) (v3 : Int32) (v4 : Int32) (b : (Nat → Int32)) (qt : (Int32)) (dr : (Int32)), fX0_writeSpan_5 n v1 v2 v3 v4 b qt dr = some (r, b', qt', dr') → ∀ (H : Heap) (locs : List Loc), zP g (zD g h0 h1 h2 h3 h4 b pF pL st tm qt cm ds dr) H → va_D A (zD g h0 h1 h2 h3 h4 b pF pL st tm qt cm ds dr) → va_S A s.heap H locs → ∀ (ls : Array Slot), lv_has ls 5 [(0, .ref h0), (1, .int v1), (2, .int v2), (3, .int v3), (4, .int v4)] → W p l e ({ frames := 2, cells := 0, slots := 0, locals := 48 } : Room) s m [.ref h0, .int a1, .int a2].toArray below meth c H locs 0 0 (MQ below (zWi g (zD g h0 h1 h2 h3 h4 b' pF pL st tm qt' cm ds dr') r A) [.ref h0, .int a1, .int a2].toArray s 0 0 A) (F0 m 5 ls []) := by
    intro n
    induction n with
    | zero => intro v1 v2 v3 v4 b qt dr h H locs hP hD hS ls hl; exact zn h
    | succ n ih =>
      intro v1 v2 v3 v4 b qt dr h H locs hP hD hS ls hl
      rw [fX0_writeSpan_5] at h
      refine lv_iload hx hb dX0_writeSpan_5 (lv_at hl 4 rfl) ?_
      refine lv_iload_n hx hb dX0_writeSpan_7 rfl (lv_at hl 1 rfl) ?_
      refine lv_iload_n hx hb dX0_writeSpan_8 rfl (lv_at hl 2 rfl) ?_
      refine lv_iadd hx hb dX0_writeSpan_9 ?_
      refine lv_icmp_ge (tgt := 41) hx hb dX0_writeSpan_10 (by decide) (fun c1 => ?_) (fun c1 => ?_)
      · replace h := zt c1 h
        refine lv_aload_n hx hb dX0_writeSpan_41 rfl (lv_at hl 0 rfl) ?_
        refine lv_iconst (v := 0) hx hb dX0_writeSpan_42 (by decide) ?_
        refine va_put (ci := 0) (v := .int 0) (ty := .int) (C := RX0) (T := TX0) (N := 9) hx hb hts uX0_writeSpan_X0 tyX0 tyX0_ok nmX0 hown hK hP hD hS 0 rfl rfl 5 (by decide) (hts _ mX0_writeSpan_46) (fun _ h9 => h9) rfl (by decide +kernel) rfl rfl (Nat.le_of_ble_eq_true rfl) dX0_writeSpan_43 (fun H locs hP hD hS => ?_)
        replace hP : zP g (zD g h0 h1 h2 h3 h4 b pF pL st tm 0 cm ds dr) H := hP
        replace hD : va_D A (zD g h0 h1 h2 h3 h4 b pF pL st tm 0 cm ds dr) := hD
        refine lv_aload_n hx hb dX0_writeSpan_46 rfl (lv_at hl 0 rfl) ?_
        obtain ⟨b2, dr2, e2, h⟩ := zb2 h
        refine zVw (As := []) (rest := []) (zWv_q g _) ⟨hx, hb, hml, hown, hts⟩ (kX0_dropSurplus l g h0 h1 h2 h3 h4 b pF pL st tm 0 cm ds dr e2) (cwV 0 hts gX0_writeSpan_X0_dropSurplus rfl rfl rfl hdV_X0_dropSurplus ⟨Nat.le_of_ble_eq_true rfl, Nat.le_of_ble_eq_true rfl⟩) hK hP hD hS hA [0, 1, 2, 3, 4] (by decide) rfl rfl 0 rfl rfl rfl hl.1 rfl (Nat.le_of_ble_eq_true rfl) ⟨Nat.zero_le _, Nat.zero_le _⟩ dX0_writeSpan_47 (fun H locs hP hD hS => ?_)
        replace hP : zP g (zD g h0 h1 h2 h3 h4 b2 pF pL st tm 0 cm ds dr2) H := hP
        replace hD : va_D A (zD g h0 h1 h2 h3 h4 b2 pF pL st tm 0 cm ds dr2) := hD
        refine lv_iload_n hx hb dX0_writeSpan_50 rfl (lv_at hl 3 rfl) ?_
        cases h
        exact zw_i hx hb hr hlocks hP hS dX0_writeSpan_51
      · replace h := zf c1 h
        refine lv_aload_n hx hb dX0_writeSpan_13 rfl (lv_at hl 0 rfl) ?_
        refine va_get (ci := 0) (v := .ref h1) (C := RX0) (T := TX0) (N := 9) hx hb hts uX0_writeSpan_X0 hown hK hP 0 rfl rfl 0 (by decide) (hts _ mX0_writeSpan_9) (fun _ h9 => h9) rfl dX0_writeSpan_14 ?_
        refine lv_iload hx hb dX0_writeSpan_17 (lv_at hl 4 rfl) ?_
        obtain ⟨i3, h⟩ := zi h
        refine za_ild hx hb hK hP 1 rfl _ rfl i3 dX0_writeSpan_19 ?_
        refine lv_if_lt (tgt := 26) hx hb dX0_writeSpan_20 (by decide) (fun c4 => ?_) (fun c4 => ?_)
        · replace h := zt c4 h
          refine lv_aload_n hx hb dX0_writeSpan_26 rfl (lv_at hl 0 rfl) ?_
          refine va_get (ci := 0) (v := .ref h1) (C := RX0) (T := TX0) (N := 9) hx hb hts uX0_writeSpan_X0 hown hK hP 0 rfl rfl 0 (by decide) (hts _ mX0_writeSpan_9) (fun _ h9 => h9) rfl dX0_writeSpan_27 ?_
          refine lv_iload hx hb dX0_writeSpan_30 (lv_at hl 4 rfl) ?_
          refine lv_bipush (v := (-2)) hx hb dX0_writeSpan_32 (by decide) ?_
          obtain ⟨i5, h⟩ := zi h
          refine za_ist hx hb hK hP hD hS 1 rfl _ rfl i5 dX0_writeSpan_34 (fun H locs hP hD hS => ?_)
          replace hP : zP g (zD g h0 h1 h2 h3 h4 (upd b v4.toNatClampNeg (-2)) pF pL st tm qt cm ds dr) H := hP
          replace hD : va_D A (zD g h0 h1 h2 h3 h4 (upd b v4.toNatClampNeg (-2)) pF pL st tm qt cm ds dr) := hD
          refine lv_iinc (v := (v4 + 1)) (lv' := [(4, .int (v4 + 1)), (0, .ref h0), (1, .int v1), (2, .int v2), (3, .int v3)]) hx hb dX0_writeSpan_35 hl (k := 4) rfl rfl (by decide) rfl (fun ls hl => ?_)
          refine lv_goto (tgt := 5) hx hb dX0_writeSpan_38 (by decide) ?_
          exact ih v1 v2 v3 (v4 + 1) (upd b v4.toNatClampNeg (-2)) qt dr h H locs hP hD hS ls (lv_sub hl [1, 2, 3, 4, 0] rfl)
        · replace h := zf c4 h
          refine lv_iinc (v := (v3 + 1)) (lv' := [(3, .int (v3 + 1)), (0, .ref h0), (1, .int v1), (2, .int v2), (4, .int v4)]) hx hb dX0_writeSpan_23 hl (k := 3) rfl rfl (by decide) rfl (fun ls hl => ?_)
          refine lv_aload_n hx hb dX0_writeSpan_26 rfl (lv_at hl 1 rfl) ?_
          refine va_get (ci := 0) (v := .ref h1) (C := RX0) (T := TX0) (N := 9) hx hb hts uX0_writeSpan_X0 hown hK hP 0 rfl rfl 0 (by decide) (hts _ mX0_writeSpan_9) (fun _ h9 => h9) rfl dX0_writeSpan_27 ?_
          refine lv_iload hx hb dX0_writeSpan_30 (lv_at hl 4 rfl) ?_
          refine lv_bipush (v := (-2)) hx hb dX0_writeSpan_32 (by decide) ?_
          obtain ⟨i6, h⟩ := zi h
          refine za_ist hx hb hK hP hD hS 1 rfl _ rfl i6 dX0_writeSpan_34 (fun H locs hP hD hS => ?_)
          replace hP : zP g (zD g h0 h1 h2 h3 h4 (upd b v4.toNatClampNeg (-2)) pF pL st tm qt cm ds dr) H := hP
          replace hD : va_D A (zD g h0 h1 h2 h3 h4 (upd b v4.toNatClampNeg (-2)) pF pL st tm qt cm ds dr) := hD
          refine lv_iinc (v := (v4 + 1)) (lv' := [(4, .int (v4 + 1)), (3, .int (v3 + 1)), (0, .ref h0), (1, .int v1), (2, .int v2)]) hx hb dX0_writeSpan_35 hl (k := 4) rfl rfl (by decide) rfl (fun ls hl => ?_)
          refine lv_goto (tgt := 5) hx hb dX0_writeSpan_38 (by decide) ?_
          exact ih v1 v2 (v3 + 1) (v4 + 1) (upd b v4.toNatClampNeg (-2)) qt dr h H locs hP hD hS ls (lv_sub hl [2, 3, 4, 1, 0] rfl)
  unfold fX0_writeSpan at h
  refine lv_iconst (v := 0) hx hb dX0_writeSpan_0 (by decide) ?_
  refine lv_istore_n (lv' := [(3, .int 0), (0, .ref h0), (1, .int a1), (2, .int a2)]) hx hb dX0_writeSpan_1 rfl hl (by decide) rfl (fun ls hl => ?_)
  refine lv_iload_n hx hb dX0_writeSpan_2 rfl (lv_at hl 2 rfl) ?_
  refine lv_istore (lv' := [(4, .int a1), (3, .int 0), (0, .ref h0), (1, .int a1), (2, .int a2)]) hx hb dX0_writeSpan_3 hl (by decide) rfl (fun ls hl => ?_)
  exact loop_5 1000 a1 a2 0 a1 b qt dr h s.heap [] hP hD hS ls (lv_sub hl [2, 3, 4, 1, 0] rfl)
theorem hdV_X0_queueNow : yX0_queueNow.cls = RX0 ∧ yX0_queueNow.cls ≠ "java/lang/invoke/MethodHandle" ∧ yX0_queueNow.cls ≠ "java/lang/invoke/VarHandle" ∧ (parseMethodDescriptor yX0_queueNow.desc).map (fun d => d.parameters.length) = some 1 := by decide +kernel
def fX0_freeSpan_5 (tm : Int32) : Nat → Int32 → Int32 → Int32 → Int32 → (Nat → Int32) → (Int32) → (Int32) → Option (Int32 × (Nat → Int32) × (Int32) × (Int32))
  | 0, _, _, _, _, _, _, _ => none
  | n + 1, v1, v2, v3, v4, b, qt, dr =>
    if (v1 + v2) ≤ v4 then
        ob2 (fX0_dropSurplus b dr) fun b2 dr2 =>
        some (v3, b2, 0, dr2)
      else
        if v4 < 0 ∨ 256 ≤ v4.toNatClampNeg then none else
        if (b v4.toNatClampNeg) = (-2) then
          ob (fX0_queueNow b tm v4) fun b5 =>
          fX0_freeSpan_5 tm n v1 v2 (v3 + 1) (v4 + 1) b5 qt dr
        else
          fX0_freeSpan_5 tm n v1 v2 v3 (v4 + 1) b qt dr
def fX0_freeSpan (b : Nat → Int32) (tm : Int32) (qt : Int32) (dr : Int32) (a1 : Int32) (a2 : Int32) : Option (Int32 × (Nat → Int32) × (Int32) × (Int32)) :=
  fX0_freeSpan_5 tm 1000 a1 a2 0 a1 b qt dr
theorem mX0_freeSpan_46 : Cond.fieldLink RX0 46 "IdleDiscards$Device" "quiet" "I" ∈ wsX0_freeSpan := by decide +kernel
theorem uX0_freeSpan_X0 : ∀ w ∈ wsX00, w ∈ wsX0_freeSpan := by decide +kernel
theorem mX0_freeSpan_9 : Cond.fieldLink RX0 9 "IdleDiscards$Device" "blocks" "[I" ∈ wsX0_freeSpan := by decide +kernel
set_option maxRecDepth 100000 in
set_option maxHeartbeats 4000000 in
theorem kX0_freeSpan (l : Launch) (g : zG) (h0 h1 h2 h3 h4 : Nat) (b : Nat → Int32) (pF : Nat → Int32) (pL : Nat → Int32) (st : Nat → Int32) (tm : Int32) (qt : Int32) (cm : Int32) (ds : Int32) (dr : Int32) (a1 : Int32) (a2 : Int32) {r : Int32} {b' : Nat → Int32} {qt' : Int32} {dr' : Int32} (h : fX0_freeSpan b tm qt dr a1 a2 = some (r, b', qt', dr')) : Mw l g yX0_freeSpan wsX0_freeSpan { frames := 2, cells := 0, slots := 0, locals := 48 } [.ref h0, .int a1, .int a2] (zD g h0 h1 h2 h3 h4 b pF pL st tm qt cm ds dr) (zWi g (zD g h0 h1 h2 h3 h4 b' pF pL st tm qt' cm ds dr') r) := by
  refine zw_in (cc := cX0_freeSpan) (maxL := 5) (ret := (some .int)) (by decide) rfl (Nat.le_of_ble_eq_true rfl) ?_
  intro p e s m below meth c hx hb hr hml hts hown hlocks hK A hA hP hD hS ls hl
  replace hl : lv_has ls 5 [(0, .ref h0), (1, .int a1), (2, .int a2)] := hl
  have loop_5 : ∀ (n : Nat) (v1 : Int32) (v2 : Int32) (v3 : Int32) (v4 : Int32) (b : (Nat → Int32)) (qt : (Int32)) (dr : (Int32)), fX0_freeSpan_5 tm n v1 v2 v3 v4 b qt dr = some (r, b', qt', dr') → ∀ (H : Heap) (locs : List Loc), zP g (zD g h0 h1 h2 h3 h4 b pF pL st tm qt cm ds dr) H → va_D A (zD g h0 h1 h2 h3 h4 b pF pL st tm qt cm ds dr) → va_S A s.heap H locs → ∀ (ls : Array Slot), lv_has ls 5 [(0, .ref h0), (1, .int v1), (2, .int v2), (3, .int v3), (4, .int v4)] → W p l e ({ frames := 2, cells := 0, slots := 0, locals := 48 } : Room) s m [.ref h0, .int a1, .int a2].toArray below meth c H locs 0 0 (MQ below (zWi g (zD g h0 h1 h2 h3 h4 b' pF pL st tm qt' cm ds dr') r A) [.ref h0, .int a1, .int a2].toArray s 0 0 A) (F0 m 5 ls []) := by
    intro n
    induction n with
    | zero => intro v1 v2 v3 v4 b qt dr h H locs hP hD hS ls hl; exact zn h
    | succ n ih =>
      intro v1 v2 v3 v4 b qt dr h H locs hP hD hS ls hl
      rw [fX0_freeSpan_5] at h
      refine lv_iload hx hb dX0_freeSpan_5 (lv_at hl 4 rfl) ?_
      refine lv_iload_n hx hb dX0_freeSpan_7 rfl (lv_at hl 1 rfl) ?_
      refine lv_iload_n hx hb dX0_freeSpan_8 rfl (lv_at hl 2 rfl) ?_
      refine lv_iadd hx hb dX0_freeSpan_9 ?_
      refine lv_icmp_ge (tgt := 40) hx hb dX0_freeSpan_10 (by decide) (fun c1 => ?_) (fun c1 => ?_)
      · replace h := zt c1 h
        refine lv_aload_n hx hb dX0_freeSpan_40 rfl (lv_at hl 0 rfl) ?_
        refine lv_iconst (v := 0) hx hb dX0_freeSpan_41 (by decide) ?_
        refine va_put (ci := 0) (v := .int 0) (ty := .int) (C := RX0) (T := TX0) (N := 9) hx hb hts uX0_freeSpan_X0 tyX0 tyX0_ok nmX0 hown hK hP hD hS 0 rfl rfl 5 (by decide) (hts _ mX0_freeSpan_46) (fun _ h9 => h9) rfl (by decide +kernel) rfl rfl (Nat.le_of_ble_eq_true rfl) dX0_freeSpan_42 (fun H locs hP hD hS => ?_)
        replace hP : zP g (zD g h0 h1 h2 h3 h4 b pF pL st tm 0 cm ds dr) H := hP
        replace hD : va_D A (zD g h0 h1 h2 h3 h4 b pF pL st tm 0 cm ds dr) := hD
        refine lv_aload_n hx hb dX0_freeSpan_45 rfl (lv_at hl 0 rfl) ?_
        obtain ⟨b2, dr2, e2, h⟩ := zb2 h
        refine zVw (As := []) (rest := []) (zWv_q g _) ⟨hx, hb, hml, hown, hts⟩ (kX0_dropSurplus l g h0 h1 h2 h3 h4 b pF pL st tm 0 cm ds dr e2) (cwV 0 hts gX0_freeSpan_X0_dropSurplus rfl rfl rfl hdV_X0_dropSurplus ⟨Nat.le_of_ble_eq_true rfl, Nat.le_of_ble_eq_true rfl⟩) hK hP hD hS hA [0, 1, 2, 3, 4] (by decide) rfl rfl 0 rfl rfl rfl hl.1 rfl (Nat.le_of_ble_eq_true rfl) ⟨Nat.zero_le _, Nat.zero_le _⟩ dX0_freeSpan_46 (fun H locs hP hD hS => ?_)
        replace hP : zP g (zD g h0 h1 h2 h3 h4 b2 pF pL st tm 0 cm ds dr2) H := hP
        replace hD : va_D A (zD g h0 h1 h2 h3 h4 b2 pF pL st tm 0 cm ds dr2) := hD
        refine lv_iload_n hx hb dX0_freeSpan_49 rfl (lv_at hl 3 rfl) ?_
        cases h
        exact zw_i hx hb hr hlocks hP hS dX0_freeSpan_50
      · replace h := zf c1 h
        refine lv_aload_n hx hb dX0_freeSpan_13 rfl (lv_at hl 0 rfl) ?_
        refine va_get (ci := 0) (v := .ref h1) (C := RX0) (T := TX0) (N := 9) hx hb hts uX0_freeSpan_X0 hown hK hP 0 rfl rfl 0 (by decide) (hts _ mX0_freeSpan_9) (fun _ h9 => h9) rfl dX0_freeSpan_14 ?_
        refine lv_iload hx hb dX0_freeSpan_17 (lv_at hl 4 rfl) ?_
        obtain ⟨i3, h⟩ := zi h
        refine za_ild hx hb hK hP 1 rfl _ rfl i3 dX0_freeSpan_19 ?_
        refine lv_bipush (v := (-2)) hx hb dX0_freeSpan_20 (by decide) ?_
        refine lv_icmp_ne (tgt := 34) hx hb dX0_freeSpan_22 (by decide) (fun c4 => ?_) (fun c4 => ?_)
        · replace h := zf c4 h
          refine lv_iinc (v := (v4 + 1)) (lv' := [(4, .int (v4 + 1)), (0, .ref h0), (1, .int v1), (2, .int v2), (3, .int v3)]) hx hb dX0_freeSpan_34 hl (k := 4) rfl rfl (by decide) rfl (fun ls hl => ?_)
          refine lv_goto (tgt := 5) hx hb dX0_freeSpan_37 (by decide) ?_
          exact ih v1 v2 v3 (v4 + 1) b qt dr h H locs hP hD hS ls (lv_sub hl [1, 2, 3, 4, 0] rfl)
        · replace h := zt c4 h
          refine lv_aload_n hx hb dX0_freeSpan_25 rfl (lv_at hl 0 rfl) ?_
          refine lv_iload hx hb dX0_freeSpan_26 (lv_at hl 4 rfl) ?_
          obtain ⟨b5, e5, h⟩ := zb h
          refine zVw (As := [.int v4]) (rest := []) (zWv_q g _) ⟨hx, hb, hml, hown, hts⟩ (kX0_queueNow l g h0 h1 h2 h3 h4 b pF pL st tm qt cm ds dr v4 e5) (cwV 1 hts gX0_freeSpan_X0_queueNow rfl rfl rfl hdV_X0_queueNow ⟨Nat.le_of_ble_eq_true rfl, Nat.le_of_ble_eq_true rfl⟩) hK hP hD hS hA [0, 1, 2, 3, 4] (by decide) rfl rfl 0 rfl rfl rfl hl.1 rfl (Nat.le_of_ble_eq_true rfl) ⟨Nat.zero_le _, Nat.zero_le _⟩ dX0_freeSpan_28 (fun H locs hP hD hS => ?_)
          replace hP : zP g (zD g h0 h1 h2 h3 h4 b5 pF pL st tm qt cm ds dr) H := hP
          replace hD : va_D A (zD g h0 h1 h2 h3 h4 b5 pF pL st tm qt cm ds dr) := hD
          refine lv_iinc (v := (v3 + 1)) (lv' := [(3, .int (v3 + 1)), (0, .ref h0), (1, .int v1), (2, .int v2), (4, .int v4)]) hx hb dX0_freeSpan_31 hl (k := 3) rfl rfl (by decide) rfl (fun ls hl => ?_)
          refine lv_iinc (v := (v4 + 1)) (lv' := [(4, .int (v4 + 1)), (3, .int (v3 + 1)), (0, .ref h0), (1, .int v1), (2, .int v2)]) hx hb dX0_freeSpan_34 hl (k := 4) rfl rfl (by decide) rfl (fun ls hl => ?_)
          refine lv_goto (tgt := 5) hx hb dX0_freeSpan_37 (by decide) ?_
          exact ih v1 v2 (v3 + 1) (v4 + 1) b5 qt dr h H locs hP hD hS ls (lv_sub hl [2, 3, 4, 1, 0] rfl)
  unfold fX0_freeSpan at h
  refine lv_iconst (v := 0) hx hb dX0_freeSpan_0 (by decide) ?_
  refine lv_istore_n (lv' := [(3, .int 0), (0, .ref h0), (1, .int a1), (2, .int a2)]) hx hb dX0_freeSpan_1 rfl hl (by decide) rfl (fun ls hl => ?_)
  refine lv_iload_n hx hb dX0_freeSpan_2 rfl (lv_at hl 2 rfl) ?_
  refine lv_istore (lv' := [(4, .int a1), (3, .int 0), (0, .ref h0), (1, .int a1), (2, .int a2)]) hx hb dX0_freeSpan_3 hl (by decide) rfl (fun ls hl => ?_)
  exact loop_5 1000 a1 a2 0 a1 b qt dr h s.heap [] hP hD hS ls (lv_sub hl [2, 3, 4, 1, 0] rfl)
def fX0_pinSpan (pF : Nat → Int32) (pL : Nat → Int32) (a1 : Int32) (a2 : Int32) (a3 : Int32) : Option ((Nat → Int32) × (Nat → Int32)) :=
  if a1 < 0 ∨ 3 ≤ a1.toNatClampNeg then none else
  if a1 < 0 ∨ 3 ≤ a1.toNatClampNeg then none else
  some ((upd pF a1.toNatClampNeg a2), (upd pL a1.toNatClampNeg a3))
theorem mX0_pinSpan_15 : Cond.fieldLink RX0 15 "IdleDiscards$Device" "pinFirst" "[I" ∈ wsX0_pinSpan := by decide +kernel
theorem uX0_pinSpan_X0 : ∀ w ∈ wsX00, w ∈ wsX0_pinSpan := by decide +kernel
theorem mX0_pinSpan_18 : Cond.fieldLink RX0 18 "IdleDiscards$Device" "pinLength" "[I" ∈ wsX0_pinSpan := by decide +kernel
set_option maxRecDepth 100000 in
set_option maxHeartbeats 4000000 in
theorem kX0_pinSpan (l : Launch) (g : zG) (h0 h1 h2 h3 h4 : Nat) (b : Nat → Int32) (pF : Nat → Int32) (pL : Nat → Int32) (st : Nat → Int32) (tm : Int32) (qt : Int32) (cm : Int32) (ds : Int32) (dr : Int32) (a1 : Int32) (a2 : Int32) (a3 : Int32) {pF' : Nat → Int32} {pL' : Nat → Int32} (h : fX0_pinSpan pF pL a1 a2 a3 = some (pF', pL')) : Mw l g yX0_pinSpan wsX0_pinSpan { frames := 0, cells := 0, slots := 0, locals := 0 } [.ref h0, .int a1, .int a2, .int a3] (zD g h0 h1 h2 h3 h4 b pF pL st tm qt cm ds dr) (zWv g (zD g h0 h1 h2 h3 h4 b pF' pL' st tm qt cm ds dr)) := by
  refine zw_in (cc := cX0_pinSpan) (maxL := 4) (ret := none) (by decide) rfl (Nat.le_of_ble_eq_true rfl) ?_
  intro p e s m below meth c hx hb hr hml hts hown hlocks hK A hA hP hD hS ls hl
  replace hl : lv_has ls 4 [(0, .ref h0), (1, .int a1), (2, .int a2), (3, .int a3)] := hl
  unfold fX0_pinSpan at h
  refine lv_aload_n hx hb dX0_pinSpan_0 rfl (lv_at hl 0 rfl) ?_
  refine va_get (ci := 0) (v := .ref h2) (C := RX0) (T := TX0) (N := 9) hx hb hts uX0_pinSpan_X0 hown hK hP 0 rfl rfl 1 (by decide) (hts _ mX0_pinSpan_15) (fun _ h9 => h9) rfl dX0_pinSpan_1 ?_
  refine lv_iload_n hx hb dX0_pinSpan_4 rfl (lv_at hl 1 rfl) ?_
  refine lv_iload_n hx hb dX0_pinSpan_5 rfl (lv_at hl 2 rfl) ?_
  obtain ⟨i1, h⟩ := zi h
  refine za_ist hx hb hK hP hD hS 2 rfl _ rfl i1 dX0_pinSpan_6 (fun H locs hP hD hS => ?_)
  replace hP : zP g (zD g h0 h1 h2 h3 h4 b (upd pF a1.toNatClampNeg a2) pL st tm qt cm ds dr) H := hP
  replace hD : va_D A (zD g h0 h1 h2 h3 h4 b (upd pF a1.toNatClampNeg a2) pL st tm qt cm ds dr) := hD
  refine lv_aload_n hx hb dX0_pinSpan_7 rfl (lv_at hl 0 rfl) ?_
  refine va_get (ci := 0) (v := .ref h3) (C := RX0) (T := TX0) (N := 9) hx hb hts uX0_pinSpan_X0 hown hK hP 0 rfl rfl 2 (by decide) (hts _ mX0_pinSpan_18) (fun _ h9 => h9) rfl dX0_pinSpan_8 ?_
  refine lv_iload_n hx hb dX0_pinSpan_11 rfl (lv_at hl 1 rfl) ?_
  refine lv_iload_n hx hb dX0_pinSpan_12 rfl (lv_at hl 3 rfl) ?_
  obtain ⟨i2, h⟩ := zi h
  refine za_ist hx hb hK hP hD hS 3 rfl _ rfl i2 dX0_pinSpan_13 (fun H locs hP hD hS => ?_)
  replace hP : zP g (zD g h0 h1 h2 h3 h4 b (upd pF a1.toNatClampNeg a2) (upd pL a1.toNatClampNeg a3) st tm qt cm ds dr) H := hP
  replace hD : va_D A (zD g h0 h1 h2 h3 h4 b (upd pF a1.toNatClampNeg a2) (upd pL a1.toNatClampNeg a3) st tm qt cm ds dr) := hD
  cases h
  exact zw_v hx hb hr hlocks hP hS dX0_pinSpan_14
def fX0_hasPin (pL : Nat → Int32) (a1 : Int32) : Option (Int32) :=
  if a1 < 0 ∨ 3 ≤ a1.toNatClampNeg then none else
  if (pL a1.toNatClampNeg) ≤ 0 then
    some 0
  else
    some 1
theorem mX0_hasPin_18 : Cond.fieldLink RX0 18 "IdleDiscards$Device" "pinLength" "[I" ∈ wsX0_hasPin := by decide +kernel
theorem uX0_hasPin_X0 : ∀ w ∈ wsX00, w ∈ wsX0_hasPin := by decide +kernel
set_option maxRecDepth 100000 in
set_option maxHeartbeats 4000000 in
theorem kX0_hasPin (l : Launch) (g : zG) (h0 h1 h2 h3 h4 : Nat) (b : Nat → Int32) (pF : Nat → Int32) (pL : Nat → Int32) (st : Nat → Int32) (tm : Int32) (qt : Int32) (cm : Int32) (ds : Int32) (dr : Int32) (a1 : Int32) {r : Int32} (h : fX0_hasPin pL a1 = some r) : Mr l g yX0_hasPin wsX0_hasPin { frames := 0, cells := 0, slots := 0, locals := 0 } [.ref h0, .int a1] (zD g h0 h1 h2 h3 h4 b pF pL st tm qt cm ds dr) (zQi r) := by
  refine zr_in (cc := cX0_hasPin) (maxL := 2) (ret := (some .boolean)) (by decide) rfl (Nat.le_of_ble_eq_true rfl) ?_
  intro p e s m below meth c hx hb hr hml hts hown hlocks hP hK ls hl
  replace hl : lv_has ls 2 [(0, .ref h0), (1, .int a1)] := hl
  unfold fX0_hasPin at h
  refine lv_aload_n hx hb dX0_hasPin_0 rfl (lv_at hl 0 rfl) ?_
  refine va_get (ci := 0) (v := .ref h3) (C := RX0) (T := TX0) (N := 9) hx hb hts uX0_hasPin_X0 hown hK hP 0 rfl rfl 2 (by decide) (hts _ mX0_hasPin_18) (fun _ h9 => h9) rfl dX0_hasPin_1 ?_
  refine lv_iload_n hx hb dX0_hasPin_4 rfl (lv_at hl 1 rfl) ?_
  obtain ⟨i1, h⟩ := zi h
  refine za_ild hx hb hK hP 3 rfl _ rfl i1 dX0_hasPin_5 ?_
  refine lv_if_le (tgt := 13) hx hb dX0_hasPin_6 (by decide) (fun c2 => ?_) (fun c2 => ?_)
  · replace h := zt c2 h
    refine lv_iconst (v := 0) hx hb dX0_hasPin_13 (by decide) ?_
    cases h
    exact zr_z hx hb hr hlocks (by decide) dX0_hasPin_14
  · replace h := zf c2 h
    refine lv_iconst (v := 1) hx hb dX0_hasPin_9 (by decide) ?_
    refine lv_goto (tgt := 14) hx hb dX0_hasPin_10 (by decide) ?_
    cases h
    exact zr_z hx hb hr hlocks (by decide) dX0_hasPin_14
def fX0_firstPinned (pF : Nat → Int32) (a1 : Int32) : Option (Int32) :=
  if a1 < 0 ∨ 3 ≤ a1.toNatClampNeg then none else
  some (pF a1.toNatClampNeg)
theorem mX0_firstPinned_15 : Cond.fieldLink RX0 15 "IdleDiscards$Device" "pinFirst" "[I" ∈ wsX0_firstPinned := by decide +kernel
theorem uX0_firstPinned_X0 : ∀ w ∈ wsX00, w ∈ wsX0_firstPinned := by decide +kernel
set_option maxRecDepth 100000 in
set_option maxHeartbeats 4000000 in
theorem kX0_firstPinned (l : Launch) (g : zG) (h0 h1 h2 h3 h4 : Nat) (b : Nat → Int32) (pF : Nat → Int32) (pL : Nat → Int32) (st : Nat → Int32) (tm : Int32) (qt : Int32) (cm : Int32) (ds : Int32) (dr : Int32) (a1 : Int32) {r : Int32} (h : fX0_firstPinned pF a1 = some r) : Mr l g yX0_firstPinned wsX0_firstPinned { frames := 0, cells := 0, slots := 0, locals := 0 } [.ref h0, .int a1] (zD g h0 h1 h2 h3 h4 b pF pL st tm qt cm ds dr) (zQi r) := by
  refine zr_in (cc := cX0_firstPinned) (maxL := 2) (ret := (some .int)) (by decide) rfl (Nat.le_of_ble_eq_true rfl) ?_
  intro p e s m below meth c hx hb hr hml hts hown hlocks hP hK ls hl
  replace hl : lv_has ls 2 [(0, .ref h0), (1, .int a1)] := hl
  unfold fX0_firstPinned at h
  refine lv_aload_n hx hb dX0_firstPinned_0 rfl (lv_at hl 0 rfl) ?_
  refine va_get (ci := 0) (v := .ref h2) (C := RX0) (T := TX0) (N := 9) hx hb hts uX0_firstPinned_X0 hown hK hP 0 rfl rfl 1 (by decide) (hts _ mX0_firstPinned_15) (fun _ h9 => h9) rfl dX0_firstPinned_1 ?_
  refine lv_iload_n hx hb dX0_firstPinned_4 rfl (lv_at hl 1 rfl) ?_
  obtain ⟨i1, h⟩ := zi h
  refine za_ild hx hb hK hP 2 rfl _ rfl i1 dX0_firstPinned_5 ?_
  cases h
  exact zr_i hx hb hr hlocks dX0_firstPinned_6
def fX0_lengthPinned (pL : Nat → Int32) (a1 : Int32) : Option (Int32) :=
  if a1 < 0 ∨ 3 ≤ a1.toNatClampNeg then none else
  some (pL a1.toNatClampNeg)
theorem mX0_lengthPinned_18 : Cond.fieldLink RX0 18 "IdleDiscards$Device" "pinLength" "[I" ∈ wsX0_lengthPinned := by decide +kernel
theorem uX0_lengthPinned_X0 : ∀ w ∈ wsX00, w ∈ wsX0_lengthPinned := by decide +kernel
set_option maxRecDepth 100000 in
set_option maxHeartbeats 4000000 in
theorem kX0_lengthPinned (l : Launch) (g : zG) (h0 h1 h2 h3 h4 : Nat) (b : Nat → Int32) (pF : Nat → Int32) (pL : Nat → Int32) (st : Nat → Int32) (tm : Int32) (qt : Int32) (cm : Int32) (ds : Int32) (dr : Int32) (a1 : Int32) {r : Int32} (h : fX0_lengthPinned pL a1 = some r) : Mr l g yX0_lengthPinned wsX0_lengthPinned { frames := 0, cells := 0, slots := 0, locals := 0 } [.ref h0, .int a1] (zD g h0 h1 h2 h3 h4 b pF pL st tm qt cm ds dr) (zQi r) := by
  refine zr_in (cc := cX0_lengthPinned) (maxL := 2) (ret := (some .int)) (by decide) rfl (Nat.le_of_ble_eq_true rfl) ?_
  intro p e s m below meth c hx hb hr hml hts hown hlocks hP hK ls hl
  replace hl : lv_has ls 2 [(0, .ref h0), (1, .int a1)] := hl
  unfold fX0_lengthPinned at h
  refine lv_aload_n hx hb dX0_lengthPinned_0 rfl (lv_at hl 0 rfl) ?_
  refine va_get (ci := 0) (v := .ref h3) (C := RX0) (T := TX0) (N := 9) hx hb hts uX0_lengthPinned_X0 hown hK hP 0 rfl rfl 2 (by decide) (hts _ mX0_lengthPinned_18) (fun _ h9 => h9) rfl dX0_lengthPinned_1 ?_
  refine lv_iload_n hx hb dX0_lengthPinned_4 rfl (lv_at hl 1 rfl) ?_
  obtain ⟨i1, h⟩ := zi h
  refine za_ild hx hb hK hP 3 rfl _ rfl i1 dX0_lengthPinned_5 ?_
  cases h
  exact zr_i hx hb hr hlocks dX0_lengthPinned_6
def fX0_isAnyPinned_2 (pF : Nat → Int32) (pL : Nat → Int32) : Nat → Int32 → Int32 → Int32 → Option (Int32)
  | 0, _, _, _ => none
  | n + 1, v1, v2, v3 =>
    if 3 ≤ v3 then
        some 0
      else
        if v3 < 0 ∨ 3 ≤ v3.toNatClampNeg then none else
        if (pL v3.toNatClampNeg) ≤ 0 then
          fX0_isAnyPinned_2 pF pL n v1 v2 (v3 + 1)
        else
          if v3 < 0 ∨ 3 ≤ v3.toNatClampNeg then none else
          if v2 ≤ (pF v3.toNatClampNeg) then
            fX0_isAnyPinned_2 pF pL n v1 v2 (v3 + 1)
          else
            if v3 < 0 ∨ 3 ≤ v3.toNatClampNeg then none else
            if v3 < 0 ∨ 3 ≤ v3.toNatClampNeg then none else
            if ((pF v3.toNatClampNeg) + (pL v3.toNatClampNeg)) ≤ v1 then
              fX0_isAnyPinned_2 pF pL n v1 v2 (v3 + 1)
            else
              some 1
def fX0_isAnyPinned (pF : Nat → Int32) (pL : Nat → Int32) (a1 : Int32) (a2 : Int32) : Option (Int32) :=
  fX0_isAnyPinned_2 pF pL 1000 a1 a2 0
theorem mX0_isAnyPinned_18 : Cond.fieldLink RX0 18 "IdleDiscards$Device" "pinLength" "[I" ∈ wsX0_isAnyPinned := by decide +kernel
theorem uX0_isAnyPinned_X0 : ∀ w ∈ wsX00, w ∈ wsX0_isAnyPinned := by decide +kernel
theorem mX0_isAnyPinned_15 : Cond.fieldLink RX0 15 "IdleDiscards$Device" "pinFirst" "[I" ∈ wsX0_isAnyPinned := by decide +kernel
set_option maxRecDepth 100000 in
set_option maxHeartbeats 4000000 in
theorem kX0_isAnyPinned (l : Launch) (g : zG) (h0 h1 h2 h3 h4 : Nat) (b : Nat → Int32) (pF : Nat → Int32) (pL : Nat → Int32) (st : Nat → Int32) (tm : Int32) (qt : Int32) (cm : Int32) (ds : Int32) (dr : Int32) (a1 : Int32) (a2 : Int32) {r : Int32} (h : fX0_isAnyPinned pF pL a1 a2 = some r) : Mr l g yX0_isAnyPinned wsX0_isAnyPinned { frames := 0, cells := 0, slots := 0, locals := 0 } [.ref h0, .int a1, .int a2] (zD g h0 h1 h2 h3 h4 b pF pL st tm qt cm ds dr) (zQi r) := by
  refine zr_in (cc := cX0_isAnyPinned) (maxL := 4) (ret := (some .boolean)) (by decide) rfl (Nat.le_of_ble_eq_true rfl) ?_
  intro p e s m below meth c hx hb hr hml hts hown hlocks hP hK ls hl
  replace hl : lv_has ls 4 [(0, .ref h0), (1, .int a1), (2, .int a2)] := hl
  have loop_2 : ∀ (n : Nat) (v1 : Int32) (v2 : Int32) (v3 : Int32), fX0_isAnyPinned_2 pF pL n v1 v2 v3 = some r → ∀ (ls : Array Slot), lv_has ls 4 [(0, .ref h0), (1, .int v1), (2, .int v2), (3, .int v3)] → W p l e ({ frames := 0, cells := 0, slots := 0, locals := 0 } : Room) s m [.ref h0, .int a1, .int a2].toArray below meth c s.heap [] 0 0 (MQ below (zQi r) [.ref h0, .int a1, .int a2].toArray s 0 0 (fun _ => False)) (F0 m 2 ls []) := by
    intro n
    induction n with
    | zero => intro v1 v2 v3 h ls hl; exact zn h
    | succ n ih =>
      intro v1 v2 v3 h ls hl
      rw [fX0_isAnyPinned_2] at h
      refine lv_iload_n hx hb dX0_isAnyPinned_2 rfl (lv_at hl 3 rfl) ?_
      refine lv_iconst (v := 3) hx hb dX0_isAnyPinned_3 (by decide) ?_
      refine lv_icmp_ge (tgt := 51) hx hb dX0_isAnyPinned_4 (by decide) (fun c1 => ?_) (fun c1 => ?_)
      · replace h := zt c1 h
        refine lv_iconst (v := 0) hx hb dX0_isAnyPinned_51 (by decide) ?_
        cases h
        exact zr_z hx hb hr hlocks (by decide) dX0_isAnyPinned_52
      · replace h := zf c1 h
        refine lv_aload_n hx hb dX0_isAnyPinned_7 rfl (lv_at hl 0 rfl) ?_
        refine va_get (ci := 0) (v := .ref h3) (C := RX0) (T := TX0) (N := 9) hx hb hts uX0_isAnyPinned_X0 hown hK hP 0 rfl rfl 2 (by decide) (hts _ mX0_isAnyPinned_18) (fun _ h9 => h9) rfl dX0_isAnyPinned_8 ?_
        refine lv_iload_n hx hb dX0_isAnyPinned_11 rfl (lv_at hl 3 rfl) ?_
        obtain ⟨i2, h⟩ := zi h
        refine za_ild hx hb hK hP 3 rfl _ rfl i2 dX0_isAnyPinned_12 ?_
        refine lv_if_le (tgt := 45) hx hb dX0_isAnyPinned_13 (by decide) (fun c3 => ?_) (fun c3 => ?_)
        · replace h := zt c3 h
          refine lv_iinc (v := (v3 + 1)) (lv' := [(3, .int (v3 + 1)), (0, .ref h0), (1, .int v1), (2, .int v2)]) hx hb dX0_isAnyPinned_45 hl (k := 3) rfl rfl (by decide) rfl (fun ls hl => ?_)
          refine lv_goto (tgt := 2) hx hb dX0_isAnyPinned_48 (by decide) ?_
          exact ih v1 v2 (v3 + 1) h ls (lv_sub hl [1, 2, 3, 0] rfl)
        · replace h := zf c3 h
          refine lv_aload_n hx hb dX0_isAnyPinned_16 rfl (lv_at hl 0 rfl) ?_
          refine va_get (ci := 0) (v := .ref h2) (C := RX0) (T := TX0) (N := 9) hx hb hts uX0_isAnyPinned_X0 hown hK hP 0 rfl rfl 1 (by decide) (hts _ mX0_isAnyPinned_15) (fun _ h9 => h9) rfl dX0_isAnyPinned_17 ?_
          refine lv_iload_n hx hb dX0_isAnyPinned_20 rfl (lv_at hl 3 rfl) ?_
          obtain ⟨i4, h⟩ := zi h
          refine za_ild hx hb hK hP 2 rfl _ rfl i4 dX0_isAnyPinned_21 ?_
          refine lv_iload_n hx hb dX0_isAnyPinned_22 rfl (lv_at hl 2 rfl) ?_
          refine lv_icmp_ge (tgt := 45) hx hb dX0_isAnyPinned_23 (by decide) (fun c5 => ?_) (fun c5 => ?_)
          · replace h := zt c5 h
            refine lv_iinc (v := (v3 + 1)) (lv' := [(3, .int (v3 + 1)), (0, .ref h0), (1, .int v1), (2, .int v2)]) hx hb dX0_isAnyPinned_45 hl (k := 3) rfl rfl (by decide) rfl (fun ls hl => ?_)
            refine lv_goto (tgt := 2) hx hb dX0_isAnyPinned_48 (by decide) ?_
            exact ih v1 v2 (v3 + 1) h ls (lv_sub hl [1, 2, 3, 0] rfl)
          · replace h := zf c5 h
            refine lv_aload_n hx hb dX0_isAnyPinned_26 rfl (lv_at hl 0 rfl) ?_
            refine va_get (ci := 0) (v := .ref h2) (C := RX0) (T := TX0) (N := 9) hx hb hts uX0_isAnyPinned_X0 hown hK hP 0 rfl rfl 1 (by decide) (hts _ mX0_isAnyPinned_15) (fun _ h9 => h9) rfl dX0_isAnyPinned_27 ?_
            refine lv_iload_n hx hb dX0_isAnyPinned_30 rfl (lv_at hl 3 rfl) ?_
            obtain ⟨i6, h⟩ := zi h
            refine za_ild hx hb hK hP 2 rfl _ rfl i6 dX0_isAnyPinned_31 ?_
            refine lv_aload_n hx hb dX0_isAnyPinned_32 rfl (lv_at hl 0 rfl) ?_
            refine va_get (ci := 0) (v := .ref h3) (C := RX0) (T := TX0) (N := 9) hx hb hts uX0_isAnyPinned_X0 hown hK hP 0 rfl rfl 2 (by decide) (hts _ mX0_isAnyPinned_18) (fun _ h9 => h9) rfl dX0_isAnyPinned_33 ?_
            refine lv_iload_n hx hb dX0_isAnyPinned_36 rfl (lv_at hl 3 rfl) ?_
            obtain ⟨i7, h⟩ := zi h
            refine za_ild hx hb hK hP 3 rfl _ rfl i7 dX0_isAnyPinned_37 ?_
            refine lv_iadd hx hb dX0_isAnyPinned_38 ?_
            refine lv_iload_n hx hb dX0_isAnyPinned_39 rfl (lv_at hl 1 rfl) ?_
            refine lv_icmp_le (tgt := 45) hx hb dX0_isAnyPinned_40 (by decide) (fun c8 => ?_) (fun c8 => ?_)
            · replace h := zt c8 h
              refine lv_iinc (v := (v3 + 1)) (lv' := [(3, .int (v3 + 1)), (0, .ref h0), (1, .int v1), (2, .int v2)]) hx hb dX0_isAnyPinned_45 hl (k := 3) rfl rfl (by decide) rfl (fun ls hl => ?_)
              refine lv_goto (tgt := 2) hx hb dX0_isAnyPinned_48 (by decide) ?_
              exact ih v1 v2 (v3 + 1) h ls (lv_sub hl [1, 2, 3, 0] rfl)
            · replace h := zf c8 h
              refine lv_iconst (v := 1) hx hb dX0_isAnyPinned_43 (by decide) ?_
              cases h
              exact zr_z hx hb hr hlocks (by decide) dX0_isAnyPinned_44
  unfold fX0_isAnyPinned at h
  refine lv_iconst (v := 0) hx hb dX0_isAnyPinned_0 (by decide) ?_
  refine lv_istore_n (lv' := [(3, .int 0), (0, .ref h0), (1, .int a1), (2, .int a2)]) hx hb dX0_isAnyPinned_1 rfl hl (by decide) rfl (fun ls hl => ?_)
  exact loop_2 1000 a1 a2 0 h ls (lv_sub hl [1, 2, 3, 0] rfl)
theorem hdV_X0_isAnyPinned : yX0_isAnyPinned.cls = RX0 ∧ yX0_isAnyPinned.cls ≠ "java/lang/invoke/MethodHandle" ∧ yX0_isAnyPinned.cls ≠ "java/lang/invoke/VarHandle" ∧ (parseMethodDescriptor yX0_isAnyPinned.desc).map (fun d => d.parameters.length) = some 2 := by decide +kernel
def fX0_countPinned_4 (pF : Nat → Int32) (pL : Nat → Int32) : Nat → Int32 → Int32 → Option (Int32)
  | 0, _, _ => none
  | n + 1, v1, v2 =>
    if 256 ≤ v2 then
        some v1
      else
        ob (fX0_isAnyPinned pF pL v2 (v2 + 1)) fun r2 =>
        if r2 = 0 then
          fX0_countPinned_4 pF pL n v1 (v2 + 1)
        else
          fX0_countPinned_4 pF pL n (v1 + 1) (v2 + 1)
def fX0_countPinned (pF : Nat → Int32) (pL : Nat → Int32) : Option (Int32) :=
  fX0_countPinned_4 pF pL 1000 0 0
set_option maxRecDepth 100000 in
set_option maxHeartbeats 4000000 in
theorem kX0_countPinned (l : Launch) (g : zG) (h0 h1 h2 h3 h4 : Nat) (b : Nat → Int32) (pF : Nat → Int32) (pL : Nat → Int32) (st : Nat → Int32) (tm : Int32) (qt : Int32) (cm : Int32) (ds : Int32) (dr : Int32) {r : Int32} (h : fX0_countPinned pF pL = some r) : Mr l g yX0_countPinned wsX0_countPinned { frames := 1, cells := 0, slots := 0, locals := 23 } [.ref h0] (zD g h0 h1 h2 h3 h4 b pF pL st tm qt cm ds dr) (zQi r) := by
  refine zr_in (cc := cX0_countPinned) (maxL := 3) (ret := (some .int)) (by decide) rfl (Nat.le_of_ble_eq_true rfl) ?_
  intro p e s m below meth c hx hb hr hml hts hown hlocks hP hK ls hl
  replace hl : lv_has ls 3 [(0, .ref h0)] := hl
  have loop_4 : ∀ (n : Nat) (v1 : Int32) (v2 : Int32), fX0_countPinned_4 pF pL n v1 v2 = some r → ∀ (ls : Array Slot), lv_has ls 3 [(0, .ref h0), (1, .int v1), (2, .int v2)] → W p l e ({ frames := 1, cells := 0, slots := 0, locals := 23 } : Room) s m [.ref h0].toArray below meth c s.heap [] 0 0 (MQ below (zQi r) [.ref h0].toArray s 0 0 (fun _ => False)) (F0 m 4 ls []) := by
    intro n
    induction n with
    | zero => intro v1 v2 h ls hl; exact zn h
    | succ n ih =>
      intro v1 v2 h ls hl
      rw [fX0_countPinned_4] at h
      refine lv_iload_n hx hb dX0_countPinned_4 rfl (lv_at hl 2 rfl) ?_
      refine lv_sipush (v := 256) hx hb dX0_countPinned_5 (by decide) ?_
      refine lv_icmp_ge (tgt := 31) hx hb dX0_countPinned_8 (by decide) (fun c1 => ?_) (fun c1 => ?_)
      · replace h := zt c1 h
        refine lv_iload_n hx hb dX0_countPinned_31 rfl (lv_at hl 1 rfl) ?_
        cases h
        exact zr_i hx hb hr hlocks dX0_countPinned_32
      · replace h := zf c1 h
        refine lv_aload_n hx hb dX0_countPinned_11 rfl (lv_at hl 0 rfl) ?_
        refine lv_iload_n hx hb dX0_countPinned_12 rfl (lv_at hl 2 rfl) ?_
        refine lv_iload_n hx hb dX0_countPinned_13 rfl (lv_at hl 2 rfl) ?_
        refine lv_iconst (v := 1) hx hb dX0_countPinned_14 (by decide) ?_
        refine lv_iadd hx hb dX0_countPinned_15 ?_
        obtain ⟨r2, e2, h⟩ := zb h
        refine zV (As := [.int v2, .int (v2 + 1)]) (rest := []) (zQi_q _) ⟨hx, hb, hml, hown, hts⟩ (kX0_isAnyPinned l g h0 h1 h2 h3 h4 b pF pL st tm qt cm ds dr v2 (v2 + 1) e2) (cwV 2 hts gX0_countPinned_X0_isAnyPinned rfl rfl rfl hdV_X0_isAnyPinned ⟨Nat.le_of_ble_eq_true rfl, Nat.le_of_ble_eq_true rfl⟩) hK hP [0, 1, 2, 3, 4] rfl 0 rfl rfl rfl hl.1 rfl (Nat.le_of_ble_eq_true rfl) ⟨Nat.zero_le _, Nat.zero_le _⟩ dX0_countPinned_16 ?_
        refine lv_if_eq (tgt := 25) hx hb dX0_countPinned_19 (by decide) (fun c3 => ?_) (fun c3 => ?_)
        · replace h := zt c3 h
          refine lv_iinc (v := (v2 + 1)) (lv' := [(2, .int (v2 + 1)), (0, .ref h0), (1, .int v1)]) hx hb dX0_countPinned_25 hl (k := 2) rfl rfl (by decide) rfl (fun ls hl => ?_)
          refine lv_goto (tgt := 4) hx hb dX0_countPinned_28 (by decide) ?_
          exact ih v1 (v2 + 1) h ls (lv_sub hl [1, 2, 0] rfl)
        · replace h := zf c3 h
          refine lv_iinc (v := (v1 + 1)) (lv' := [(1, .int (v1 + 1)), (0, .ref h0), (2, .int v2)]) hx hb dX0_countPinned_22 hl (k := 1) rfl rfl (by decide) rfl (fun ls hl => ?_)
          refine lv_iinc (v := (v2 + 1)) (lv' := [(2, .int (v2 + 1)), (1, .int (v1 + 1)), (0, .ref h0)]) hx hb dX0_countPinned_25 hl (k := 2) rfl rfl (by decide) rfl (fun ls hl => ?_)
          refine lv_goto (tgt := 4) hx hb dX0_countPinned_28 (by decide) ?_
          exact ih (v1 + 1) (v2 + 1) h ls (lv_sub hl [2, 1, 0] rfl)
  unfold fX0_countPinned at h
  refine lv_iconst (v := 0) hx hb dX0_countPinned_0 (by decide) ?_
  refine lv_istore_n (lv' := [(1, .int 0), (0, .ref h0)]) hx hb dX0_countPinned_1 rfl hl (by decide) rfl (fun ls hl => ?_)
  refine lv_iconst (v := 0) hx hb dX0_countPinned_2 (by decide) ?_
  refine lv_istore_n (lv' := [(2, .int 0), (1, .int 0), (0, .ref h0)]) hx hb dX0_countPinned_3 rfl hl (by decide) rfl (fun ls hl => ?_)
  exact loop_4 1000 0 0 h ls (lv_sub hl [2, 1, 0] rfl)
def fX0_countRanges (b : Nat → Int32) : Option (Int32) :=
  ob (fX0_countRangesAhead b 256) fun r1 =>
  some r1
set_option maxRecDepth 100000 in
set_option maxHeartbeats 4000000 in
theorem kX0_countRanges (l : Launch) (g : zG) (h0 h1 h2 h3 h4 : Nat) (b : Nat → Int32) (pF : Nat → Int32) (pL : Nat → Int32) (st : Nat → Int32) (tm : Int32) (qt : Int32) (cm : Int32) (ds : Int32) (dr : Int32) {r : Int32} (h : fX0_countRanges b = some r) : Mr l g yX0_countRanges wsX0_countRanges { frames := 1, cells := 0, slots := 0, locals := 25 } [.ref h0] (zD g h0 h1 h2 h3 h4 b pF pL st tm qt cm ds dr) (zQi r) := by
  refine zr_in (cc := cX0_countRanges) (maxL := 1) (ret := (some .int)) (by decide) rfl (Nat.le_of_ble_eq_true rfl) ?_
  intro p e s m below meth c hx hb hr hml hts hown hlocks hP hK ls hl
  replace hl : lv_has ls 1 [(0, .ref h0)] := hl
  unfold fX0_countRanges at h
  refine lv_aload_n hx hb dX0_countRanges_0 rfl (lv_at hl 0 rfl) ?_
  refine lv_sipush (v := 256) hx hb dX0_countRanges_1 (by decide) ?_
  obtain ⟨r1, e1, h⟩ := zb h
  refine zV (As := [.int 256]) (rest := []) (zQi_q _) ⟨hx, hb, hml, hown, hts⟩ (kX0_countRangesAhead l g h0 h1 h2 h3 h4 b pF pL st tm qt cm ds dr 256 e1) (cwV 1 hts gX0_countRanges_X0_countRangesAhead rfl rfl rfl hdV_X0_countRangesAhead ⟨Nat.le_of_ble_eq_true rfl, Nat.le_of_ble_eq_true rfl⟩) hK hP [0, 1, 2, 3, 4] rfl 0 rfl rfl rfl hl.1 rfl (Nat.le_of_ble_eq_true rfl) ⟨Nat.zero_le _, Nat.zero_le _⟩ dX0_countRanges_4 ?_
  cases h
  exact zr_i hx hb hr hlocks dX0_countRanges_7
def fX0_rangeOf (b : Nat → Int32) (a1 : Int32) : Option (Int32) :=
  if a1 < 0 ∨ 256 ≤ a1.toNatClampNeg then none else
  if (b a1.toNatClampNeg) < 0 then
    some (-1)
  else
    ob (fX0_countRangesAhead b (a1 + 1)) fun r3 =>
    some (r3 - 1)
theorem mX0_rangeOf_9 : Cond.fieldLink RX0 9 "IdleDiscards$Device" "blocks" "[I" ∈ wsX0_rangeOf := by decide +kernel
theorem uX0_rangeOf_X0 : ∀ w ∈ wsX00, w ∈ wsX0_rangeOf := by decide +kernel
set_option maxRecDepth 100000 in
set_option maxHeartbeats 4000000 in
theorem kX0_rangeOf (l : Launch) (g : zG) (h0 h1 h2 h3 h4 : Nat) (b : Nat → Int32) (pF : Nat → Int32) (pL : Nat → Int32) (st : Nat → Int32) (tm : Int32) (qt : Int32) (cm : Int32) (ds : Int32) (dr : Int32) (a1 : Int32) {r : Int32} (h : fX0_rangeOf b a1 = some r) : Mr l g yX0_rangeOf wsX0_rangeOf { frames := 1, cells := 0, slots := 0, locals := 25 } [.ref h0, .int a1] (zD g h0 h1 h2 h3 h4 b pF pL st tm qt cm ds dr) (zQi r) := by
  refine zr_in (cc := cX0_rangeOf) (maxL := 2) (ret := (some .int)) (by decide) rfl (Nat.le_of_ble_eq_true rfl) ?_
  intro p e s m below meth c hx hb hr hml hts hown hlocks hP hK ls hl
  replace hl : lv_has ls 2 [(0, .ref h0), (1, .int a1)] := hl
  unfold fX0_rangeOf at h
  refine lv_aload_n hx hb dX0_rangeOf_0 rfl (lv_at hl 0 rfl) ?_
  refine va_get (ci := 0) (v := .ref h1) (C := RX0) (T := TX0) (N := 9) hx hb hts uX0_rangeOf_X0 hown hK hP 0 rfl rfl 0 (by decide) (hts _ mX0_rangeOf_9) (fun _ h9 => h9) rfl dX0_rangeOf_1 ?_
  refine lv_iload_n hx hb dX0_rangeOf_4 rfl (lv_at hl 1 rfl) ?_
  obtain ⟨i1, h⟩ := zi h
  refine za_ild hx hb hK hP 1 rfl _ rfl i1 dX0_rangeOf_5 ?_
  refine lv_if_lt (tgt := 21) hx hb dX0_rangeOf_6 (by decide) (fun c2 => ?_) (fun c2 => ?_)
  · replace h := zt c2 h
    refine lv_iconst (v := (-1)) hx hb dX0_rangeOf_21 (by decide) ?_
    cases h
    exact zr_i hx hb hr hlocks dX0_rangeOf_22
  · replace h := zf c2 h
    refine lv_aload_n hx hb dX0_rangeOf_9 rfl (lv_at hl 0 rfl) ?_
    refine lv_iload_n hx hb dX0_rangeOf_10 rfl (lv_at hl 1 rfl) ?_
    refine lv_iconst (v := 1) hx hb dX0_rangeOf_11 (by decide) ?_
    refine lv_iadd hx hb dX0_rangeOf_12 ?_
    obtain ⟨r3, e3, h⟩ := zb h
    refine zV (As := [.int (a1 + 1)]) (rest := []) (zQi_q _) ⟨hx, hb, hml, hown, hts⟩ (kX0_countRangesAhead l g h0 h1 h2 h3 h4 b pF pL st tm qt cm ds dr (a1 + 1) e3) (cwV 1 hts gX0_rangeOf_X0_countRangesAhead rfl rfl rfl hdV_X0_countRangesAhead ⟨Nat.le_of_ble_eq_true rfl, Nat.le_of_ble_eq_true rfl⟩) hK hP [0, 1, 2, 3, 4] rfl 0 rfl rfl rfl hl.1 rfl (Nat.le_of_ble_eq_true rfl) ⟨Nat.zero_le _, Nat.zero_le _⟩ dX0_rangeOf_13 ?_
    refine lv_iconst (v := 1) hx hb dX0_rangeOf_16 (by decide) ?_
    refine lv_isub hx hb dX0_rangeOf_17 ?_
    refine lv_goto (tgt := 22) hx hb dX0_rangeOf_18 (by decide) ?_
    cases h
    exact zr_i hx hb hr hlocks dX0_rangeOf_22
def fX0_firstOfRange_7 (b : Nat → Int32) : Nat → Int32 → Int32 → Int32 → Option (Int32)
  | 0, _, _, _ => none
  | n + 1, v2, v3, v4 =>
    if 256 ≤ v4 then
        some 0
      else
        if v4 < 0 ∨ 256 ≤ v4.toNatClampNeg then none else
        if (b v4.toNatClampNeg) < 0 then
          fX0_firstOfRange_7 b n v2 0 (v4 + 1)
        else
          if v3 = 0 then
            if v2 = 0 then
              some v4
            else
              fX0_firstOfRange_7 b n (v2 + (-1)) 1 (v4 + 1)
          else
            fX0_firstOfRange_7 b n v2 1 (v4 + 1)
def fX0_firstOfRange (b : Nat → Int32) (a1 : Int32) : Option (Int32) :=
  fX0_firstOfRange_7 b 1000 a1 0 0
theorem mX0_firstOfRange_9 : Cond.fieldLink RX0 9 "IdleDiscards$Device" "blocks" "[I" ∈ wsX0_firstOfRange := by decide +kernel
theorem uX0_firstOfRange_X0 : ∀ w ∈ wsX00, w ∈ wsX0_firstOfRange := by decide +kernel
set_option maxRecDepth 100000 in
set_option maxHeartbeats 4000000 in
theorem kX0_firstOfRange (l : Launch) (g : zG) (h0 h1 h2 h3 h4 : Nat) (b : Nat → Int32) (pF : Nat → Int32) (pL : Nat → Int32) (st : Nat → Int32) (tm : Int32) (qt : Int32) (cm : Int32) (ds : Int32) (dr : Int32) (a1 : Int32) {r : Int32} (h : fX0_firstOfRange b a1 = some r) : Mr l g yX0_firstOfRange wsX0_firstOfRange { frames := 0, cells := 0, slots := 0, locals := 0 } [.ref h0, .int a1] (zD g h0 h1 h2 h3 h4 b pF pL st tm qt cm ds dr) (zQi r) := by
  refine zr_in (cc := cX0_firstOfRange) (maxL := 6) (ret := (some .int)) (by decide) rfl (Nat.le_of_ble_eq_true rfl) ?_
  intro p e s m below meth c hx hb hr hml hts hown hlocks hP hK ls hl
  replace hl : lv_has ls 6 [(0, .ref h0), (1, .int a1)] := hl
  have loop_7 : ∀ (n : Nat) (v2 : Int32) (v3 : Int32) (v4 : Int32), fX0_firstOfRange_7 b n v2 v3 v4 = some r → ∀ (ls : Array Slot), lv_has ls 6 [(0, .ref h0), (2, .int v2), (3, .int v3), (4, .int v4)] → W p l e ({ frames := 0, cells := 0, slots := 0, locals := 0 } : Room) s m [.ref h0, .int a1].toArray below meth c s.heap [] 0 0 (MQ below (zQi r) [.ref h0, .int a1].toArray s 0 0 (fun _ => False)) (F0 m 7 ls []) := by
    intro n
    induction n with
    | zero => intro v2 v3 v4 h ls hl; exact zn h
    | succ n ih =>
      intro v2 v3 v4 h ls hl
      rw [fX0_firstOfRange_7] at h
      refine lv_iload hx hb dX0_firstOfRange_7 (lv_at hl 3 rfl) ?_
      refine lv_sipush (v := 256) hx hb dX0_firstOfRange_9 (by decide) ?_
      refine lv_icmp_ge (tgt := 60) hx hb dX0_firstOfRange_12 (by decide) (fun c1 => ?_) (fun c1 => ?_)
      · replace h := zt c1 h
        refine lv_iconst (v := 0) hx hb dX0_firstOfRange_60 (by decide) ?_
        cases h
        exact zr_i hx hb hr hlocks dX0_firstOfRange_61
      · replace h := zf c1 h
        refine lv_aload_n hx hb dX0_firstOfRange_15 rfl (lv_at hl 0 rfl) ?_
        refine va_get (ci := 0) (v := .ref h1) (C := RX0) (T := TX0) (N := 9) hx hb hts uX0_firstOfRange_X0 hown hK hP 0 rfl rfl 0 (by decide) (hts _ mX0_firstOfRange_9) (fun _ h9 => h9) rfl dX0_firstOfRange_16 ?_
        refine lv_iload hx hb dX0_firstOfRange_19 (lv_at hl 3 rfl) ?_
        obtain ⟨i2, h⟩ := zi h
        refine za_ild hx hb hK hP 1 rfl _ rfl i2 dX0_firstOfRange_21 ?_
        refine lv_if_lt (tgt := 29) hx hb dX0_firstOfRange_22 (by decide) (fun c3 => ?_) (fun c3 => ?_)
        · replace h := zt c3 h
          refine lv_iconst (v := 0) hx hb dX0_firstOfRange_29 (by decide) ?_
          refine lv_istore (lv' := [(5, .int 0), (0, .ref h0), (2, .int v2), (3, .int v3), (4, .int v4)]) hx hb dX0_firstOfRange_30 hl (by decide) rfl (fun ls hl => ?_)
          refine lv_iload hx hb dX0_firstOfRange_32 (lv_at hl 0 rfl) ?_
          refine lv_if_eq (tgt := 51) hx hb dX0_firstOfRange_34 (by decide) (fun _ => ?_) (fun c4 => absurd (by decide) c4)
          refine lv_iload hx hb dX0_firstOfRange_51 (lv_at hl 0 rfl) ?_
          refine lv_istore_n (lv' := [(3, .int 0), (5, .int 0), (0, .ref h0), (2, .int v2), (4, .int v4)]) hx hb dX0_firstOfRange_53 rfl hl (by decide) rfl (fun ls hl => ?_)
          refine lv_iinc (v := (v4 + 1)) (lv' := [(4, .int (v4 + 1)), (3, .int 0), (5, .int 0), (0, .ref h0), (2, .int v2)]) hx hb dX0_firstOfRange_54 hl (k := 4) rfl rfl (by decide) rfl (fun ls hl => ?_)
          refine lv_goto (tgt := 7) hx hb dX0_firstOfRange_57 (by decide) ?_
          exact ih v2 0 (v4 + 1) h ls (lv_sub hl [3, 4, 1, 0] rfl)
        · replace h := zf c3 h
          refine lv_iconst (v := 1) hx hb dX0_firstOfRange_25 (by decide) ?_
          refine lv_goto (tgt := 30) hx hb dX0_firstOfRange_26 (by decide) ?_
          refine lv_istore (lv' := [(5, .int 1), (0, .ref h0), (2, .int v2), (3, .int v3), (4, .int v4)]) hx hb dX0_firstOfRange_30 hl (by decide) rfl (fun ls hl => ?_)
          refine lv_iload hx hb dX0_firstOfRange_32 (lv_at hl 0 rfl) ?_
          refine lv_if_eq (tgt := 51) hx hb dX0_firstOfRange_34 (by decide) (fun c5 => absurd c5 (by decide)) (fun _ => ?_)
          refine lv_iload_n hx hb dX0_firstOfRange_37 rfl (lv_at hl 3 rfl) ?_
          refine lv_if_ne (tgt := 51) hx hb dX0_firstOfRange_38 (by decide) (fun c6 => ?_) (fun c6 => ?_)
          · replace h := zf c6 h
            refine lv_iload hx hb dX0_firstOfRange_51 (lv_at hl 0 rfl) ?_
            refine lv_istore_n (lv' := [(3, .int 1), (5, .int 1), (0, .ref h0), (2, .int v2), (4, .int v4)]) hx hb dX0_firstOfRange_53 rfl hl (by decide) rfl (fun ls hl => ?_)
            refine lv_iinc (v := (v4 + 1)) (lv' := [(4, .int (v4 + 1)), (3, .int 1), (5, .int 1), (0, .ref h0), (2, .int v2)]) hx hb dX0_firstOfRange_54 hl (k := 4) rfl rfl (by decide) rfl (fun ls hl => ?_)
            refine lv_goto (tgt := 7) hx hb dX0_firstOfRange_57 (by decide) ?_
            exact ih v2 1 (v4 + 1) h ls (lv_sub hl [3, 4, 1, 0] rfl)
          · replace h := zt c6 h
            refine lv_iload_n hx hb dX0_firstOfRange_41 rfl (lv_at hl 2 rfl) ?_
            refine lv_if_ne (tgt := 48) hx hb dX0_firstOfRange_42 (by decide) (fun c7 => ?_) (fun c7 => ?_)
            · replace h := zf c7 h
              refine lv_iinc (v := (v2 + (-1))) (lv' := [(2, .int (v2 + (-1))), (5, .int 1), (0, .ref h0), (3, .int v3), (4, .int v4)]) hx hb dX0_firstOfRange_48 hl (k := 2) rfl rfl (by decide) rfl (fun ls hl => ?_)
              refine lv_iload hx hb dX0_firstOfRange_51 (lv_at hl 1 rfl) ?_
              refine lv_istore_n (lv' := [(3, .int 1), (2, .int (v2 + (-1))), (5, .int 1), (0, .ref h0), (4, .int v4)]) hx hb dX0_firstOfRange_53 rfl hl (by decide) rfl (fun ls hl => ?_)
              refine lv_iinc (v := (v4 + 1)) (lv' := [(4, .int (v4 + 1)), (3, .int 1), (2, .int (v2 + (-1))), (5, .int 1), (0, .ref h0)]) hx hb dX0_firstOfRange_54 hl (k := 4) rfl rfl (by decide) rfl (fun ls hl => ?_)
              refine lv_goto (tgt := 7) hx hb dX0_firstOfRange_57 (by decide) ?_
              exact ih (v2 + (-1)) 1 (v4 + 1) h ls (lv_sub hl [4, 2, 1, 0] rfl)
            · replace h := zt c7 h
              refine lv_iload hx hb dX0_firstOfRange_45 (lv_at hl 4 rfl) ?_
              cases h
              exact zr_i hx hb hr hlocks dX0_firstOfRange_47
  unfold fX0_firstOfRange at h
  refine lv_iload_n hx hb dX0_firstOfRange_0 rfl (lv_at hl 1 rfl) ?_
  refine lv_istore_n (lv' := [(2, .int a1), (0, .ref h0), (1, .int a1)]) hx hb dX0_firstOfRange_1 rfl hl (by decide) rfl (fun ls hl => ?_)
  refine lv_iconst (v := 0) hx hb dX0_firstOfRange_2 (by decide) ?_
  refine lv_istore_n (lv' := [(3, .int 0), (2, .int a1), (0, .ref h0), (1, .int a1)]) hx hb dX0_firstOfRange_3 rfl hl (by decide) rfl (fun ls hl => ?_)
  refine lv_iconst (v := 0) hx hb dX0_firstOfRange_4 (by decide) ?_
  refine lv_istore (lv' := [(4, .int 0), (3, .int 0), (2, .int a1), (0, .ref h0), (1, .int a1)]) hx hb dX0_firstOfRange_5 hl (by decide) rfl (fun ls hl => ?_)
  exact loop_7 1000 a1 0 0 h ls (lv_sub hl [3, 2, 1, 0] rfl)
def fX0_endOfRange_2 (b : Nat → Int32) : Nat → Int32 → Option (Int32)
  | 0, _ => none
  | n + 1, v2 =>
    if 256 ≤ v2 then
        some v2
      else
        if v2 < 0 ∨ 256 ≤ v2.toNatClampNeg then none else
        if (b v2.toNatClampNeg) < 0 then
          some v2
        else
          fX0_endOfRange_2 b n (v2 + 1)
def fX0_endOfRange (b : Nat → Int32) (a1 : Int32) : Option (Int32) :=
  fX0_endOfRange_2 b 1000 a1
theorem mX0_endOfRange_9 : Cond.fieldLink RX0 9 "IdleDiscards$Device" "blocks" "[I" ∈ wsX0_endOfRange := by decide +kernel
theorem uX0_endOfRange_X0 : ∀ w ∈ wsX00, w ∈ wsX0_endOfRange := by decide +kernel
set_option maxRecDepth 100000 in
set_option maxHeartbeats 4000000 in
theorem kX0_endOfRange (l : Launch) (g : zG) (h0 h1 h2 h3 h4 : Nat) (b : Nat → Int32) (pF : Nat → Int32) (pL : Nat → Int32) (st : Nat → Int32) (tm : Int32) (qt : Int32) (cm : Int32) (ds : Int32) (dr : Int32) (a1 : Int32) {r : Int32} (h : fX0_endOfRange b a1 = some r) : Mr l g yX0_endOfRange wsX0_endOfRange { frames := 0, cells := 0, slots := 0, locals := 0 } [.ref h0, .int a1] (zD g h0 h1 h2 h3 h4 b pF pL st tm qt cm ds dr) (zQi r) := by
  refine zr_in (cc := cX0_endOfRange) (maxL := 3) (ret := (some .int)) (by decide) rfl (Nat.le_of_ble_eq_true rfl) ?_
  intro p e s m below meth c hx hb hr hml hts hown hlocks hP hK ls hl
  replace hl : lv_has ls 3 [(0, .ref h0), (1, .int a1)] := hl
  have loop_2 : ∀ (n : Nat) (v2 : Int32), fX0_endOfRange_2 b n v2 = some r → ∀ (ls : Array Slot), lv_has ls 3 [(0, .ref h0), (2, .int v2)] → W p l e ({ frames := 0, cells := 0, slots := 0, locals := 0 } : Room) s m [.ref h0, .int a1].toArray below meth c s.heap [] 0 0 (MQ below (zQi r) [.ref h0, .int a1].toArray s 0 0 (fun _ => False)) (F0 m 2 ls []) := by
    intro n
    induction n with
    | zero => intro v2 h ls hl; exact zn h
    | succ n ih =>
      intro v2 h ls hl
      rw [fX0_endOfRange_2] at h
      refine lv_iload_n hx hb dX0_endOfRange_2 rfl (lv_at hl 1 rfl) ?_
      refine lv_sipush (v := 256) hx hb dX0_endOfRange_3 (by decide) ?_
      refine lv_icmp_ge (tgt := 24) hx hb dX0_endOfRange_6 (by decide) (fun c1 => ?_) (fun c1 => ?_)
      · replace h := zt c1 h
        refine lv_iload_n hx hb dX0_endOfRange_24 rfl (lv_at hl 1 rfl) ?_
        cases h
        exact zr_i hx hb hr hlocks dX0_endOfRange_25
      · replace h := zf c1 h
        refine lv_aload_n hx hb dX0_endOfRange_9 rfl (lv_at hl 0 rfl) ?_
        refine va_get (ci := 0) (v := .ref h1) (C := RX0) (T := TX0) (N := 9) hx hb hts uX0_endOfRange_X0 hown hK hP 0 rfl rfl 0 (by decide) (hts _ mX0_endOfRange_9) (fun _ h9 => h9) rfl dX0_endOfRange_10 ?_
        refine lv_iload_n hx hb dX0_endOfRange_13 rfl (lv_at hl 1 rfl) ?_
        obtain ⟨i2, h⟩ := zi h
        refine za_ild hx hb hK hP 1 rfl _ rfl i2 dX0_endOfRange_14 ?_
        refine lv_if_lt (tgt := 24) hx hb dX0_endOfRange_15 (by decide) (fun c3 => ?_) (fun c3 => ?_)
        · replace h := zt c3 h
          refine lv_iload_n hx hb dX0_endOfRange_24 rfl (lv_at hl 1 rfl) ?_
          cases h
          exact zr_i hx hb hr hlocks dX0_endOfRange_25
        · replace h := zf c3 h
          refine lv_iinc (v := (v2 + 1)) (lv' := [(2, .int (v2 + 1)), (0, .ref h0)]) hx hb dX0_endOfRange_18 hl (k := 1) rfl rfl (by decide) rfl (fun ls hl => ?_)
          refine lv_goto (tgt := 2) hx hb dX0_endOfRange_21 (by decide) ?_
          exact ih (v2 + 1) h ls (lv_sub hl [1, 0] rfl)
  unfold fX0_endOfRange at h
  refine lv_iload_n hx hb dX0_endOfRange_0 rfl (lv_at hl 1 rfl) ?_
  refine lv_istore_n (lv' := [(2, .int a1), (0, .ref h0), (1, .int a1)]) hx hb dX0_endOfRange_1 rfl hl (by decide) rfl (fun ls hl => ?_)
  exact loop_2 1000 a1 h ls (lv_sub hl [1, 0] rfl)
def fX0_timeOf (b : Nat → Int32) (a1 : Int32) : Option (Int32) :=
  if a1 < 0 ∨ 256 ≤ a1.toNatClampNeg then none else
  some (b a1.toNatClampNeg)
theorem mX0_timeOf_9 : Cond.fieldLink RX0 9 "IdleDiscards$Device" "blocks" "[I" ∈ wsX0_timeOf := by decide +kernel
theorem uX0_timeOf_X0 : ∀ w ∈ wsX00, w ∈ wsX0_timeOf := by decide +kernel
set_option maxRecDepth 100000 in
set_option maxHeartbeats 4000000 in
theorem kX0_timeOf (l : Launch) (g : zG) (h0 h1 h2 h3 h4 : Nat) (b : Nat → Int32) (pF : Nat → Int32) (pL : Nat → Int32) (st : Nat → Int32) (tm : Int32) (qt : Int32) (cm : Int32) (ds : Int32) (dr : Int32) (a1 : Int32) {r : Int32} (h : fX0_timeOf b a1 = some r) : Mr l g yX0_timeOf wsX0_timeOf { frames := 0, cells := 0, slots := 0, locals := 0 } [.ref h0, .int a1] (zD g h0 h1 h2 h3 h4 b pF pL st tm qt cm ds dr) (zQi r) := by
  refine zr_in (cc := cX0_timeOf) (maxL := 2) (ret := (some .int)) (by decide) rfl (Nat.le_of_ble_eq_true rfl) ?_
  intro p e s m below meth c hx hb hr hml hts hown hlocks hP hK ls hl
  replace hl : lv_has ls 2 [(0, .ref h0), (1, .int a1)] := hl
  unfold fX0_timeOf at h
  refine lv_aload_n hx hb dX0_timeOf_0 rfl (lv_at hl 0 rfl) ?_
  refine va_get (ci := 0) (v := .ref h1) (C := RX0) (T := TX0) (N := 9) hx hb hts uX0_timeOf_X0 hown hK hP 0 rfl rfl 0 (by decide) (hts _ mX0_timeOf_9) (fun _ h9 => h9) rfl dX0_timeOf_1 ?_
  refine lv_iload_n hx hb dX0_timeOf_4 rfl (lv_at hl 1 rfl) ?_
  obtain ⟨i1, h⟩ := zi h
  refine za_ild hx hb hK hP 1 rfl _ rfl i1 dX0_timeOf_5 ?_
  cases h
  exact zr_i hx hb hr hlocks dX0_timeOf_6
def fX0_isDue (b : Nat → Int32) (st : Nat → Int32) (tm : Int32) (a1 : Int32) : Option (Int32) :=
  if a1 < 0 ∨ 256 ≤ a1.toNatClampNeg then none else
  if (tm - (b a1.toNatClampNeg)) < (st 3) then
    some 0
  else
    some 1
theorem mX0_isDue_42 : Cond.fieldLink RX0 42 "IdleDiscards$Device" "time" "I" ∈ wsX0_isDue := by decide +kernel
theorem uX0_isDue_X0 : ∀ w ∈ wsX00, w ∈ wsX0_isDue := by decide +kernel
theorem mX0_isDue_9 : Cond.fieldLink RX0 9 "IdleDiscards$Device" "blocks" "[I" ∈ wsX0_isDue := by decide +kernel
theorem mX0_isDue_21 : Cond.fieldLink RX0 21 "IdleDiscards$Device" "settings" "[I" ∈ wsX0_isDue := by decide +kernel
set_option maxRecDepth 100000 in
set_option maxHeartbeats 4000000 in
theorem kX0_isDue (l : Launch) (g : zG) (h0 h1 h2 h3 h4 : Nat) (b : Nat → Int32) (pF : Nat → Int32) (pL : Nat → Int32) (st : Nat → Int32) (tm : Int32) (qt : Int32) (cm : Int32) (ds : Int32) (dr : Int32) (a1 : Int32) {r : Int32} (h : fX0_isDue b st tm a1 = some r) : Mr l g yX0_isDue wsX0_isDue { frames := 0, cells := 0, slots := 0, locals := 0 } [.ref h0, .int a1] (zD g h0 h1 h2 h3 h4 b pF pL st tm qt cm ds dr) (zQi r) := by
  refine zr_in (cc := cX0_isDue) (maxL := 2) (ret := (some .boolean)) (by decide) rfl (Nat.le_of_ble_eq_true rfl) ?_
  intro p e s m below meth c hx hb hr hml hts hown hlocks hP hK ls hl
  replace hl : lv_has ls 2 [(0, .ref h0), (1, .int a1)] := hl
  unfold fX0_isDue at h
  refine lv_aload_n hx hb dX0_isDue_0 rfl (lv_at hl 0 rfl) ?_
  refine va_get (ci := 0) (v := .int tm) (C := RX0) (T := TX0) (N := 9) hx hb hts uX0_isDue_X0 hown hK hP 0 rfl rfl 4 (by decide) (hts _ mX0_isDue_42) (fun _ h9 => h9) rfl dX0_isDue_1 ?_
  refine lv_aload_n hx hb dX0_isDue_4 rfl (lv_at hl 0 rfl) ?_
  refine va_get (ci := 0) (v := .ref h1) (C := RX0) (T := TX0) (N := 9) hx hb hts uX0_isDue_X0 hown hK hP 0 rfl rfl 0 (by decide) (hts _ mX0_isDue_9) (fun _ h9 => h9) rfl dX0_isDue_5 ?_
  refine lv_iload_n hx hb dX0_isDue_8 rfl (lv_at hl 1 rfl) ?_
  obtain ⟨i1, h⟩ := zi h
  refine za_ild hx hb hK hP 1 rfl _ rfl i1 dX0_isDue_9 ?_
  refine lv_isub hx hb dX0_isDue_10 ?_
  refine lv_aload_n hx hb dX0_isDue_11 rfl (lv_at hl 0 rfl) ?_
  refine va_get (ci := 0) (v := .ref h4) (C := RX0) (T := TX0) (N := 9) hx hb hts uX0_isDue_X0 hown hK hP 0 rfl rfl 3 (by decide) (hts _ mX0_isDue_21) (fun _ h9 => h9) rfl dX0_isDue_12 ?_
  refine lv_iconst (v := 3) hx hb dX0_isDue_15 (by decide) ?_
  refine za_ild hx hb hK hP 4 rfl 3 (by decide) (by decide) dX0_isDue_16 ?_
  refine lv_icmp_lt (tgt := 24) hx hb dX0_isDue_17 (by decide) (fun c2 => ?_) (fun c2 => ?_)
  · replace h := zt c2 h
    refine lv_iconst (v := 0) hx hb dX0_isDue_24 (by decide) ?_
    cases h
    exact zr_z hx hb hr hlocks (by decide) dX0_isDue_25
  · replace h := zf c2 h
    refine lv_iconst (v := 1) hx hb dX0_isDue_20 (by decide) ?_
    refine lv_goto (tgt := 25) hx hb dX0_isDue_21 (by decide) ?_
    cases h
    exact zr_z hx hb hr hlocks (by decide) dX0_isDue_25
def fX0_granuleSize (st : Nat → Int32) : Option (Int32) :=
  some (1 <<< ((st 0) &&& 31))
theorem mX0_granuleSize_21 : Cond.fieldLink RX0 21 "IdleDiscards$Device" "settings" "[I" ∈ wsX0_granuleSize := by decide +kernel
theorem uX0_granuleSize_X0 : ∀ w ∈ wsX00, w ∈ wsX0_granuleSize := by decide +kernel
set_option maxRecDepth 100000 in
set_option maxHeartbeats 4000000 in
theorem kX0_granuleSize (l : Launch) (g : zG) (h0 h1 h2 h3 h4 : Nat) (b : Nat → Int32) (pF : Nat → Int32) (pL : Nat → Int32) (st : Nat → Int32) (tm : Int32) (qt : Int32) (cm : Int32) (ds : Int32) (dr : Int32) {r : Int32} (h : fX0_granuleSize st = some r) : Mr l g yX0_granuleSize wsX0_granuleSize { frames := 0, cells := 0, slots := 0, locals := 0 } [.ref h0] (zD g h0 h1 h2 h3 h4 b pF pL st tm qt cm ds dr) (zQi r) := by
  refine zr_in (cc := cX0_granuleSize) (maxL := 1) (ret := (some .int)) (by decide) rfl (Nat.le_of_ble_eq_true rfl) ?_
  intro p e s m below meth c hx hb hr hml hts hown hlocks hP hK ls hl
  replace hl : lv_has ls 1 [(0, .ref h0)] := hl
  unfold fX0_granuleSize at h
  refine lv_iconst (v := 1) hx hb dX0_granuleSize_0 (by decide) ?_
  refine lv_aload_n hx hb dX0_granuleSize_1 rfl (lv_at hl 0 rfl) ?_
  refine va_get (ci := 0) (v := .ref h4) (C := RX0) (T := TX0) (N := 9) hx hb hts uX0_granuleSize_X0 hown hK hP 0 rfl rfl 3 (by decide) (hts _ mX0_granuleSize_21) (fun _ h9 => h9) rfl dX0_granuleSize_2 ?_
  refine lv_iconst (v := 0) hx hb dX0_granuleSize_5 (by decide) ?_
  refine za_ild hx hb hK hP 4 rfl 0 (by decide) (by decide) dX0_granuleSize_6 ?_
  refine lv_ishl hx hb dX0_granuleSize_7 ?_
  cases h
  exact zr_i hx hb hr hlocks dX0_granuleSize_8
theorem hdV_X0_granuleSize : yX0_granuleSize.cls = RX0 ∧ yX0_granuleSize.cls ≠ "java/lang/invoke/MethodHandle" ∧ yX0_granuleSize.cls ≠ "java/lang/invoke/VarHandle" ∧ (parseMethodDescriptor yX0_granuleSize.desc).map (fun d => d.parameters.length) = some 0 := by decide +kernel
def fX0_isFree_32 (b : Nat → Int32) (pF : Nat → Int32) (pL : Nat → Int32) : Nat → Int32 → Int32 → Int32 → Option (Int32)
  | 0, _, _, _ => none
  | n + 1, v2, v3, v4 =>
    if v3 ≤ v4 then
        ob (fX0_isAnyPinned pF pL v2 v3) fun r2 =>
        if r2 = 0 then
          some 1
        else
          some 0
      else
        if v4 < 0 ∨ 256 ≤ v4.toNatClampNeg then none else
        if 0 ≤ (b v4.toNatClampNeg) then
          fX0_isFree_32 b pF pL n v2 v3 (v4 + 1)
        else
          some 0
def fX0_isFree (b : Nat → Int32) (pF : Nat → Int32) (pL : Nat → Int32) (st : Nat → Int32) (a1 : Int32) : Option (Int32) :=
  ob (fX0_granuleSize st) fun r6 =>
  if (a1 <<< ((st 0) &&& 31)) < 0 then
    some 0
  else
    if ((a1 <<< ((st 0) &&& 31)) + r6) ≤ 256 then
      fX0_isFree_32 b pF pL 1000 (a1 <<< ((st 0) &&& 31)) ((a1 <<< ((st 0) &&& 31)) + r6) (a1 <<< ((st 0) &&& 31))
    else
      some 0
theorem mX0_isFree_9 : Cond.fieldLink RX0 9 "IdleDiscards$Device" "blocks" "[I" ∈ wsX0_isFree := by decide +kernel
theorem uX0_isFree_X0 : ∀ w ∈ wsX00, w ∈ wsX0_isFree := by decide +kernel
theorem mX0_isFree_21 : Cond.fieldLink RX0 21 "IdleDiscards$Device" "settings" "[I" ∈ wsX0_isFree := by decide +kernel
set_option maxRecDepth 100000 in
set_option maxHeartbeats 4000000 in
theorem kX0_isFree (l : Launch) (g : zG) (h0 h1 h2 h3 h4 : Nat) (b : Nat → Int32) (pF : Nat → Int32) (pL : Nat → Int32) (st : Nat → Int32) (tm : Int32) (qt : Int32) (cm : Int32) (ds : Int32) (dr : Int32) (a1 : Int32) {r : Int32} (h : fX0_isFree b pF pL st a1 = some r) : Mr l g yX0_isFree wsX0_isFree { frames := 1, cells := 0, slots := 0, locals := 23 } [.ref h0, .int a1] (zD g h0 h1 h2 h3 h4 b pF pL st tm qt cm ds dr) (zQi r) := by
  refine zr_in (cc := cX0_isFree) (maxL := 5) (ret := (some .boolean)) (by decide) rfl (Nat.le_of_ble_eq_true rfl) ?_
  intro p e s m below meth c hx hb hr hml hts hown hlocks hP hK ls hl
  replace hl : lv_has ls 5 [(0, .ref h0), (1, .int a1)] := hl
  have loop_32 : ∀ (n : Nat) (v2 : Int32) (v3 : Int32) (v4 : Int32), fX0_isFree_32 b pF pL n v2 v3 v4 = some r → ∀ (ls : Array Slot), lv_has ls 5 [(0, .ref h0), (2, .int v2), (3, .int v3), (4, .int v4)] → W p l e ({ frames := 1, cells := 0, slots := 0, locals := 23 } : Room) s m [.ref h0, .int a1].toArray below meth c s.heap [] 0 0 (MQ below (zQi r) [.ref h0, .int a1].toArray s 0 0 (fun _ => False)) (F0 m 32 ls []) := by
    intro n
    induction n with
    | zero => intro v2 v3 v4 h ls hl; exact zn h
    | succ n ih =>
      intro v2 v3 v4 h ls hl
      rw [fX0_isFree_32] at h
      refine lv_iload hx hb dX0_isFree_32 (lv_at hl 3 rfl) ?_
      refine lv_iload_n hx hb dX0_isFree_34 rfl (lv_at hl 2 rfl) ?_
      refine lv_icmp_ge (tgt := 56) hx hb dX0_isFree_35 (by decide) (fun c1 => ?_) (fun c1 => ?_)
      · replace h := zt c1 h
        refine lv_aload_n hx hb dX0_isFree_56 rfl (lv_at hl 0 rfl) ?_
        refine lv_iload_n hx hb dX0_isFree_57 rfl (lv_at hl 1 rfl) ?_
        refine lv_iload_n hx hb dX0_isFree_58 rfl (lv_at hl 2 rfl) ?_
        obtain ⟨r2, e2, h⟩ := zb h
        refine zV (As := [.int v2, .int v3]) (rest := []) (zQi_q _) ⟨hx, hb, hml, hown, hts⟩ (kX0_isAnyPinned l g h0 h1 h2 h3 h4 b pF pL st tm qt cm ds dr v2 v3 e2) (cwV 2 hts gX0_isFree_X0_isAnyPinned rfl rfl rfl hdV_X0_isAnyPinned ⟨Nat.le_of_ble_eq_true rfl, Nat.le_of_ble_eq_true rfl⟩) hK hP [0, 1, 2, 3, 4] rfl 0 rfl rfl rfl hl.1 rfl (Nat.le_of_ble_eq_true rfl) ⟨Nat.zero_le _, Nat.zero_le _⟩ dX0_isFree_59 ?_
        refine lv_if_ne (tgt := 69) hx hb dX0_isFree_62 (by decide) (fun c3 => ?_) (fun c3 => ?_)
        · replace h := zf c3 h
          refine lv_iconst (v := 0) hx hb dX0_isFree_69 (by decide) ?_
          cases h
          exact zr_z hx hb hr hlocks (by decide) dX0_isFree_70
        · replace h := zt c3 h
          refine lv_iconst (v := 1) hx hb dX0_isFree_65 (by decide) ?_
          refine lv_goto (tgt := 70) hx hb dX0_isFree_66 (by decide) ?_
          cases h
          exact zr_z hx hb hr hlocks (by decide) dX0_isFree_70
      · replace h := zf c1 h
        refine lv_aload_n hx hb dX0_isFree_38 rfl (lv_at hl 0 rfl) ?_
        refine va_get (ci := 0) (v := .ref h1) (C := RX0) (T := TX0) (N := 9) hx hb hts uX0_isFree_X0 hown hK hP 0 rfl rfl 0 (by decide) (hts _ mX0_isFree_9) (fun _ h9 => h9) rfl dX0_isFree_39 ?_
        refine lv_iload hx hb dX0_isFree_42 (lv_at hl 3 rfl) ?_
        obtain ⟨i4, h⟩ := zi h
        refine za_ild hx hb hK hP 1 rfl _ rfl i4 dX0_isFree_44 ?_
        refine lv_if_ge (tgt := 50) hx hb dX0_isFree_45 (by decide) (fun c5 => ?_) (fun c5 => ?_)
        · replace h := zt c5 h
          refine lv_iinc (v := (v4 + 1)) (lv' := [(4, .int (v4 + 1)), (0, .ref h0), (2, .int v2), (3, .int v3)]) hx hb dX0_isFree_50 hl (k := 3) rfl rfl (by decide) rfl (fun ls hl => ?_)
          refine lv_goto (tgt := 32) hx hb dX0_isFree_53 (by decide) ?_
          exact ih v2 v3 (v4 + 1) h ls (lv_sub hl [1, 2, 3, 0] rfl)
        · replace h := zf c5 h
          refine lv_iconst (v := 0) hx hb dX0_isFree_48 (by decide) ?_
          cases h
          exact zr_z hx hb hr hlocks (by decide) dX0_isFree_49
  unfold fX0_isFree at h
  refine lv_iload_n hx hb dX0_isFree_0 rfl (lv_at hl 1 rfl) ?_
  refine lv_aload_n hx hb dX0_isFree_1 rfl (lv_at hl 0 rfl) ?_
  refine va_get (ci := 0) (v := .ref h4) (C := RX0) (T := TX0) (N := 9) hx hb hts uX0_isFree_X0 hown hK hP 0 rfl rfl 3 (by decide) (hts _ mX0_isFree_21) (fun _ h9 => h9) rfl dX0_isFree_2 ?_
  refine lv_iconst (v := 0) hx hb dX0_isFree_5 (by decide) ?_
  refine za_ild hx hb hK hP 4 rfl 0 (by decide) (by decide) dX0_isFree_6 ?_
  refine lv_ishl hx hb dX0_isFree_7 ?_
  refine lv_istore_n (lv' := [(2, .int (a1 <<< ((st 0) &&& 31))), (0, .ref h0), (1, .int a1)]) hx hb dX0_isFree_8 rfl hl (by decide) rfl (fun ls hl => ?_)
  refine lv_iload_n hx hb dX0_isFree_9 rfl (lv_at hl 0 rfl) ?_
  refine lv_aload_n hx hb dX0_isFree_10 rfl (lv_at hl 1 rfl) ?_
  obtain ⟨r6, e6, h⟩ := zb h
  refine zV (As := []) (rest := [.int (a1 <<< ((st 0) &&& 31))]) (zQi_q _) ⟨hx, hb, hml, hown, hts⟩ (kX0_granuleSize l g h0 h1 h2 h3 h4 b pF pL st tm qt cm ds dr e6) (cwV 0 hts gX0_isFree_X0_granuleSize rfl rfl rfl hdV_X0_granuleSize ⟨Nat.le_of_ble_eq_true rfl, Nat.le_of_ble_eq_true rfl⟩) hK hP [0, 1, 2, 3, 4] rfl 0 rfl rfl rfl hl.1 rfl (Nat.le_of_ble_eq_true rfl) ⟨Nat.zero_le _, Nat.zero_le _⟩ dX0_isFree_11 ?_
  refine lv_iadd hx hb dX0_isFree_14 ?_
  refine lv_istore_n (lv' := [(3, .int ((a1 <<< ((st 0) &&& 31)) + r6)), (2, .int (a1 <<< ((st 0) &&& 31))), (0, .ref h0), (1, .int a1)]) hx hb dX0_isFree_15 rfl hl (by decide) rfl (fun ls hl => ?_)
  refine lv_iload_n hx hb dX0_isFree_16 rfl (lv_at hl 1 rfl) ?_
  refine lv_if_lt (tgt := 27) hx hb dX0_isFree_17 (by decide) (fun c7 => ?_) (fun c7 => ?_)
  · replace h := zt c7 h
    refine lv_iconst (v := 0) hx hb dX0_isFree_27 (by decide) ?_
    cases h
    exact zr_z hx hb hr hlocks (by decide) dX0_isFree_28
  · replace h := zf c7 h
    refine lv_iload_n hx hb dX0_isFree_20 rfl (lv_at hl 0 rfl) ?_
    refine lv_sipush (v := 256) hx hb dX0_isFree_21 (by decide) ?_
    refine lv_icmp_le (tgt := 29) hx hb dX0_isFree_24 (by decide) (fun c8 => ?_) (fun c8 => ?_)
    · replace h := zt c8 h
      refine lv_iload_n hx hb dX0_isFree_29 rfl (lv_at hl 1 rfl) ?_
      refine lv_istore (lv' := [(4, .int (a1 <<< ((st 0) &&& 31))), (3, .int ((a1 <<< ((st 0) &&& 31)) + r6)), (2, .int (a1 <<< ((st 0) &&& 31))), (0, .ref h0), (1, .int a1)]) hx hb dX0_isFree_30 hl (by decide) rfl (fun ls hl => ?_)
      exact loop_32 1000 (a1 <<< ((st 0) &&& 31)) ((a1 <<< ((st 0) &&& 31)) + r6) (a1 <<< ((st 0) &&& 31)) h ls (lv_sub hl [3, 2, 1, 0] rfl)
    · replace h := zf c8 h
      refine lv_iconst (v := 0) hx hb dX0_isFree_27 (by decide) ?_
      cases h
      exact zr_z hx hb hr hlocks (by decide) dX0_isFree_28
def fX0_granuleFrom (st : Nat → Int32) (a1 : Int32) : Option (Int32) :=
  ob (fX0_granuleSize st) fun r1 =>
  some (((a1 + r1) - 1) >>> ((st 0) &&& 31))
theorem mX0_granuleFrom_21 : Cond.fieldLink RX0 21 "IdleDiscards$Device" "settings" "[I" ∈ wsX0_granuleFrom := by decide +kernel
theorem uX0_granuleFrom_X0 : ∀ w ∈ wsX00, w ∈ wsX0_granuleFrom := by decide +kernel
set_option maxRecDepth 100000 in
set_option maxHeartbeats 4000000 in
theorem kX0_granuleFrom (l : Launch) (g : zG) (h0 h1 h2 h3 h4 : Nat) (b : Nat → Int32) (pF : Nat → Int32) (pL : Nat → Int32) (st : Nat → Int32) (tm : Int32) (qt : Int32) (cm : Int32) (ds : Int32) (dr : Int32) (a1 : Int32) {r : Int32} (h : fX0_granuleFrom st a1 = some r) : Mr l g yX0_granuleFrom wsX0_granuleFrom { frames := 1, cells := 0, slots := 0, locals := 20 } [.ref h0, .int a1] (zD g h0 h1 h2 h3 h4 b pF pL st tm qt cm ds dr) (zQi r) := by
  refine zr_in (cc := cX0_granuleFrom) (maxL := 2) (ret := (some .int)) (by decide) rfl (Nat.le_of_ble_eq_true rfl) ?_
  intro p e s m below meth c hx hb hr hml hts hown hlocks hP hK ls hl
  replace hl : lv_has ls 2 [(0, .ref h0), (1, .int a1)] := hl
  unfold fX0_granuleFrom at h
  refine lv_iload_n hx hb dX0_granuleFrom_0 rfl (lv_at hl 1 rfl) ?_
  refine lv_aload_n hx hb dX0_granuleFrom_1 rfl (lv_at hl 0 rfl) ?_
  obtain ⟨r1, e1, h⟩ := zb h
  refine zV (As := []) (rest := [.int a1]) (zQi_q _) ⟨hx, hb, hml, hown, hts⟩ (kX0_granuleSize l g h0 h1 h2 h3 h4 b pF pL st tm qt cm ds dr e1) (cwV 0 hts gX0_granuleFrom_X0_granuleSize rfl rfl rfl hdV_X0_granuleSize ⟨Nat.le_of_ble_eq_true rfl, Nat.le_of_ble_eq_true rfl⟩) hK hP [0, 1, 2, 3, 4] rfl 0 rfl rfl rfl hl.1 rfl (Nat.le_of_ble_eq_true rfl) ⟨Nat.zero_le _, Nat.zero_le _⟩ dX0_granuleFrom_2 ?_
  refine lv_iadd hx hb dX0_granuleFrom_5 ?_
  refine lv_iconst (v := 1) hx hb dX0_granuleFrom_6 (by decide) ?_
  refine lv_isub hx hb dX0_granuleFrom_7 ?_
  refine lv_aload_n hx hb dX0_granuleFrom_8 rfl (lv_at hl 0 rfl) ?_
  refine va_get (ci := 0) (v := .ref h4) (C := RX0) (T := TX0) (N := 9) hx hb hts uX0_granuleFrom_X0 hown hK hP 0 rfl rfl 3 (by decide) (hts _ mX0_granuleFrom_21) (fun _ h9 => h9) rfl dX0_granuleFrom_9 ?_
  refine lv_iconst (v := 0) hx hb dX0_granuleFrom_12 (by decide) ?_
  refine za_ild hx hb hK hP 4 rfl 0 (by decide) (by decide) dX0_granuleFrom_13 ?_
  refine lv_ishr hx hb dX0_granuleFrom_14 ?_
  cases h
  exact zr_i hx hb hr hlocks dX0_granuleFrom_15
theorem hdV_X0_granuleFrom : yX0_granuleFrom.cls = RX0 ∧ yX0_granuleFrom.cls ≠ "java/lang/invoke/MethodHandle" ∧ yX0_granuleFrom.cls ≠ "java/lang/invoke/VarHandle" ∧ (parseMethodDescriptor yX0_granuleFrom.desc).map (fun d => d.parameters.length) = some 1 := by decide +kernel
theorem hdV_X0_isFree : yX0_isFree.cls = RX0 ∧ yX0_isFree.cls ≠ "java/lang/invoke/MethodHandle" ∧ yX0_isFree.cls ≠ "java/lang/invoke/VarHandle" ∧ (parseMethodDescriptor yX0_isFree.desc).map (fun d => d.parameters.length) = some 1 := by decide +kernel
def fX0_countPieces_22 (b : Nat → Int32) (pF : Nat → Int32) (pL : Nat → Int32) (st : Nat → Int32) : Nat → Int32 → Int32 → Int32 → Int32 → Option (Int32)
  | 0, _, _, _, _ => none
  | n + 1, v3, v4, v5, v6 =>
    if v5 ≤ v6 then
        some v3
      else
        ob (fX0_isFree b pF pL st v6) fun r2 =>
        if r2 = 0 then
          fX0_countPieces_22 b pF pL st n v3 r2 v5 (v6 + 1)
        else
          if v4 = 0 then
            fX0_countPieces_22 b pF pL st n (v3 + 1) r2 v5 (v6 + 1)
          else
            fX0_countPieces_22 b pF pL st n v3 r2 v5 (v6 + 1)
def fX0_countPieces (b : Nat → Int32) (pF : Nat → Int32) (pL : Nat → Int32) (st : Nat → Int32) (a1 : Int32) (a2 : Int32) : Option (Int32) :=
  ob (fX0_granuleFrom st a1) fun r5 =>
  fX0_countPieces_22 b pF pL st 1000 0 0 (a2 >>> ((st 0) &&& 31)) r5
theorem mX0_countPieces_21 : Cond.fieldLink RX0 21 "IdleDiscards$Device" "settings" "[I" ∈ wsX0_countPieces := by decide +kernel
theorem uX0_countPieces_X0 : ∀ w ∈ wsX00, w ∈ wsX0_countPieces := by decide +kernel
set_option maxRecDepth 100000 in
set_option maxHeartbeats 4000000 in
theorem kX0_countPieces (l : Launch) (g : zG) (h0 h1 h2 h3 h4 : Nat) (b : Nat → Int32) (pF : Nat → Int32) (pL : Nat → Int32) (st : Nat → Int32) (tm : Int32) (qt : Int32) (cm : Int32) (ds : Int32) (dr : Int32) (a1 : Int32) (a2 : Int32) {r : Int32} (h : fX0_countPieces b pF pL st a1 a2 = some r) : Mr l g yX0_countPieces wsX0_countPieces { frames := 2, cells := 0, slots := 0, locals := 47 } [.ref h0, .int a1, .int a2] (zD g h0 h1 h2 h3 h4 b pF pL st tm qt cm ds dr) (zQi r) := by
  refine zr_in (cc := cX0_countPieces) (maxL := 8) (ret := (some .int)) (by decide) rfl (Nat.le_of_ble_eq_true rfl) ?_
  intro p e s m below meth c hx hb hr hml hts hown hlocks hP hK ls hl
  replace hl : lv_has ls 8 [(0, .ref h0), (1, .int a1), (2, .int a2)] := hl
  have loop_22 : ∀ (n : Nat) (v3 : Int32) (v4 : Int32) (v5 : Int32) (v6 : Int32), fX0_countPieces_22 b pF pL st n v3 v4 v5 v6 = some r → ∀ (ls : Array Slot), lv_has ls 8 [(0, .ref h0), (3, .int v3), (4, .int v4), (5, .int v5), (6, .int v6)] → W p l e ({ frames := 2, cells := 0, slots := 0, locals := 47 } : Room) s m [.ref h0, .int a1, .int a2].toArray below meth c s.heap [] 0 0 (MQ below (zQi r) [.ref h0, .int a1, .int a2].toArray s 0 0 (fun _ => False)) (F0 m 22 ls []) := by
    intro n
    induction n with
    | zero => intro v3 v4 v5 v6 h ls hl; exact zn h
    | succ n ih =>
      intro v3 v4 v5 v6 h ls hl
      rw [fX0_countPieces_22] at h
      refine lv_iload hx hb dX0_countPieces_22 (lv_at hl 4 rfl) ?_
      refine lv_iload hx hb dX0_countPieces_24 (lv_at hl 3 rfl) ?_
      refine lv_icmp_ge (tgt := 60) hx hb dX0_countPieces_26 (by decide) (fun c1 => ?_) (fun c1 => ?_)
      · replace h := zt c1 h
        refine lv_iload_n hx hb dX0_countPieces_60 rfl (lv_at hl 1 rfl) ?_
        cases h
        exact zr_i hx hb hr hlocks dX0_countPieces_61
      · replace h := zf c1 h
        refine lv_aload_n hx hb dX0_countPieces_29 rfl (lv_at hl 0 rfl) ?_
        refine lv_iload hx hb dX0_countPieces_30 (lv_at hl 4 rfl) ?_
        obtain ⟨r2, e2, h⟩ := zb h
        refine zV (As := [.int v6]) (rest := []) (zQi_q _) ⟨hx, hb, hml, hown, hts⟩ (kX0_isFree l g h0 h1 h2 h3 h4 b pF pL st tm qt cm ds dr v6 e2) (cwV 1 hts gX0_countPieces_X0_isFree rfl rfl rfl hdV_X0_isFree ⟨Nat.le_of_ble_eq_true rfl, Nat.le_of_ble_eq_true rfl⟩) hK hP [0, 1, 2, 3, 4] rfl 0 rfl rfl rfl hl.1 rfl (Nat.le_of_ble_eq_true rfl) ⟨Nat.zero_le _, Nat.zero_le _⟩ dX0_countPieces_32 ?_
        refine lv_istore (lv' := [(7, .int r2), (0, .ref h0), (3, .int v3), (4, .int v4), (5, .int v5), (6, .int v6)]) hx hb dX0_countPieces_35 hl (by decide) rfl (fun ls hl => ?_)
        refine lv_iload hx hb dX0_countPieces_37 (lv_at hl 0 rfl) ?_
        refine lv_if_eq (tgt := 50) hx hb dX0_countPieces_39 (by decide) (fun c3 => ?_) (fun c3 => ?_)
        · replace h := zt c3 h
          refine lv_iload hx hb dX0_countPieces_50 (lv_at hl 0 rfl) ?_
          refine lv_istore (lv' := [(4, .int r2), (7, .int r2), (0, .ref h0), (3, .int v3), (5, .int v5), (6, .int v6)]) hx hb dX0_countPieces_52 hl (by decide) rfl (fun ls hl => ?_)
          refine lv_iinc (v := (v6 + 1)) (lv' := [(6, .int (v6 + 1)), (4, .int r2), (7, .int r2), (0, .ref h0), (3, .int v3), (5, .int v5)]) hx hb dX0_countPieces_54 hl (k := 5) rfl rfl (by decide) rfl (fun ls hl => ?_)
          refine lv_goto (tgt := 22) hx hb dX0_countPieces_57 (by decide) ?_
          exact ih v3 r2 v5 (v6 + 1) h ls (lv_sub hl [3, 4, 1, 5, 0] rfl)
        · replace h := zf c3 h
          refine lv_iload hx hb dX0_countPieces_42 (lv_at hl 3 rfl) ?_
          refine lv_if_ne (tgt := 50) hx hb dX0_countPieces_44 (by decide) (fun c4 => ?_) (fun c4 => ?_)
          · replace h := zf c4 h
            refine lv_iload hx hb dX0_countPieces_50 (lv_at hl 0 rfl) ?_
            refine lv_istore (lv' := [(4, .int r2), (7, .int r2), (0, .ref h0), (3, .int v3), (5, .int v5), (6, .int v6)]) hx hb dX0_countPieces_52 hl (by decide) rfl (fun ls hl => ?_)
            refine lv_iinc (v := (v6 + 1)) (lv' := [(6, .int (v6 + 1)), (4, .int r2), (7, .int r2), (0, .ref h0), (3, .int v3), (5, .int v5)]) hx hb dX0_countPieces_54 hl (k := 5) rfl rfl (by decide) rfl (fun ls hl => ?_)
            refine lv_goto (tgt := 22) hx hb dX0_countPieces_57 (by decide) ?_
            exact ih v3 r2 v5 (v6 + 1) h ls (lv_sub hl [3, 4, 1, 5, 0] rfl)
          · replace h := zt c4 h
            refine lv_iinc (v := (v3 + 1)) (lv' := [(3, .int (v3 + 1)), (7, .int r2), (0, .ref h0), (4, .int v4), (5, .int v5), (6, .int v6)]) hx hb dX0_countPieces_47 hl (k := 2) rfl rfl (by decide) rfl (fun ls hl => ?_)
            refine lv_iload hx hb dX0_countPieces_50 (lv_at hl 1 rfl) ?_
            refine lv_istore (lv' := [(4, .int r2), (3, .int (v3 + 1)), (7, .int r2), (0, .ref h0), (5, .int v5), (6, .int v6)]) hx hb dX0_countPieces_52 hl (by decide) rfl (fun ls hl => ?_)
            refine lv_iinc (v := (v6 + 1)) (lv' := [(6, .int (v6 + 1)), (4, .int r2), (3, .int (v3 + 1)), (7, .int r2), (0, .ref h0), (5, .int v5)]) hx hb dX0_countPieces_54 hl (k := 5) rfl rfl (by decide) rfl (fun ls hl => ?_)
            refine lv_goto (tgt := 22) hx hb dX0_countPieces_57 (by decide) ?_
            exact ih (v3 + 1) r2 v5 (v6 + 1) h ls (lv_sub hl [4, 2, 1, 5, 0] rfl)
  unfold fX0_countPieces at h
  refine lv_iconst (v := 0) hx hb dX0_countPieces_0 (by decide) ?_
  refine lv_istore_n (lv' := [(3, .int 0), (0, .ref h0), (1, .int a1), (2, .int a2)]) hx hb dX0_countPieces_1 rfl hl (by decide) rfl (fun ls hl => ?_)
  refine lv_iconst (v := 0) hx hb dX0_countPieces_2 (by decide) ?_
  refine lv_istore (lv' := [(4, .int 0), (3, .int 0), (0, .ref h0), (1, .int a1), (2, .int a2)]) hx hb dX0_countPieces_3 hl (by decide) rfl (fun ls hl => ?_)
  refine lv_iload_n hx hb dX0_countPieces_5 rfl (lv_at hl 4 rfl) ?_
  refine lv_aload_n hx hb dX0_countPieces_6 rfl (lv_at hl 2 rfl) ?_
  refine va_get (ci := 0) (v := .ref h4) (C := RX0) (T := TX0) (N := 9) hx hb hts uX0_countPieces_X0 hown hK hP 0 rfl rfl 3 (by decide) (hts _ mX0_countPieces_21) (fun _ h9 => h9) rfl dX0_countPieces_7 ?_
  refine lv_iconst (v := 0) hx hb dX0_countPieces_10 (by decide) ?_
  refine za_ild hx hb hK hP 4 rfl 0 (by decide) (by decide) dX0_countPieces_11 ?_
  refine lv_ishr hx hb dX0_countPieces_12 ?_
  refine lv_istore (lv' := [(5, .int (a2 >>> ((st 0) &&& 31))), (4, .int 0), (3, .int 0), (0, .ref h0), (1, .int a1), (2, .int a2)]) hx hb dX0_countPieces_13 hl (by decide) rfl (fun ls hl => ?_)
  refine lv_aload_n hx hb dX0_countPieces_15 rfl (lv_at hl 3 rfl) ?_
  refine lv_iload_n hx hb dX0_countPieces_16 rfl (lv_at hl 4 rfl) ?_
  obtain ⟨r5, e5, h⟩ := zb h
  refine zV (As := [.int a1]) (rest := []) (zQi_q _) ⟨hx, hb, hml, hown, hts⟩ (kX0_granuleFrom l g h0 h1 h2 h3 h4 b pF pL st tm qt cm ds dr a1 e5) (cwV 1 hts gX0_countPieces_X0_granuleFrom rfl rfl rfl hdV_X0_granuleFrom ⟨Nat.le_of_ble_eq_true rfl, Nat.le_of_ble_eq_true rfl⟩) hK hP [0, 1, 2, 3, 4] rfl 0 rfl rfl rfl hl.1 rfl (Nat.le_of_ble_eq_true rfl) ⟨Nat.zero_le _, Nat.zero_le _⟩ dX0_countPieces_17 ?_
  refine lv_istore (lv' := [(6, .int r5), (5, .int (a2 >>> ((st 0) &&& 31))), (4, .int 0), (3, .int 0), (0, .ref h0), (1, .int a1), (2, .int a2)]) hx hb dX0_countPieces_20 hl (by decide) rfl (fun ls hl => ?_)
  exact loop_22 1000 0 0 (a2 >>> ((st 0) &&& 31)) r5 h ls (lv_sub hl [4, 3, 2, 1, 0] rfl)
def fX0_countGranules_19 (b : Nat → Int32) (pF : Nat → Int32) (pL : Nat → Int32) (st : Nat → Int32) : Nat → Int32 → Int32 → Int32 → Option (Int32)
  | 0, _, _, _ => none
  | n + 1, v3, v4, v5 =>
    if v4 ≤ v5 then
        some v3
      else
        ob (fX0_isFree b pF pL st v5) fun r2 =>
        if r2 = 0 then
          fX0_countGranules_19 b pF pL st n v3 v4 (v5 + 1)
        else
          fX0_countGranules_19 b pF pL st n (v3 + 1) v4 (v5 + 1)
def fX0_countGranules (b : Nat → Int32) (pF : Nat → Int32) (pL : Nat → Int32) (st : Nat → Int32) (a1 : Int32) (a2 : Int32) : Option (Int32) :=
  ob (fX0_granuleFrom st a1) fun r4 =>
  fX0_countGranules_19 b pF pL st 1000 0 (a2 >>> ((st 0) &&& 31)) r4
theorem mX0_countGranules_21 : Cond.fieldLink RX0 21 "IdleDiscards$Device" "settings" "[I" ∈ wsX0_countGranules := by decide +kernel
theorem uX0_countGranules_X0 : ∀ w ∈ wsX00, w ∈ wsX0_countGranules := by decide +kernel
set_option maxRecDepth 100000 in
set_option maxHeartbeats 4000000 in
theorem kX0_countGranules (l : Launch) (g : zG) (h0 h1 h2 h3 h4 : Nat) (b : Nat → Int32) (pF : Nat → Int32) (pL : Nat → Int32) (st : Nat → Int32) (tm : Int32) (qt : Int32) (cm : Int32) (ds : Int32) (dr : Int32) (a1 : Int32) (a2 : Int32) {r : Int32} (h : fX0_countGranules b pF pL st a1 a2 = some r) : Mr l g yX0_countGranules wsX0_countGranules { frames := 2, cells := 0, slots := 0, locals := 47 } [.ref h0, .int a1, .int a2] (zD g h0 h1 h2 h3 h4 b pF pL st tm qt cm ds dr) (zQi r) := by
  refine zr_in (cc := cX0_countGranules) (maxL := 6) (ret := (some .int)) (by decide) rfl (Nat.le_of_ble_eq_true rfl) ?_
  intro p e s m below meth c hx hb hr hml hts hown hlocks hP hK ls hl
  replace hl : lv_has ls 6 [(0, .ref h0), (1, .int a1), (2, .int a2)] := hl
  have loop_19 : ∀ (n : Nat) (v3 : Int32) (v4 : Int32) (v5 : Int32), fX0_countGranules_19 b pF pL st n v3 v4 v5 = some r → ∀ (ls : Array Slot), lv_has ls 6 [(0, .ref h0), (3, .int v3), (4, .int v4), (5, .int v5)] → W p l e ({ frames := 2, cells := 0, slots := 0, locals := 47 } : Room) s m [.ref h0, .int a1, .int a2].toArray below meth c s.heap [] 0 0 (MQ below (zQi r) [.ref h0, .int a1, .int a2].toArray s 0 0 (fun _ => False)) (F0 m 19 ls []) := by
    intro n
    induction n with
    | zero => intro v3 v4 v5 h ls hl; exact zn h
    | succ n ih =>
      intro v3 v4 v5 h ls hl
      rw [fX0_countGranules_19] at h
      refine lv_iload hx hb dX0_countGranules_19 (lv_at hl 3 rfl) ?_
      refine lv_iload hx hb dX0_countGranules_21 (lv_at hl 2 rfl) ?_
      refine lv_icmp_ge (tgt := 44) hx hb dX0_countGranules_23 (by decide) (fun c1 => ?_) (fun c1 => ?_)
      · replace h := zt c1 h
        refine lv_iload_n hx hb dX0_countGranules_44 rfl (lv_at hl 1 rfl) ?_
        cases h
        exact zr_i hx hb hr hlocks dX0_countGranules_45
      · replace h := zf c1 h
        refine lv_aload_n hx hb dX0_countGranules_26 rfl (lv_at hl 0 rfl) ?_
        refine lv_iload hx hb dX0_countGranules_27 (lv_at hl 3 rfl) ?_
        obtain ⟨r2, e2, h⟩ := zb h
        refine zV (As := [.int v5]) (rest := []) (zQi_q _) ⟨hx, hb, hml, hown, hts⟩ (kX0_isFree l g h0 h1 h2 h3 h4 b pF pL st tm qt cm ds dr v5 e2) (cwV 1 hts gX0_countGranules_X0_isFree rfl rfl rfl hdV_X0_isFree ⟨Nat.le_of_ble_eq_true rfl, Nat.le_of_ble_eq_true rfl⟩) hK hP [0, 1, 2, 3, 4] rfl 0 rfl rfl rfl hl.1 rfl (Nat.le_of_ble_eq_true rfl) ⟨Nat.zero_le _, Nat.zero_le _⟩ dX0_countGranules_29 ?_
        refine lv_if_eq (tgt := 38) hx hb dX0_countGranules_32 (by decide) (fun c3 => ?_) (fun c3 => ?_)
        · replace h := zt c3 h
          refine lv_iinc (v := (v5 + 1)) (lv' := [(5, .int (v5 + 1)), (0, .ref h0), (3, .int v3), (4, .int v4)]) hx hb dX0_countGranules_38 hl (k := 3) rfl rfl (by decide) rfl (fun ls hl => ?_)
          refine lv_goto (tgt := 19) hx hb dX0_countGranules_41 (by decide) ?_
          exact ih v3 v4 (v5 + 1) h ls (lv_sub hl [1, 2, 3, 0] rfl)
        · replace h := zf c3 h
          refine lv_iinc (v := (v3 + 1)) (lv' := [(3, .int (v3 + 1)), (0, .ref h0), (4, .int v4), (5, .int v5)]) hx hb dX0_countGranules_35 hl (k := 1) rfl rfl (by decide) rfl (fun ls hl => ?_)
          refine lv_iinc (v := (v5 + 1)) (lv' := [(5, .int (v5 + 1)), (3, .int (v3 + 1)), (0, .ref h0), (4, .int v4)]) hx hb dX0_countGranules_38 hl (k := 3) rfl rfl (by decide) rfl (fun ls hl => ?_)
          refine lv_goto (tgt := 19) hx hb dX0_countGranules_41 (by decide) ?_
          exact ih (v3 + 1) v4 (v5 + 1) h ls (lv_sub hl [2, 1, 3, 0] rfl)
  unfold fX0_countGranules at h
  refine lv_iconst (v := 0) hx hb dX0_countGranules_0 (by decide) ?_
  refine lv_istore_n (lv' := [(3, .int 0), (0, .ref h0), (1, .int a1), (2, .int a2)]) hx hb dX0_countGranules_1 rfl hl (by decide) rfl (fun ls hl => ?_)
  refine lv_iload_n hx hb dX0_countGranules_2 rfl (lv_at hl 3 rfl) ?_
  refine lv_aload_n hx hb dX0_countGranules_3 rfl (lv_at hl 1 rfl) ?_
  refine va_get (ci := 0) (v := .ref h4) (C := RX0) (T := TX0) (N := 9) hx hb hts uX0_countGranules_X0 hown hK hP 0 rfl rfl 3 (by decide) (hts _ mX0_countGranules_21) (fun _ h9 => h9) rfl dX0_countGranules_4 ?_
  refine lv_iconst (v := 0) hx hb dX0_countGranules_7 (by decide) ?_
  refine za_ild hx hb hK hP 4 rfl 0 (by decide) (by decide) dX0_countGranules_8 ?_
  refine lv_ishr hx hb dX0_countGranules_9 ?_
  refine lv_istore (lv' := [(4, .int (a2 >>> ((st 0) &&& 31))), (3, .int 0), (0, .ref h0), (1, .int a1), (2, .int a2)]) hx hb dX0_countGranules_10 hl (by decide) rfl (fun ls hl => ?_)
  refine lv_aload_n hx hb dX0_countGranules_12 rfl (lv_at hl 2 rfl) ?_
  refine lv_iload_n hx hb dX0_countGranules_13 rfl (lv_at hl 3 rfl) ?_
  obtain ⟨r4, e4, h⟩ := zb h
  refine zV (As := [.int a1]) (rest := []) (zQi_q _) ⟨hx, hb, hml, hown, hts⟩ (kX0_granuleFrom l g h0 h1 h2 h3 h4 b pF pL st tm qt cm ds dr a1 e4) (cwV 1 hts gX0_countGranules_X0_granuleFrom rfl rfl rfl hdV_X0_granuleFrom ⟨Nat.le_of_ble_eq_true rfl, Nat.le_of_ble_eq_true rfl⟩) hK hP [0, 1, 2, 3, 4] rfl 0 rfl rfl rfl hl.1 rfl (Nat.le_of_ble_eq_true rfl) ⟨Nat.zero_le _, Nat.zero_le _⟩ dX0_countGranules_14 ?_
  refine lv_istore (lv' := [(5, .int r4), (4, .int (a2 >>> ((st 0) &&& 31))), (3, .int 0), (0, .ref h0), (1, .int a1), (2, .int a2)]) hx hb dX0_countGranules_17 hl (by decide) rfl (fun ls hl => ?_)
  exact loop_19 1000 0 (a2 >>> ((st 0) &&& 31)) r4 h ls (lv_sub hl [3, 2, 1, 0] rfl)
def fX0_granulesFrom_2 (b : Nat → Int32) (pF : Nat → Int32) (pL : Nat → Int32) (st : Nat → Int32) : Nat → Int32 → Int32 → Int32 → Option (Int32)
  | 0, _, _, _ => none
  | n + 1, v1, v2, v3 =>
    if v2 ≤ v3 then
        some v3
      else
        ob (fX0_isFree b pF pL st (v1 + v3)) fun r2 =>
        if r2 = 0 then
          some v3
        else
          fX0_granulesFrom_2 b pF pL st n v1 v2 (v3 + 1)
def fX0_granulesFrom (b : Nat → Int32) (pF : Nat → Int32) (pL : Nat → Int32) (st : Nat → Int32) (a1 : Int32) (a2 : Int32) : Option (Int32) :=
  fX0_granulesFrom_2 b pF pL st 1000 a1 a2 0
set_option maxRecDepth 100000 in
set_option maxHeartbeats 4000000 in
theorem kX0_granulesFrom (l : Launch) (g : zG) (h0 h1 h2 h3 h4 : Nat) (b : Nat → Int32) (pF : Nat → Int32) (pL : Nat → Int32) (st : Nat → Int32) (tm : Int32) (qt : Int32) (cm : Int32) (ds : Int32) (dr : Int32) (a1 : Int32) (a2 : Int32) {r : Int32} (h : fX0_granulesFrom b pF pL st a1 a2 = some r) : Mr l g yX0_granulesFrom wsX0_granulesFrom { frames := 2, cells := 0, slots := 0, locals := 47 } [.ref h0, .int a1, .int a2] (zD g h0 h1 h2 h3 h4 b pF pL st tm qt cm ds dr) (zQi r) := by
  refine zr_in (cc := cX0_granulesFrom) (maxL := 4) (ret := (some .int)) (by decide) rfl (Nat.le_of_ble_eq_true rfl) ?_
  intro p e s m below meth c hx hb hr hml hts hown hlocks hP hK ls hl
  replace hl : lv_has ls 4 [(0, .ref h0), (1, .int a1), (2, .int a2)] := hl
  have loop_2 : ∀ (n : Nat) (v1 : Int32) (v2 : Int32) (v3 : Int32), fX0_granulesFrom_2 b pF pL st n v1 v2 v3 = some r → ∀ (ls : Array Slot), lv_has ls 4 [(0, .ref h0), (1, .int v1), (2, .int v2), (3, .int v3)] → W p l e ({ frames := 2, cells := 0, slots := 0, locals := 47 } : Room) s m [.ref h0, .int a1, .int a2].toArray below meth c s.heap [] 0 0 (MQ below (zQi r) [.ref h0, .int a1, .int a2].toArray s 0 0 (fun _ => False)) (F0 m 2 ls []) := by
    intro n
    induction n with
    | zero => intro v1 v2 v3 h ls hl; exact zn h
    | succ n ih =>
      intro v1 v2 v3 h ls hl
      rw [fX0_granulesFrom_2] at h
      refine lv_iload_n hx hb dX0_granulesFrom_2 rfl (lv_at hl 3 rfl) ?_
      refine lv_iload_n hx hb dX0_granulesFrom_3 rfl (lv_at hl 2 rfl) ?_
      refine lv_icmp_ge (tgt := 23) hx hb dX0_granulesFrom_4 (by decide) (fun c1 => ?_) (fun c1 => ?_)
      · replace h := zt c1 h
        refine lv_iload_n hx hb dX0_granulesFrom_23 rfl (lv_at hl 3 rfl) ?_
        cases h
        exact zr_i hx hb hr hlocks dX0_granulesFrom_24
      · replace h := zf c1 h
        refine lv_aload_n hx hb dX0_granulesFrom_7 rfl (lv_at hl 0 rfl) ?_
        refine lv_iload_n hx hb dX0_granulesFrom_8 rfl (lv_at hl 1 rfl) ?_
        refine lv_iload_n hx hb dX0_granulesFrom_9 rfl (lv_at hl 3 rfl) ?_
        refine lv_iadd hx hb dX0_granulesFrom_10 ?_
        obtain ⟨r2, e2, h⟩ := zb h
        refine zV (As := [.int (v1 + v3)]) (rest := []) (zQi_q _) ⟨hx, hb, hml, hown, hts⟩ (kX0_isFree l g h0 h1 h2 h3 h4 b pF pL st tm qt cm ds dr (v1 + v3) e2) (cwV 1 hts gX0_granulesFrom_X0_isFree rfl rfl rfl hdV_X0_isFree ⟨Nat.le_of_ble_eq_true rfl, Nat.le_of_ble_eq_true rfl⟩) hK hP [0, 1, 2, 3, 4] rfl 0 rfl rfl rfl hl.1 rfl (Nat.le_of_ble_eq_true rfl) ⟨Nat.zero_le _, Nat.zero_le _⟩ dX0_granulesFrom_11 ?_
        refine lv_if_eq (tgt := 23) hx hb dX0_granulesFrom_14 (by decide) (fun c3 => ?_) (fun c3 => ?_)
        · replace h := zt c3 h
          refine lv_iload_n hx hb dX0_granulesFrom_23 rfl (lv_at hl 3 rfl) ?_
          cases h
          exact zr_i hx hb hr hlocks dX0_granulesFrom_24
        · replace h := zf c3 h
          refine lv_iinc (v := (v3 + 1)) (lv' := [(3, .int (v3 + 1)), (0, .ref h0), (1, .int v1), (2, .int v2)]) hx hb dX0_granulesFrom_17 hl (k := 3) rfl rfl (by decide) rfl (fun ls hl => ?_)
          refine lv_goto (tgt := 2) hx hb dX0_granulesFrom_20 (by decide) ?_
          exact ih v1 v2 (v3 + 1) h ls (lv_sub hl [1, 2, 3, 0] rfl)
  unfold fX0_granulesFrom at h
  refine lv_iconst (v := 0) hx hb dX0_granulesFrom_0 (by decide) ?_
  refine lv_istore_n (lv' := [(3, .int 0), (0, .ref h0), (1, .int a1), (2, .int a2)]) hx hb dX0_granulesFrom_1 rfl hl (by decide) rfl (fun ls hl => ?_)
  exact loop_2 1000 a1 a2 0 h ls (lv_sub hl [1, 2, 3, 0] rfl)
theorem hdV_X0_isDue : yX0_isDue.cls = RX0 ∧ yX0_isDue.cls ≠ "java/lang/invoke/MethodHandle" ∧ yX0_isDue.cls ≠ "java/lang/invoke/VarHandle" ∧ (parseMethodDescriptor yX0_isDue.desc).map (fun d => d.parameters.length) = some 1 := by decide +kernel
def fX0_choosePiece_26 (b : Nat → Int32) (pF : Nat → Int32) (pL : Nat → Int32) (st : Nat → Int32) (tm : Int32) : Nat → Int32 → Int32 → Int32 → Int32 → Int32 → Int32 → Int32 → Int32 → Option (Int32)
  | 0, _, _, _, _, _, _, _, _ => none
  | n + 1, v1, v2, v3, v4, v5, v6, v7, v8 =>
    if v7 ≤ v8 then
        some v3
      else
        if (v8 <<< ((st 0) &&& 31)) < 0 ∨ 256 ≤ (v8 <<< ((st 0) &&& 31)).toNatClampNeg then none else
        if (b (v8 <<< ((st 0) &&& 31)).toNatClampNeg) < 0 then
          fX0_choosePiece_26 b pF pL st tm n v1 v2 v3 v4 v5 0 v7 (v8 + 1)
        else
          if v1 = 0 then
            ob (fX0_isFree b pF pL st v8) fun r5 =>
            if r5 = 0 then
              fX0_choosePiece_26 b pF pL st tm n v1 v2 v3 v4 v5 0 v7 (v8 + 1)
            else
              if v2 = 2 then
                some v8
              else
                if v2 = 1 then
                  if (v6 + 1) ≤ v5 then
                    fX0_choosePiece_26 b pF pL st tm n v1 v2 v3 v4 v5 (v6 + 1) v7 (v8 + 1)
                  else
                    fX0_choosePiece_26 b pF pL st tm n v1 v2 ((v8 - (v6 + 1)) + 1) v4 (v6 + 1) (v6 + 1) v7 (v8 + 1)
                else
                  if v3 = (-1) then
                    if (v8 <<< ((st 0) &&& 31)) < 0 ∨ 256 ≤ (v8 <<< ((st 0) &&& 31)).toNatClampNeg then none else
                    fX0_choosePiece_26 b pF pL st tm n v1 v2 v8 (b (v8 <<< ((st 0) &&& 31)).toNatClampNeg) v5 (v6 + 1) v7 (v8 + 1)
                  else
                    if (v8 <<< ((st 0) &&& 31)) < 0 ∨ 256 ≤ (v8 <<< ((st 0) &&& 31)).toNatClampNeg then none else
                    if v4 ≤ (b (v8 <<< ((st 0) &&& 31)).toNatClampNeg) then
                      fX0_choosePiece_26 b pF pL st tm n v1 v2 v3 v4 v5 (v6 + 1) v7 (v8 + 1)
                    else
                      if (v8 <<< ((st 0) &&& 31)) < 0 ∨ 256 ≤ (v8 <<< ((st 0) &&& 31)).toNatClampNeg then none else
                      fX0_choosePiece_26 b pF pL st tm n v1 v2 v8 (b (v8 <<< ((st 0) &&& 31)).toNatClampNeg) v5 (v6 + 1) v7 (v8 + 1)
          else
            ob (fX0_isDue b st tm (v8 <<< ((st 0) &&& 31))) fun r15 =>
            if r15 = 0 then
              fX0_choosePiece_26 b pF pL st tm n v1 v2 v3 v4 v5 0 v7 (v8 + 1)
            else
              ob (fX0_isFree b pF pL st v8) fun r17 =>
              if r17 = 0 then
                fX0_choosePiece_26 b pF pL st tm n v1 v2 v3 v4 v5 0 v7 (v8 + 1)
              else
                if v2 = 2 then
                  some v8
                else
                  if v2 = 1 then
                    if (v6 + 1) ≤ v5 then
                      fX0_choosePiece_26 b pF pL st tm n v1 v2 v3 v4 v5 (v6 + 1) v7 (v8 + 1)
                    else
                      fX0_choosePiece_26 b pF pL st tm n v1 v2 ((v8 - (v6 + 1)) + 1) v4 (v6 + 1) (v6 + 1) v7 (v8 + 1)
                  else
                    if v3 = (-1) then
                      if (v8 <<< ((st 0) &&& 31)) < 0 ∨ 256 ≤ (v8 <<< ((st 0) &&& 31)).toNatClampNeg then none else
                      fX0_choosePiece_26 b pF pL st tm n v1 v2 v8 (b (v8 <<< ((st 0) &&& 31)).toNatClampNeg) v5 (v6 + 1) v7 (v8 + 1)
                    else
                      if (v8 <<< ((st 0) &&& 31)) < 0 ∨ 256 ≤ (v8 <<< ((st 0) &&& 31)).toNatClampNeg then none else
                      if v4 ≤ (b (v8 <<< ((st 0) &&& 31)).toNatClampNeg) then
                        fX0_choosePiece_26 b pF pL st tm n v1 v2 v3 v4 v5 (v6 + 1) v7 (v8 + 1)
                      else
                        if (v8 <<< ((st 0) &&& 31)) < 0 ∨ 256 ≤ (v8 <<< ((st 0) &&& 31)).toNatClampNeg then none else
                        fX0_choosePiece_26 b pF pL st tm n v1 v2 v8 (b (v8 <<< ((st 0) &&& 31)).toNatClampNeg) v5 (v6 + 1) v7 (v8 + 1)
def fX0_choosePiece (b : Nat → Int32) (pF : Nat → Int32) (pL : Nat → Int32) (st : Nat → Int32) (tm : Int32) (a1 : Int32) (a2 : Int32) : Option (Int32) :=
  fX0_choosePiece_26 b pF pL st tm 1000 a1 a2 (-1) 0 0 0 (256 >>> ((st 0) &&& 31)) 0
theorem mX0_choosePiece_21 : Cond.fieldLink RX0 21 "IdleDiscards$Device" "settings" "[I" ∈ wsX0_choosePiece := by decide +kernel
theorem uX0_choosePiece_X0 : ∀ w ∈ wsX00, w ∈ wsX0_choosePiece := by decide +kernel
theorem mX0_choosePiece_9 : Cond.fieldLink RX0 9 "IdleDiscards$Device" "blocks" "[I" ∈ wsX0_choosePiece := by decide +kernel
set_option maxRecDepth 100000 in
set_option maxHeartbeats 4000000 in
theorem kX0_choosePiece (l : Launch) (g : zG) (h0 h1 h2 h3 h4 : Nat) (b : Nat → Int32) (pF : Nat → Int32) (pL : Nat → Int32) (st : Nat → Int32) (tm : Int32) (qt : Int32) (cm : Int32) (ds : Int32) (dr : Int32) (a1 : Int32) (a2 : Int32) {r : Int32} (h : fX0_choosePiece b pF pL st tm a1 a2 = some r) : Mr l g yX0_choosePiece wsX0_choosePiece { frames := 2, cells := 0, slots := 0, locals := 47 } [.ref h0, .int a1, .int a2] (zD g h0 h1 h2 h3 h4 b pF pL st tm qt cm ds dr) (zQi r) := by
  refine zr_in (cc := cX0_choosePiece) (maxL := 10) (ret := (some .int)) (by decide) rfl (Nat.le_of_ble_eq_true rfl) ?_
  intro p e s m below meth c hx hb hr hml hts hown hlocks hP hK ls hl
  replace hl : lv_has ls 10 [(0, .ref h0), (1, .int a1), (2, .int a2)] := hl
  have loop_26 : ∀ (n : Nat) (v1 : Int32) (v2 : Int32) (v3 : Int32) (v4 : Int32) (v5 : Int32) (v6 : Int32) (v7 : Int32) (v8 : Int32), fX0_choosePiece_26 b pF pL st tm n v1 v2 v3 v4 v5 v6 v7 v8 = some r → ∀ (ls : Array Slot), lv_has ls 10 [(0, .ref h0), (1, .int v1), (2, .int v2), (3, .int v3), (4, .int v4), (5, .int v5), (6, .int v6), (7, .int v7), (8, .int v8)] → W p l e ({ frames := 2, cells := 0, slots := 0, locals := 47 } : Room) s m [.ref h0, .int a1, .int a2].toArray below meth c s.heap [] 0 0 (MQ below (zQi r) [.ref h0, .int a1, .int a2].toArray s 0 0 (fun _ => False)) (F0 m 26 ls []) := by
    intro n
    induction n with
    | zero => intro v1 v2 v3 v4 v5 v6 v7 v8 h ls hl; exact zn h
    | succ n ih =>
      intro v1 v2 v3 v4 v5 v6 v7 v8 h ls hl
      rw [fX0_choosePiece_26] at h
      refine lv_iload hx hb dX0_choosePiece_26 (lv_at hl 8 rfl) ?_
      refine lv_iload hx hb dX0_choosePiece_28 (lv_at hl 7 rfl) ?_
      refine lv_icmp_ge (tgt := 155) hx hb dX0_choosePiece_30 (by decide) (fun c1 => ?_) (fun c1 => ?_)
      · replace h := zt c1 h
        refine lv_iload_n hx hb dX0_choosePiece_155 rfl (lv_at hl 3 rfl) ?_
        cases h
        exact zr_i hx hb hr hlocks dX0_choosePiece_156
      · replace h := zf c1 h
        refine lv_iload hx hb dX0_choosePiece_33 (lv_at hl 8 rfl) ?_
        refine lv_aload_n hx hb dX0_choosePiece_35 rfl (lv_at hl 0 rfl) ?_
        refine va_get (ci := 0) (v := .ref h4) (C := RX0) (T := TX0) (N := 9) hx hb hts uX0_choosePiece_X0 hown hK hP 0 rfl rfl 3 (by decide) (hts _ mX0_choosePiece_21) (fun _ h9 => h9) rfl dX0_choosePiece_36 ?_
        refine lv_iconst (v := 0) hx hb dX0_choosePiece_39 (by decide) ?_
        refine za_ild hx hb hK hP 4 rfl 0 (by decide) (by decide) dX0_choosePiece_40 ?_
        refine lv_ishl hx hb dX0_choosePiece_41 ?_
        refine lv_istore (lv' := [(9, .int (v8 <<< ((st 0) &&& 31))), (0, .ref h0), (1, .int v1), (2, .int v2), (3, .int v3), (4, .int v4), (5, .int v5), (6, .int v6), (7, .int v7), (8, .int v8)]) hx hb dX0_choosePiece_42 hl (by decide) rfl (fun ls hl => ?_)
        refine lv_aload_n hx hb dX0_choosePiece_44 rfl (lv_at hl 1 rfl) ?_
        refine va_get (ci := 0) (v := .ref h1) (C := RX0) (T := TX0) (N := 9) hx hb hts uX0_choosePiece_X0 hown hK hP 0 rfl rfl 0 (by decide) (hts _ mX0_choosePiece_9) (fun _ h9 => h9) rfl dX0_choosePiece_45 ?_
        refine lv_iload hx hb dX0_choosePiece_48 (lv_at hl 0 rfl) ?_
        obtain ⟨i2, h⟩ := zi h
        refine za_ild hx hb hK hP 1 rfl _ rfl i2 dX0_choosePiece_50 ?_
        refine lv_if_lt (tgt := 76) hx hb dX0_choosePiece_51 (by decide) (fun c3 => ?_) (fun c3 => ?_)
        · replace h := zt c3 h
          refine lv_iconst (v := 0) hx hb dX0_choosePiece_76 (by decide) ?_
          refine lv_istore (lv' := [(6, .int 0), (9, .int (v8 <<< ((st 0) &&& 31))), (0, .ref h0), (1, .int v1), (2, .int v2), (3, .int v3), (4, .int v4), (5, .int v5), (7, .int v7), (8, .int v8)]) hx hb dX0_choosePiece_77 hl (by decide) rfl (fun ls hl => ?_)
          refine lv_goto (tgt := 149) hx hb dX0_choosePiece_79 (by decide) ?_
          refine lv_iinc (v := (v8 + 1)) (lv' := [(8, .int (v8 + 1)), (6, .int 0), (9, .int (v8 <<< ((st 0) &&& 31))), (0, .ref h0), (1, .int v1), (2, .int v2), (3, .int v3), (4, .int v4), (5, .int v5), (7, .int v7)]) hx hb dX0_choosePiece_149 hl (k := 9) rfl rfl (by decide) rfl (fun ls hl => ?_)
          refine lv_goto (tgt := 26) hx hb dX0_choosePiece_152 (by decide) ?_
          exact ih v1 v2 v3 v4 v5 0 v7 (v8 + 1) h ls (lv_sub hl [3, 4, 5, 6, 7, 8, 1, 9, 0] rfl)
        · replace h := zf c3 h
          refine lv_iload_n hx hb dX0_choosePiece_54 rfl (lv_at hl 2 rfl) ?_
          refine lv_if_eq (tgt := 67) hx hb dX0_choosePiece_55 (by decide) (fun c4 => ?_) (fun c4 => ?_)
          · replace h := zt c4 h
            refine lv_aload_n hx hb dX0_choosePiece_67 rfl (lv_at hl 1 rfl) ?_
            refine lv_iload hx hb dX0_choosePiece_68 (lv_at hl 9 rfl) ?_
            obtain ⟨r5, e5, h⟩ := zb h
            refine zV (As := [.int v8]) (rest := []) (zQi_q _) ⟨hx, hb, hml, hown, hts⟩ (kX0_isFree l g h0 h1 h2 h3 h4 b pF pL st tm qt cm ds dr v8 e5) (cwV 1 hts gX0_choosePiece_X0_isFree rfl rfl rfl hdV_X0_isFree ⟨Nat.le_of_ble_eq_true rfl, Nat.le_of_ble_eq_true rfl⟩) hK hP [0, 1, 2, 3, 4] rfl 0 rfl rfl rfl hl.1 rfl (Nat.le_of_ble_eq_true rfl) ⟨Nat.zero_le _, Nat.zero_le _⟩ dX0_choosePiece_70 ?_
            refine lv_if_ne (tgt := 82) hx hb dX0_choosePiece_73 (by decide) (fun c6 => ?_) (fun c6 => ?_)
            · replace h := zf c6 h
              refine lv_iinc (v := (v6 + 1)) (lv' := [(6, .int (v6 + 1)), (9, .int (v8 <<< ((st 0) &&& 31))), (0, .ref h0), (1, .int v1), (2, .int v2), (3, .int v3), (4, .int v4), (5, .int v5), (7, .int v7), (8, .int v8)]) hx hb dX0_choosePiece_82 hl (k := 7) rfl rfl (by decide) rfl (fun ls hl => ?_)
              refine lv_iload_n hx hb dX0_choosePiece_85 rfl (lv_at hl 4 rfl) ?_
              refine lv_iconst (v := 2) hx hb dX0_choosePiece_86 (by decide) ?_
              refine lv_icmp_ne (tgt := 93) hx hb dX0_choosePiece_87 (by decide) (fun c7 => ?_) (fun c7 => ?_)
              · replace h := zf c7 h
                refine lv_iload_n hx hb dX0_choosePiece_93 rfl (lv_at hl 4 rfl) ?_
                refine lv_iconst (v := 1) hx hb dX0_choosePiece_94 (by decide) ?_
                refine lv_icmp_ne (tgt := 120) hx hb dX0_choosePiece_95 (by decide) (fun c8 => ?_) (fun c8 => ?_)
                · replace h := zf c8 h
                  refine lv_iload_n hx hb dX0_choosePiece_120 rfl (lv_at hl 5 rfl) ?_
                  refine lv_iconst (v := (-1)) hx hb dX0_choosePiece_121 (by decide) ?_
                  refine lv_icmp_eq (tgt := 137) hx hb dX0_choosePiece_122 (by decide) (fun c9 => ?_) (fun c9 => ?_)
                  · replace h := zt c9 h
                    refine lv_aload_n hx hb dX0_choosePiece_137 rfl (lv_at hl 2 rfl) ?_
                    refine va_get (ci := 0) (v := .ref h1) (C := RX0) (T := TX0) (N := 9) hx hb hts uX0_choosePiece_X0 hown hK hP 0 rfl rfl 0 (by decide) (hts _ mX0_choosePiece_9) (fun _ h9 => h9) rfl dX0_choosePiece_138 ?_
                    refine lv_iload hx hb dX0_choosePiece_141 (lv_at hl 1 rfl) ?_
                    obtain ⟨i10, h⟩ := zi h
                    refine za_ild hx hb hK hP 1 rfl _ rfl i10 dX0_choosePiece_143 ?_
                    refine lv_istore (lv' := [(4, .int (b (v8 <<< ((st 0) &&& 31)).toNatClampNeg)), (6, .int (v6 + 1)), (9, .int (v8 <<< ((st 0) &&& 31))), (0, .ref h0), (1, .int v1), (2, .int v2), (3, .int v3), (5, .int v5), (7, .int v7), (8, .int v8)]) hx hb dX0_choosePiece_144 hl (by decide) rfl (fun ls hl => ?_)
                    refine lv_iload hx hb dX0_choosePiece_146 (lv_at hl 9 rfl) ?_
                    refine lv_istore_n (lv' := [(3, .int v8), (4, .int (b (v8 <<< ((st 0) &&& 31)).toNatClampNeg)), (6, .int (v6 + 1)), (9, .int (v8 <<< ((st 0) &&& 31))), (0, .ref h0), (1, .int v1), (2, .int v2), (5, .int v5), (7, .int v7), (8, .int v8)]) hx hb dX0_choosePiece_148 rfl hl (by decide) rfl (fun ls hl => ?_)
                    refine lv_iinc (v := (v8 + 1)) (lv' := [(8, .int (v8 + 1)), (3, .int v8), (4, .int (b (v8 <<< ((st 0) &&& 31)).toNatClampNeg)), (6, .int (v6 + 1)), (9, .int (v8 <<< ((st 0) &&& 31))), (0, .ref h0), (1, .int v1), (2, .int v2), (5, .int v5), (7, .int v7)]) hx hb dX0_choosePiece_149 hl (k := 9) rfl rfl (by decide) rfl (fun ls hl => ?_)
                    refine lv_goto (tgt := 26) hx hb dX0_choosePiece_152 (by decide) ?_
                    exact ih v1 v2 v8 (b (v8 <<< ((st 0) &&& 31)).toNatClampNeg) v5 (v6 + 1) v7 (v8 + 1) h ls (lv_sub hl [5, 6, 7, 1, 2, 8, 3, 9, 0] rfl)
                  · replace h := zf c9 h
                    refine lv_aload_n hx hb dX0_choosePiece_125 rfl (lv_at hl 2 rfl) ?_
                    refine va_get (ci := 0) (v := .ref h1) (C := RX0) (T := TX0) (N := 9) hx hb hts uX0_choosePiece_X0 hown hK hP 0 rfl rfl 0 (by decide) (hts _ mX0_choosePiece_9) (fun _ h9 => h9) rfl dX0_choosePiece_126 ?_
                    refine lv_iload hx hb dX0_choosePiece_129 (lv_at hl 1 rfl) ?_
                    obtain ⟨i11, h⟩ := zi h
                    refine za_ild hx hb hK hP 1 rfl _ rfl i11 dX0_choosePiece_131 ?_
                    refine lv_iload hx hb dX0_choosePiece_132 (lv_at hl 6 rfl) ?_
                    refine lv_icmp_ge (tgt := 149) hx hb dX0_choosePiece_134 (by decide) (fun c12 => ?_) (fun c12 => ?_)
                    · replace h := zt c12 h
                      refine lv_iinc (v := (v8 + 1)) (lv' := [(8, .int (v8 + 1)), (6, .int (v6 + 1)), (9, .int (v8 <<< ((st 0) &&& 31))), (0, .ref h0), (1, .int v1), (2, .int v2), (3, .int v3), (4, .int v4), (5, .int v5), (7, .int v7)]) hx hb dX0_choosePiece_149 hl (k := 9) rfl rfl (by decide) rfl (fun ls hl => ?_)
                      refine lv_goto (tgt := 26) hx hb dX0_choosePiece_152 (by decide) ?_
                      exact ih v1 v2 v3 v4 v5 (v6 + 1) v7 (v8 + 1) h ls (lv_sub hl [3, 4, 5, 6, 7, 8, 1, 9, 0] rfl)
                    · replace h := zf c12 h
                      refine lv_aload_n hx hb dX0_choosePiece_137 rfl (lv_at hl 2 rfl) ?_
                      refine va_get (ci := 0) (v := .ref h1) (C := RX0) (T := TX0) (N := 9) hx hb hts uX0_choosePiece_X0 hown hK hP 0 rfl rfl 0 (by decide) (hts _ mX0_choosePiece_9) (fun _ h9 => h9) rfl dX0_choosePiece_138 ?_
                      refine lv_iload hx hb dX0_choosePiece_141 (lv_at hl 1 rfl) ?_
                      obtain ⟨i13, h⟩ := zi h
                      refine za_ild hx hb hK hP 1 rfl _ rfl i13 dX0_choosePiece_143 ?_
                      refine lv_istore (lv' := [(4, .int (b (v8 <<< ((st 0) &&& 31)).toNatClampNeg)), (6, .int (v6 + 1)), (9, .int (v8 <<< ((st 0) &&& 31))), (0, .ref h0), (1, .int v1), (2, .int v2), (3, .int v3), (5, .int v5), (7, .int v7), (8, .int v8)]) hx hb dX0_choosePiece_144 hl (by decide) rfl (fun ls hl => ?_)
                      refine lv_iload hx hb dX0_choosePiece_146 (lv_at hl 9 rfl) ?_
                      refine lv_istore_n (lv' := [(3, .int v8), (4, .int (b (v8 <<< ((st 0) &&& 31)).toNatClampNeg)), (6, .int (v6 + 1)), (9, .int (v8 <<< ((st 0) &&& 31))), (0, .ref h0), (1, .int v1), (2, .int v2), (5, .int v5), (7, .int v7), (8, .int v8)]) hx hb dX0_choosePiece_148 rfl hl (by decide) rfl (fun ls hl => ?_)
                      refine lv_iinc (v := (v8 + 1)) (lv' := [(8, .int (v8 + 1)), (3, .int v8), (4, .int (b (v8 <<< ((st 0) &&& 31)).toNatClampNeg)), (6, .int (v6 + 1)), (9, .int (v8 <<< ((st 0) &&& 31))), (0, .ref h0), (1, .int v1), (2, .int v2), (5, .int v5), (7, .int v7)]) hx hb dX0_choosePiece_149 hl (k := 9) rfl rfl (by decide) rfl (fun ls hl => ?_)
                      refine lv_goto (tgt := 26) hx hb dX0_choosePiece_152 (by decide) ?_
                      exact ih v1 v2 v8 (b (v8 <<< ((st 0) &&& 31)).toNatClampNeg) v5 (v6 + 1) v7 (v8 + 1) h ls (lv_sub hl [5, 6, 7, 1, 2, 8, 3, 9, 0] rfl)
                · replace h := zt c8 h
                  refine lv_iload hx hb dX0_choosePiece_98 (lv_at hl 0 rfl) ?_
                  refine lv_iload hx hb dX0_choosePiece_100 (lv_at hl 7 rfl) ?_
                  refine lv_icmp_le (tgt := 149) hx hb dX0_choosePiece_102 (by decide) (fun c14 => ?_) (fun c14 => ?_)
                  · replace h := zt c14 h
                    refine lv_iinc (v := (v8 + 1)) (lv' := [(8, .int (v8 + 1)), (6, .int (v6 + 1)), (9, .int (v8 <<< ((st 0) &&& 31))), (0, .ref h0), (1, .int v1), (2, .int v2), (3, .int v3), (4, .int v4), (5, .int v5), (7, .int v7)]) hx hb dX0_choosePiece_149 hl (k := 9) rfl rfl (by decide) rfl (fun ls hl => ?_)
                    refine lv_goto (tgt := 26) hx hb dX0_choosePiece_152 (by decide) ?_
                    exact ih v1 v2 v3 v4 v5 (v6 + 1) v7 (v8 + 1) h ls (lv_sub hl [3, 4, 5, 6, 7, 8, 1, 9, 0] rfl)
                  · replace h := zf c14 h
                    refine lv_iload hx hb dX0_choosePiece_105 (lv_at hl 0 rfl) ?_
                    refine lv_istore (lv' := [(5, .int (v6 + 1)), (6, .int (v6 + 1)), (9, .int (v8 <<< ((st 0) &&& 31))), (0, .ref h0), (1, .int v1), (2, .int v2), (3, .int v3), (4, .int v4), (7, .int v7), (8, .int v8)]) hx hb dX0_choosePiece_107 hl (by decide) rfl (fun ls hl => ?_)
                    refine lv_iload hx hb dX0_choosePiece_109 (lv_at hl 9 rfl) ?_
                    refine lv_iload hx hb dX0_choosePiece_111 (lv_at hl 1 rfl) ?_
                    refine lv_isub hx hb dX0_choosePiece_113 ?_
                    refine lv_iconst (v := 1) hx hb dX0_choosePiece_114 (by decide) ?_
                    refine lv_iadd hx hb dX0_choosePiece_115 ?_
                    refine lv_istore_n (lv' := [(3, .int ((v8 - (v6 + 1)) + 1)), (5, .int (v6 + 1)), (6, .int (v6 + 1)), (9, .int (v8 <<< ((st 0) &&& 31))), (0, .ref h0), (1, .int v1), (2, .int v2), (4, .int v4), (7, .int v7), (8, .int v8)]) hx hb dX0_choosePiece_116 rfl hl (by decide) rfl (fun ls hl => ?_)
                    refine lv_goto (tgt := 149) hx hb dX0_choosePiece_117 (by decide) ?_
                    refine lv_iinc (v := (v8 + 1)) (lv' := [(8, .int (v8 + 1)), (3, .int ((v8 - (v6 + 1)) + 1)), (5, .int (v6 + 1)), (6, .int (v6 + 1)), (9, .int (v8 <<< ((st 0) &&& 31))), (0, .ref h0), (1, .int v1), (2, .int v2), (4, .int v4), (7, .int v7)]) hx hb dX0_choosePiece_149 hl (k := 9) rfl rfl (by decide) rfl (fun ls hl => ?_)
                    refine lv_goto (tgt := 26) hx hb dX0_choosePiece_152 (by decide) ?_
                    exact ih v1 v2 ((v8 - (v6 + 1)) + 1) v4 (v6 + 1) (v6 + 1) v7 (v8 + 1) h ls (lv_sub hl [5, 6, 7, 1, 8, 2, 3, 9, 0] rfl)
              · replace h := zt c7 h
                refine lv_iload hx hb dX0_choosePiece_90 (lv_at hl 9 rfl) ?_
                cases h
                exact zr_i hx hb hr hlocks dX0_choosePiece_92
            · replace h := zt c6 h
              refine lv_iconst (v := 0) hx hb dX0_choosePiece_76 (by decide) ?_
              refine lv_istore (lv' := [(6, .int 0), (9, .int (v8 <<< ((st 0) &&& 31))), (0, .ref h0), (1, .int v1), (2, .int v2), (3, .int v3), (4, .int v4), (5, .int v5), (7, .int v7), (8, .int v8)]) hx hb dX0_choosePiece_77 hl (by decide) rfl (fun ls hl => ?_)
              refine lv_goto (tgt := 149) hx hb dX0_choosePiece_79 (by decide) ?_
              refine lv_iinc (v := (v8 + 1)) (lv' := [(8, .int (v8 + 1)), (6, .int 0), (9, .int (v8 <<< ((st 0) &&& 31))), (0, .ref h0), (1, .int v1), (2, .int v2), (3, .int v3), (4, .int v4), (5, .int v5), (7, .int v7)]) hx hb dX0_choosePiece_149 hl (k := 9) rfl rfl (by decide) rfl (fun ls hl => ?_)
              refine lv_goto (tgt := 26) hx hb dX0_choosePiece_152 (by decide) ?_
              exact ih v1 v2 v3 v4 v5 0 v7 (v8 + 1) h ls (lv_sub hl [3, 4, 5, 6, 7, 8, 1, 9, 0] rfl)
          · replace h := zf c4 h
            refine lv_aload_n hx hb dX0_choosePiece_58 rfl (lv_at hl 1 rfl) ?_
            refine lv_iload hx hb dX0_choosePiece_59 (lv_at hl 0 rfl) ?_
            obtain ⟨r15, e15, h⟩ := zb h
            refine zV (As := [.int (v8 <<< ((st 0) &&& 31))]) (rest := []) (zQi_q _) ⟨hx, hb, hml, hown, hts⟩ (kX0_isDue l g h0 h1 h2 h3 h4 b pF pL st tm qt cm ds dr (v8 <<< ((st 0) &&& 31)) e15) (cwV 1 hts gX0_choosePiece_X0_isDue rfl rfl rfl hdV_X0_isDue ⟨Nat.le_of_ble_eq_true rfl, Nat.le_of_ble_eq_true rfl⟩) hK hP [0, 1, 2, 3, 4] rfl 0 rfl rfl rfl hl.1 rfl (Nat.le_of_ble_eq_true rfl) ⟨Nat.zero_le _, Nat.zero_le _⟩ dX0_choosePiece_61 ?_
            refine lv_if_eq (tgt := 76) hx hb dX0_choosePiece_64 (by decide) (fun c16 => ?_) (fun c16 => ?_)
            · replace h := zt c16 h
              refine lv_iconst (v := 0) hx hb dX0_choosePiece_76 (by decide) ?_
              refine lv_istore (lv' := [(6, .int 0), (9, .int (v8 <<< ((st 0) &&& 31))), (0, .ref h0), (1, .int v1), (2, .int v2), (3, .int v3), (4, .int v4), (5, .int v5), (7, .int v7), (8, .int v8)]) hx hb dX0_choosePiece_77 hl (by decide) rfl (fun ls hl => ?_)
              refine lv_goto (tgt := 149) hx hb dX0_choosePiece_79 (by decide) ?_
              refine lv_iinc (v := (v8 + 1)) (lv' := [(8, .int (v8 + 1)), (6, .int 0), (9, .int (v8 <<< ((st 0) &&& 31))), (0, .ref h0), (1, .int v1), (2, .int v2), (3, .int v3), (4, .int v4), (5, .int v5), (7, .int v7)]) hx hb dX0_choosePiece_149 hl (k := 9) rfl rfl (by decide) rfl (fun ls hl => ?_)
              refine lv_goto (tgt := 26) hx hb dX0_choosePiece_152 (by decide) ?_
              exact ih v1 v2 v3 v4 v5 0 v7 (v8 + 1) h ls (lv_sub hl [3, 4, 5, 6, 7, 8, 1, 9, 0] rfl)
            · replace h := zf c16 h
              refine lv_aload_n hx hb dX0_choosePiece_67 rfl (lv_at hl 1 rfl) ?_
              refine lv_iload hx hb dX0_choosePiece_68 (lv_at hl 9 rfl) ?_
              obtain ⟨r17, e17, h⟩ := zb h
              refine zV (As := [.int v8]) (rest := []) (zQi_q _) ⟨hx, hb, hml, hown, hts⟩ (kX0_isFree l g h0 h1 h2 h3 h4 b pF pL st tm qt cm ds dr v8 e17) (cwV 1 hts gX0_choosePiece_X0_isFree rfl rfl rfl hdV_X0_isFree ⟨Nat.le_of_ble_eq_true rfl, Nat.le_of_ble_eq_true rfl⟩) hK hP [0, 1, 2, 3, 4] rfl 0 rfl rfl rfl hl.1 rfl (Nat.le_of_ble_eq_true rfl) ⟨Nat.zero_le _, Nat.zero_le _⟩ dX0_choosePiece_70 ?_
              refine lv_if_ne (tgt := 82) hx hb dX0_choosePiece_73 (by decide) (fun c18 => ?_) (fun c18 => ?_)
              · replace h := zf c18 h
                refine lv_iinc (v := (v6 + 1)) (lv' := [(6, .int (v6 + 1)), (9, .int (v8 <<< ((st 0) &&& 31))), (0, .ref h0), (1, .int v1), (2, .int v2), (3, .int v3), (4, .int v4), (5, .int v5), (7, .int v7), (8, .int v8)]) hx hb dX0_choosePiece_82 hl (k := 7) rfl rfl (by decide) rfl (fun ls hl => ?_)
                refine lv_iload_n hx hb dX0_choosePiece_85 rfl (lv_at hl 4 rfl) ?_
                refine lv_iconst (v := 2) hx hb dX0_choosePiece_86 (by decide) ?_
                refine lv_icmp_ne (tgt := 93) hx hb dX0_choosePiece_87 (by decide) (fun c19 => ?_) (fun c19 => ?_)
                · replace h := zf c19 h
                  refine lv_iload_n hx hb dX0_choosePiece_93 rfl (lv_at hl 4 rfl) ?_
                  refine lv_iconst (v := 1) hx hb dX0_choosePiece_94 (by decide) ?_
                  refine lv_icmp_ne (tgt := 120) hx hb dX0_choosePiece_95 (by decide) (fun c20 => ?_) (fun c20 => ?_)
                  · replace h := zf c20 h
                    refine lv_iload_n hx hb dX0_choosePiece_120 rfl (lv_at hl 5 rfl) ?_
                    refine lv_iconst (v := (-1)) hx hb dX0_choosePiece_121 (by decide) ?_
                    refine lv_icmp_eq (tgt := 137) hx hb dX0_choosePiece_122 (by decide) (fun c21 => ?_) (fun c21 => ?_)
                    · replace h := zt c21 h
                      refine lv_aload_n hx hb dX0_choosePiece_137 rfl (lv_at hl 2 rfl) ?_
                      refine va_get (ci := 0) (v := .ref h1) (C := RX0) (T := TX0) (N := 9) hx hb hts uX0_choosePiece_X0 hown hK hP 0 rfl rfl 0 (by decide) (hts _ mX0_choosePiece_9) (fun _ h9 => h9) rfl dX0_choosePiece_138 ?_
                      refine lv_iload hx hb dX0_choosePiece_141 (lv_at hl 1 rfl) ?_
                      obtain ⟨i22, h⟩ := zi h
                      refine za_ild hx hb hK hP 1 rfl _ rfl i22 dX0_choosePiece_143 ?_
                      refine lv_istore (lv' := [(4, .int (b (v8 <<< ((st 0) &&& 31)).toNatClampNeg)), (6, .int (v6 + 1)), (9, .int (v8 <<< ((st 0) &&& 31))), (0, .ref h0), (1, .int v1), (2, .int v2), (3, .int v3), (5, .int v5), (7, .int v7), (8, .int v8)]) hx hb dX0_choosePiece_144 hl (by decide) rfl (fun ls hl => ?_)
                      refine lv_iload hx hb dX0_choosePiece_146 (lv_at hl 9 rfl) ?_
                      refine lv_istore_n (lv' := [(3, .int v8), (4, .int (b (v8 <<< ((st 0) &&& 31)).toNatClampNeg)), (6, .int (v6 + 1)), (9, .int (v8 <<< ((st 0) &&& 31))), (0, .ref h0), (1, .int v1), (2, .int v2), (5, .int v5), (7, .int v7), (8, .int v8)]) hx hb dX0_choosePiece_148 rfl hl (by decide) rfl (fun ls hl => ?_)
                      refine lv_iinc (v := (v8 + 1)) (lv' := [(8, .int (v8 + 1)), (3, .int v8), (4, .int (b (v8 <<< ((st 0) &&& 31)).toNatClampNeg)), (6, .int (v6 + 1)), (9, .int (v8 <<< ((st 0) &&& 31))), (0, .ref h0), (1, .int v1), (2, .int v2), (5, .int v5), (7, .int v7)]) hx hb dX0_choosePiece_149 hl (k := 9) rfl rfl (by decide) rfl (fun ls hl => ?_)
                      refine lv_goto (tgt := 26) hx hb dX0_choosePiece_152 (by decide) ?_
                      exact ih v1 v2 v8 (b (v8 <<< ((st 0) &&& 31)).toNatClampNeg) v5 (v6 + 1) v7 (v8 + 1) h ls (lv_sub hl [5, 6, 7, 1, 2, 8, 3, 9, 0] rfl)
                    · replace h := zf c21 h
                      refine lv_aload_n hx hb dX0_choosePiece_125 rfl (lv_at hl 2 rfl) ?_
                      refine va_get (ci := 0) (v := .ref h1) (C := RX0) (T := TX0) (N := 9) hx hb hts uX0_choosePiece_X0 hown hK hP 0 rfl rfl 0 (by decide) (hts _ mX0_choosePiece_9) (fun _ h9 => h9) rfl dX0_choosePiece_126 ?_
                      refine lv_iload hx hb dX0_choosePiece_129 (lv_at hl 1 rfl) ?_
                      obtain ⟨i23, h⟩ := zi h
                      refine za_ild hx hb hK hP 1 rfl _ rfl i23 dX0_choosePiece_131 ?_
                      refine lv_iload hx hb dX0_choosePiece_132 (lv_at hl 6 rfl) ?_
                      refine lv_icmp_ge (tgt := 149) hx hb dX0_choosePiece_134 (by decide) (fun c24 => ?_) (fun c24 => ?_)
                      · replace h := zt c24 h
                        refine lv_iinc (v := (v8 + 1)) (lv' := [(8, .int (v8 + 1)), (6, .int (v6 + 1)), (9, .int (v8 <<< ((st 0) &&& 31))), (0, .ref h0), (1, .int v1), (2, .int v2), (3, .int v3), (4, .int v4), (5, .int v5), (7, .int v7)]) hx hb dX0_choosePiece_149 hl (k := 9) rfl rfl (by decide) rfl (fun ls hl => ?_)
                        refine lv_goto (tgt := 26) hx hb dX0_choosePiece_152 (by decide) ?_
                        exact ih v1 v2 v3 v4 v5 (v6 + 1) v7 (v8 + 1) h ls (lv_sub hl [3, 4, 5, 6, 7, 8, 1, 9, 0] rfl)
                      · replace h := zf c24 h
                        refine lv_aload_n hx hb dX0_choosePiece_137 rfl (lv_at hl 2 rfl) ?_
                        refine va_get (ci := 0) (v := .ref h1) (C := RX0) (T := TX0) (N := 9) hx hb hts uX0_choosePiece_X0 hown hK hP 0 rfl rfl 0 (by decide) (hts _ mX0_choosePiece_9) (fun _ h9 => h9) rfl dX0_choosePiece_138 ?_
                        refine lv_iload hx hb dX0_choosePiece_141 (lv_at hl 1 rfl) ?_
                        obtain ⟨i25, h⟩ := zi h
                        refine za_ild hx hb hK hP 1 rfl _ rfl i25 dX0_choosePiece_143 ?_
                        refine lv_istore (lv' := [(4, .int (b (v8 <<< ((st 0) &&& 31)).toNatClampNeg)), (6, .int (v6 + 1)), (9, .int (v8 <<< ((st 0) &&& 31))), (0, .ref h0), (1, .int v1), (2, .int v2), (3, .int v3), (5, .int v5), (7, .int v7), (8, .int v8)]) hx hb dX0_choosePiece_144 hl (by decide) rfl (fun ls hl => ?_)
                        refine lv_iload hx hb dX0_choosePiece_146 (lv_at hl 9 rfl) ?_
                        refine lv_istore_n (lv' := [(3, .int v8), (4, .int (b (v8 <<< ((st 0) &&& 31)).toNatClampNeg)), (6, .int (v6 + 1)), (9, .int (v8 <<< ((st 0) &&& 31))), (0, .ref h0), (1, .int v1), (2, .int v2), (5, .int v5), (7, .int v7), (8, .int v8)]) hx hb dX0_choosePiece_148 rfl hl (by decide) rfl (fun ls hl => ?_)
                        refine lv_iinc (v := (v8 + 1)) (lv' := [(8, .int (v8 + 1)), (3, .int v8), (4, .int (b (v8 <<< ((st 0) &&& 31)).toNatClampNeg)), (6, .int (v6 + 1)), (9, .int (v8 <<< ((st 0) &&& 31))), (0, .ref h0), (1, .int v1), (2, .int v2), (5, .int v5), (7, .int v7)]) hx hb dX0_choosePiece_149 hl (k := 9) rfl rfl (by decide) rfl (fun ls hl => ?_)
                        refine lv_goto (tgt := 26) hx hb dX0_choosePiece_152 (by decide) ?_
                        exact ih v1 v2 v8 (b (v8 <<< ((st 0) &&& 31)).toNatClampNeg) v5 (v6 + 1) v7 (v8 + 1) h ls (lv_sub hl [5, 6, 7, 1, 2, 8, 3, 9, 0] rfl)
                  · replace h := zt c20 h
                    refine lv_iload hx hb dX0_choosePiece_98 (lv_at hl 0 rfl) ?_
                    refine lv_iload hx hb dX0_choosePiece_100 (lv_at hl 7 rfl) ?_
                    refine lv_icmp_le (tgt := 149) hx hb dX0_choosePiece_102 (by decide) (fun c26 => ?_) (fun c26 => ?_)
                    · replace h := zt c26 h
                      refine lv_iinc (v := (v8 + 1)) (lv' := [(8, .int (v8 + 1)), (6, .int (v6 + 1)), (9, .int (v8 <<< ((st 0) &&& 31))), (0, .ref h0), (1, .int v1), (2, .int v2), (3, .int v3), (4, .int v4), (5, .int v5), (7, .int v7)]) hx hb dX0_choosePiece_149 hl (k := 9) rfl rfl (by decide) rfl (fun ls hl => ?_)
                      refine lv_goto (tgt := 26) hx hb dX0_choosePiece_152 (by decide) ?_
                      exact ih v1 v2 v3 v4 v5 (v6 + 1) v7 (v8 + 1) h ls (lv_sub hl [3, 4, 5, 6, 7, 8, 1, 9, 0] rfl)
                    · replace h := zf c26 h
                      refine lv_iload hx hb dX0_choosePiece_105 (lv_at hl 0 rfl) ?_
                      refine lv_istore (lv' := [(5, .int (v6 + 1)), (6, .int (v6 + 1)), (9, .int (v8 <<< ((st 0) &&& 31))), (0, .ref h0), (1, .int v1), (2, .int v2), (3, .int v3), (4, .int v4), (7, .int v7), (8, .int v8)]) hx hb dX0_choosePiece_107 hl (by decide) rfl (fun ls hl => ?_)
                      refine lv_iload hx hb dX0_choosePiece_109 (lv_at hl 9 rfl) ?_
                      refine lv_iload hx hb dX0_choosePiece_111 (lv_at hl 1 rfl) ?_
                      refine lv_isub hx hb dX0_choosePiece_113 ?_
                      refine lv_iconst (v := 1) hx hb dX0_choosePiece_114 (by decide) ?_
                      refine lv_iadd hx hb dX0_choosePiece_115 ?_
                      refine lv_istore_n (lv' := [(3, .int ((v8 - (v6 + 1)) + 1)), (5, .int (v6 + 1)), (6, .int (v6 + 1)), (9, .int (v8 <<< ((st 0) &&& 31))), (0, .ref h0), (1, .int v1), (2, .int v2), (4, .int v4), (7, .int v7), (8, .int v8)]) hx hb dX0_choosePiece_116 rfl hl (by decide) rfl (fun ls hl => ?_)
                      refine lv_goto (tgt := 149) hx hb dX0_choosePiece_117 (by decide) ?_
                      refine lv_iinc (v := (v8 + 1)) (lv' := [(8, .int (v8 + 1)), (3, .int ((v8 - (v6 + 1)) + 1)), (5, .int (v6 + 1)), (6, .int (v6 + 1)), (9, .int (v8 <<< ((st 0) &&& 31))), (0, .ref h0), (1, .int v1), (2, .int v2), (4, .int v4), (7, .int v7)]) hx hb dX0_choosePiece_149 hl (k := 9) rfl rfl (by decide) rfl (fun ls hl => ?_)
                      refine lv_goto (tgt := 26) hx hb dX0_choosePiece_152 (by decide) ?_
                      exact ih v1 v2 ((v8 - (v6 + 1)) + 1) v4 (v6 + 1) (v6 + 1) v7 (v8 + 1) h ls (lv_sub hl [5, 6, 7, 1, 8, 2, 3, 9, 0] rfl)
                · replace h := zt c19 h
                  refine lv_iload hx hb dX0_choosePiece_90 (lv_at hl 9 rfl) ?_
                  cases h
                  exact zr_i hx hb hr hlocks dX0_choosePiece_92
              · replace h := zt c18 h
                refine lv_iconst (v := 0) hx hb dX0_choosePiece_76 (by decide) ?_
                refine lv_istore (lv' := [(6, .int 0), (9, .int (v8 <<< ((st 0) &&& 31))), (0, .ref h0), (1, .int v1), (2, .int v2), (3, .int v3), (4, .int v4), (5, .int v5), (7, .int v7), (8, .int v8)]) hx hb dX0_choosePiece_77 hl (by decide) rfl (fun ls hl => ?_)
                refine lv_goto (tgt := 149) hx hb dX0_choosePiece_79 (by decide) ?_
                refine lv_iinc (v := (v8 + 1)) (lv' := [(8, .int (v8 + 1)), (6, .int 0), (9, .int (v8 <<< ((st 0) &&& 31))), (0, .ref h0), (1, .int v1), (2, .int v2), (3, .int v3), (4, .int v4), (5, .int v5), (7, .int v7)]) hx hb dX0_choosePiece_149 hl (k := 9) rfl rfl (by decide) rfl (fun ls hl => ?_)
                refine lv_goto (tgt := 26) hx hb dX0_choosePiece_152 (by decide) ?_
                exact ih v1 v2 v3 v4 v5 0 v7 (v8 + 1) h ls (lv_sub hl [3, 4, 5, 6, 7, 8, 1, 9, 0] rfl)
  unfold fX0_choosePiece at h
  refine lv_iconst (v := (-1)) hx hb dX0_choosePiece_0 (by decide) ?_
  refine lv_istore_n (lv' := [(3, .int (-1)), (0, .ref h0), (1, .int a1), (2, .int a2)]) hx hb dX0_choosePiece_1 rfl hl (by decide) rfl (fun ls hl => ?_)
  refine lv_iconst (v := 0) hx hb dX0_choosePiece_2 (by decide) ?_
  refine lv_istore (lv' := [(4, .int 0), (3, .int (-1)), (0, .ref h0), (1, .int a1), (2, .int a2)]) hx hb dX0_choosePiece_3 hl (by decide) rfl (fun ls hl => ?_)
  refine lv_iconst (v := 0) hx hb dX0_choosePiece_5 (by decide) ?_
  refine lv_istore (lv' := [(5, .int 0), (4, .int 0), (3, .int (-1)), (0, .ref h0), (1, .int a1), (2, .int a2)]) hx hb dX0_choosePiece_6 hl (by decide) rfl (fun ls hl => ?_)
  refine lv_iconst (v := 0) hx hb dX0_choosePiece_8 (by decide) ?_
  refine lv_istore (lv' := [(6, .int 0), (5, .int 0), (4, .int 0), (3, .int (-1)), (0, .ref h0), (1, .int a1), (2, .int a2)]) hx hb dX0_choosePiece_9 hl (by decide) rfl (fun ls hl => ?_)
  refine lv_sipush (v := 256) hx hb dX0_choosePiece_11 (by decide) ?_
  refine lv_aload_n hx hb dX0_choosePiece_14 rfl (lv_at hl 4 rfl) ?_
  refine va_get (ci := 0) (v := .ref h4) (C := RX0) (T := TX0) (N := 9) hx hb hts uX0_choosePiece_X0 hown hK hP 0 rfl rfl 3 (by decide) (hts _ mX0_choosePiece_21) (fun _ h9 => h9) rfl dX0_choosePiece_15 ?_
  refine lv_iconst (v := 0) hx hb dX0_choosePiece_18 (by decide) ?_
  refine za_ild hx hb hK hP 4 rfl 0 (by decide) (by decide) dX0_choosePiece_19 ?_
  refine lv_ishr hx hb dX0_choosePiece_20 ?_
  refine lv_istore (lv' := [(7, .int (256 >>> ((st 0) &&& 31))), (6, .int 0), (5, .int 0), (4, .int 0), (3, .int (-1)), (0, .ref h0), (1, .int a1), (2, .int a2)]) hx hb dX0_choosePiece_21 hl (by decide) rfl (fun ls hl => ?_)
  refine lv_iconst (v := 0) hx hb dX0_choosePiece_23 (by decide) ?_
  refine lv_istore (lv' := [(8, .int 0), (7, .int (256 >>> ((st 0) &&& 31))), (6, .int 0), (5, .int 0), (4, .int 0), (3, .int (-1)), (0, .ref h0), (1, .int a1), (2, .int a2)]) hx hb dX0_choosePiece_24 hl (by decide) rfl (fun ls hl => ?_)
  exact loop_26 1000 a1 a2 (-1) 0 0 0 (256 >>> ((st 0) &&& 31)) 0 h ls (lv_sub hl [6, 7, 8, 5, 4, 3, 2, 1, 0] rfl)
def fX0_budgetOfTick (st : Nat → Int32) (qt : Int32) : Option (Int32) :=
  if qt < (st 1) then
    some 0
  else
    some (st 2)
theorem mX0_budgetOfTick_46 : Cond.fieldLink RX0 46 "IdleDiscards$Device" "quiet" "I" ∈ wsX0_budgetOfTick := by decide +kernel
theorem uX0_budgetOfTick_X0 : ∀ w ∈ wsX00, w ∈ wsX0_budgetOfTick := by decide +kernel
theorem mX0_budgetOfTick_21 : Cond.fieldLink RX0 21 "IdleDiscards$Device" "settings" "[I" ∈ wsX0_budgetOfTick := by decide +kernel
set_option maxRecDepth 100000 in
set_option maxHeartbeats 4000000 in
theorem kX0_budgetOfTick (l : Launch) (g : zG) (h0 h1 h2 h3 h4 : Nat) (b : Nat → Int32) (pF : Nat → Int32) (pL : Nat → Int32) (st : Nat → Int32) (tm : Int32) (qt : Int32) (cm : Int32) (ds : Int32) (dr : Int32) {r : Int32} (h : fX0_budgetOfTick st qt = some r) : Mr l g yX0_budgetOfTick wsX0_budgetOfTick { frames := 0, cells := 0, slots := 0, locals := 0 } [.ref h0] (zD g h0 h1 h2 h3 h4 b pF pL st tm qt cm ds dr) (zQi r) := by
  refine zr_in (cc := cX0_budgetOfTick) (maxL := 1) (ret := (some .int)) (by decide) rfl (Nat.le_of_ble_eq_true rfl) ?_
  intro p e s m below meth c hx hb hr hml hts hown hlocks hP hK ls hl
  replace hl : lv_has ls 1 [(0, .ref h0)] := hl
  unfold fX0_budgetOfTick at h
  refine lv_aload_n hx hb dX0_budgetOfTick_0 rfl (lv_at hl 0 rfl) ?_
  refine va_get (ci := 0) (v := .int qt) (C := RX0) (T := TX0) (N := 9) hx hb hts uX0_budgetOfTick_X0 hown hK hP 0 rfl rfl 5 (by decide) (hts _ mX0_budgetOfTick_46) (fun _ h9 => h9) rfl dX0_budgetOfTick_1 ?_
  refine lv_aload_n hx hb dX0_budgetOfTick_4 rfl (lv_at hl 0 rfl) ?_
  refine va_get (ci := 0) (v := .ref h4) (C := RX0) (T := TX0) (N := 9) hx hb hts uX0_budgetOfTick_X0 hown hK hP 0 rfl rfl 3 (by decide) (hts _ mX0_budgetOfTick_21) (fun _ h9 => h9) rfl dX0_budgetOfTick_5 ?_
  refine lv_iconst (v := 1) hx hb dX0_budgetOfTick_8 (by decide) ?_
  refine za_ild hx hb hK hP 4 rfl 1 (by decide) (by decide) dX0_budgetOfTick_9 ?_
  refine lv_icmp_lt (tgt := 22) hx hb dX0_budgetOfTick_10 (by decide) (fun c1 => ?_) (fun c1 => ?_)
  · replace h := zt c1 h
    refine lv_iconst (v := 0) hx hb dX0_budgetOfTick_22 (by decide) ?_
    cases h
    exact zr_i hx hb hr hlocks dX0_budgetOfTick_23
  · replace h := zf c1 h
    refine lv_aload_n hx hb dX0_budgetOfTick_13 rfl (lv_at hl 0 rfl) ?_
    refine va_get (ci := 0) (v := .ref h4) (C := RX0) (T := TX0) (N := 9) hx hb hts uX0_budgetOfTick_X0 hown hK hP 0 rfl rfl 3 (by decide) (hts _ mX0_budgetOfTick_21) (fun _ h9 => h9) rfl dX0_budgetOfTick_14 ?_
    refine lv_iconst (v := 2) hx hb dX0_budgetOfTick_17 (by decide) ?_
    refine za_ild hx hb hK hP 4 rfl 2 (by decide) (by decide) dX0_budgetOfTick_18 ?_
    refine lv_goto (tgt := 23) hx hb dX0_budgetOfTick_19 (by decide) ?_
    cases h
    exact zr_i hx hb hr hlocks dX0_budgetOfTick_23
def fX0_mostGranules (st : Nat → Int32) (a1 : Int32) : Option (Int32) :=
  some (if (a1 - (st 4)) < 16 then (a1 - (st 4)) else 16)
theorem mX0_mostGranules_21 : Cond.fieldLink RX0 21 "IdleDiscards$Device" "settings" "[I" ∈ wsX0_mostGranules := by decide +kernel
theorem uX0_mostGranules_X0 : ∀ w ∈ wsX00, w ∈ wsX0_mostGranules := by decide +kernel
theorem mX0_mostGranules_111 : Cond.methodLink RX0 111 Lib.Math.min.name ∈ wsX0_mostGranules := by decide +kernel
theorem mX0_mostGranules_mst : Cond.static Lib.Math.min.name ∈ wsX0_mostGranules := by decide +kernel
theorem mX0_mostGranules_min : Cond.initialized "java/lang/Math" ∈ wsX0_mostGranules := by decide +kernel
theorem mX0_mostGranules_mco : Cond.code Lib.Math.min.name Lib.Math.min.code 2 (some .int) ∈ wsX0_mostGranules := by decide +kernel
set_option maxRecDepth 100000 in
set_option maxHeartbeats 4000000 in
theorem kX0_mostGranules (l : Launch) (g : zG) (h0 h1 h2 h3 h4 : Nat) (b : Nat → Int32) (pF : Nat → Int32) (pL : Nat → Int32) (st : Nat → Int32) (tm : Int32) (qt : Int32) (cm : Int32) (ds : Int32) (dr : Int32) (a1 : Int32) {r : Int32} (h : fX0_mostGranules st a1 = some r) : Mr l g yX0_mostGranules wsX0_mostGranules { frames := 1, cells := 0, slots := 0, locals := 21 } [.ref h0, .int a1] (zD g h0 h1 h2 h3 h4 b pF pL st tm qt cm ds dr) (zQi r) := by
  refine zr_in (cc := cX0_mostGranules) (maxL := 2) (ret := (some .int)) (by decide) rfl (Nat.le_of_ble_eq_true rfl) ?_
  intro p e s m below meth c hx hb hr hml hts hown hlocks hP hK ls hl
  replace hl : lv_has ls 2 [(0, .ref h0), (1, .int a1)] := hl
  unfold fX0_mostGranules at h
  refine lv_bipush (v := 16) hx hb dX0_mostGranules_0 (by decide) ?_
  refine lv_iload_n hx hb dX0_mostGranules_2 rfl (lv_at hl 1 rfl) ?_
  refine lv_aload_n hx hb dX0_mostGranules_3 rfl (lv_at hl 0 rfl) ?_
  refine va_get (ci := 0) (v := .ref h4) (C := RX0) (T := TX0) (N := 9) hx hb hts uX0_mostGranules_X0 hown hK hP 0 rfl rfl 3 (by decide) (hts _ mX0_mostGranules_21) (fun _ h9 => h9) rfl dX0_mostGranules_4 ?_
  refine lv_iconst (v := 4) hx hb dX0_mostGranules_7 (by decide) ?_
  refine za_ild hx hb hK hP 4 rfl 4 (by decide) (by decide) dX0_mostGranules_8 ?_
  refine lv_isub hx hb dX0_mostGranules_9 ?_
  refine va_mmin hx hb (hml.trans hl.1.symm) hown (hts _ mX0_mostGranules_111) (hts _ mX0_mostGranules_mst) (hts _ mX0_mostGranules_min) (hts _ mX0_mostGranules_mco) (Nat.le_of_ble_eq_true rfl) (Nat.le_of_ble_eq_true rfl) (Nat.zero_le _) (Nat.zero_le _) dX0_mostGranules_10 ?_
  cases h
  exact zr_i hx hb hr hlocks dX0_mostGranules_13
def fX0_discard_22  : Nat → Int32 → Int32 → Int32 → (Nat → Int32) → (Int32) → (Int32) → (Int32) → Option ((Nat → Int32) × (Int32) × (Int32) × (Int32))
  | 0, _, _, _, _, _, _, _ => none
  | n + 1, v3, v4, v5, b, cm, ds, dr =>
    if (v3 + v4) ≤ v5 then
        ob2 (fX0_dropSurplus b dr) fun b2 dr2 =>
        some (b2, (cm + 1), (ds + v4), dr2)
      else
        if v5 < 0 ∨ 256 ≤ v5.toNatClampNeg then none else
        fX0_discard_22 n v3 v4 (v5 + 1) (upd b v5.toNatClampNeg (-1)) cm ds dr
def fX0_discard (b : Nat → Int32) (st : Nat → Int32) (cm : Int32) (ds : Int32) (dr : Int32) (a1 : Int32) (a2 : Int32) : Option ((Nat → Int32) × (Int32) × (Int32) × (Int32)) :=
  fX0_discard_22 1000 (a1 <<< ((st 0) &&& 31)) (a2 <<< ((st 0) &&& 31)) (a1 <<< ((st 0) &&& 31)) b cm ds dr
theorem mX0_discard_49 : Cond.fieldLink RX0 49 "IdleDiscards$Device" "commands" "I" ∈ wsX0_discard := by decide +kernel
theorem uX0_discard_X0 : ∀ w ∈ wsX00, w ∈ wsX0_discard := by decide +kernel
theorem mX0_discard_52 : Cond.fieldLink RX0 52 "IdleDiscards$Device" "discarded" "I" ∈ wsX0_discard := by decide +kernel
theorem mX0_discard_9 : Cond.fieldLink RX0 9 "IdleDiscards$Device" "blocks" "[I" ∈ wsX0_discard := by decide +kernel
theorem mX0_discard_21 : Cond.fieldLink RX0 21 "IdleDiscards$Device" "settings" "[I" ∈ wsX0_discard := by decide +kernel
set_option maxRecDepth 100000 in
set_option maxHeartbeats 4000000 in
theorem kX0_discard (l : Launch) (g : zG) (h0 h1 h2 h3 h4 : Nat) (b : Nat → Int32) (pF : Nat → Int32) (pL : Nat → Int32) (st : Nat → Int32) (tm : Int32) (qt : Int32) (cm : Int32) (ds : Int32) (dr : Int32) (a1 : Int32) (a2 : Int32) {b' : Nat → Int32} {cm' : Int32} {ds' : Int32} {dr' : Int32} (h : fX0_discard b st cm ds dr a1 a2 = some (b', cm', ds', dr')) : Mw l g yX0_discard wsX0_discard { frames := 2, cells := 0, slots := 0, locals := 48 } [.ref h0, .int a1, .int a2] (zD g h0 h1 h2 h3 h4 b pF pL st tm qt cm ds dr) (zWv g (zD g h0 h1 h2 h3 h4 b' pF pL st tm qt cm' ds' dr')) := by
  refine zw_in (cc := cX0_discard) (maxL := 6) (ret := none) (by decide) rfl (Nat.le_of_ble_eq_true rfl) ?_
  intro p e s m below meth c hx hb hr hml hts hown hlocks hK A hA hP hD hS ls hl
  replace hl : lv_has ls 6 [(0, .ref h0), (1, .int a1), (2, .int a2)] := hl
  have loop_22 : ∀ (n : Nat) (v3 : Int32) (v4 : Int32) (v5 : Int32) (b : (Nat → Int32)) (cm : (Int32)) (ds : (Int32)) (dr : (Int32)), fX0_discard_22 n v3 v4 v5 b cm ds dr = some (b', cm', ds', dr') → ∀ (H : Heap) (locs : List Loc), zP g (zD g h0 h1 h2 h3 h4 b pF pL st tm qt cm ds dr) H → va_D A (zD g h0 h1 h2 h3 h4 b pF pL st tm qt cm ds dr) → va_S A s.heap H locs → ∀ (ls : Array Slot), lv_has ls 6 [(0, .ref h0), (3, .int v3), (4, .int v4), (5, .int v5)] → W p l e ({ frames := 2, cells := 0, slots := 0, locals := 48 } : Room) s m [.ref h0, .int a1, .int a2].toArray below meth c H locs 0 0 (MQ below (zWv g (zD g h0 h1 h2 h3 h4 b' pF pL st tm qt cm' ds' dr') A) [.ref h0, .int a1, .int a2].toArray s 0 0 A) (F0 m 22 ls []) := by
    intro n
    induction n with
    | zero => intro v3 v4 v5 b cm ds dr h H locs hP hD hS ls hl; exact zn h
    | succ n ih =>
      intro v3 v4 v5 b cm ds dr h H locs hP hD hS ls hl
      rw [fX0_discard_22] at h
      refine lv_iload hx hb dX0_discard_22 (lv_at hl 3 rfl) ?_
      refine lv_iload_n hx hb dX0_discard_24 rfl (lv_at hl 1 rfl) ?_
      refine lv_iload hx hb dX0_discard_25 (lv_at hl 2 rfl) ?_
      refine lv_iadd hx hb dX0_discard_27 ?_
      refine lv_icmp_ge (tgt := 45) hx hb dX0_discard_28 (by decide) (fun c1 => ?_) (fun c1 => ?_)
      · replace h := zt c1 h
        refine lv_aload_n hx hb dX0_discard_45 rfl (lv_at hl 0 rfl) ?_
        refine lv_dup hx hb dX0_discard_46 rfl ?_
        refine va_get (ci := 0) (v := .int cm) (C := RX0) (T := TX0) (N := 9) hx hb hts uX0_discard_X0 hown hK hP 0 rfl rfl 6 (by decide) (hts _ mX0_discard_49) (fun _ h9 => h9) rfl dX0_discard_47 ?_
        refine lv_iconst (v := 1) hx hb dX0_discard_50 (by decide) ?_
        refine lv_iadd hx hb dX0_discard_51 ?_
        refine va_put (ci := 0) (v := .int (cm + 1)) (ty := .int) (C := RX0) (T := TX0) (N := 9) hx hb hts uX0_discard_X0 tyX0 tyX0_ok nmX0 hown hK hP hD hS 0 rfl rfl 6 (by decide) (hts _ mX0_discard_49) (fun _ h9 => h9) rfl (by decide +kernel) rfl rfl (Nat.le_of_ble_eq_true rfl) dX0_discard_52 (fun H locs hP hD hS => ?_)
        replace hP : zP g (zD g h0 h1 h2 h3 h4 b pF pL st tm qt (cm + 1) ds dr) H := hP
        replace hD : va_D A (zD g h0 h1 h2 h3 h4 b pF pL st tm qt (cm + 1) ds dr) := hD
        refine lv_aload_n hx hb dX0_discard_55 rfl (lv_at hl 0 rfl) ?_
        refine lv_dup hx hb dX0_discard_56 rfl ?_
        refine va_get (ci := 0) (v := .int ds) (C := RX0) (T := TX0) (N := 9) hx hb hts uX0_discard_X0 hown hK hP 0 rfl rfl 7 (by decide) (hts _ mX0_discard_52) (fun _ h9 => h9) rfl dX0_discard_57 ?_
        refine lv_iload hx hb dX0_discard_60 (lv_at hl 2 rfl) ?_
        refine lv_iadd hx hb dX0_discard_62 ?_
        refine va_put (ci := 0) (v := .int (ds + v4)) (ty := .int) (C := RX0) (T := TX0) (N := 9) hx hb hts uX0_discard_X0 tyX0 tyX0_ok nmX0 hown hK hP hD hS 0 rfl rfl 7 (by decide) (hts _ mX0_discard_52) (fun _ h9 => h9) rfl (by decide +kernel) rfl rfl (Nat.le_of_ble_eq_true rfl) dX0_discard_63 (fun H locs hP hD hS => ?_)
        replace hP : zP g (zD g h0 h1 h2 h3 h4 b pF pL st tm qt (cm + 1) (ds + v4) dr) H := hP
        replace hD : va_D A (zD g h0 h1 h2 h3 h4 b pF pL st tm qt (cm + 1) (ds + v4) dr) := hD
        refine lv_aload_n hx hb dX0_discard_66 rfl (lv_at hl 0 rfl) ?_
        obtain ⟨b2, dr2, e2, h⟩ := zb2 h
        refine zVw (As := []) (rest := []) (zWv_q g _) ⟨hx, hb, hml, hown, hts⟩ (kX0_dropSurplus l g h0 h1 h2 h3 h4 b pF pL st tm qt (cm + 1) (ds + v4) dr e2) (cwV 0 hts gX0_discard_X0_dropSurplus rfl rfl rfl hdV_X0_dropSurplus ⟨Nat.le_of_ble_eq_true rfl, Nat.le_of_ble_eq_true rfl⟩) hK hP hD hS hA [0, 1, 2, 3, 4] (by decide) rfl rfl 0 rfl rfl rfl hl.1 rfl (Nat.le_of_ble_eq_true rfl) ⟨Nat.zero_le _, Nat.zero_le _⟩ dX0_discard_67 (fun H locs hP hD hS => ?_)
        replace hP : zP g (zD g h0 h1 h2 h3 h4 b2 pF pL st tm qt (cm + 1) (ds + v4) dr2) H := hP
        replace hD : va_D A (zD g h0 h1 h2 h3 h4 b2 pF pL st tm qt (cm + 1) (ds + v4) dr2) := hD
        cases h
        exact zw_v hx hb hr hlocks hP hS dX0_discard_70
      · replace h := zf c1 h
        refine lv_aload_n hx hb dX0_discard_31 rfl (lv_at hl 0 rfl) ?_
        refine va_get (ci := 0) (v := .ref h1) (C := RX0) (T := TX0) (N := 9) hx hb hts uX0_discard_X0 hown hK hP 0 rfl rfl 0 (by decide) (hts _ mX0_discard_9) (fun _ h9 => h9) rfl dX0_discard_32 ?_
        refine lv_iload hx hb dX0_discard_35 (lv_at hl 3 rfl) ?_
        refine lv_iconst (v := (-1)) hx hb dX0_discard_37 (by decide) ?_
        obtain ⟨i3, h⟩ := zi h
        refine za_ist hx hb hK hP hD hS 1 rfl _ rfl i3 dX0_discard_38 (fun H locs hP hD hS => ?_)
        replace hP : zP g (zD g h0 h1 h2 h3 h4 (upd b v5.toNatClampNeg (-1)) pF pL st tm qt cm ds dr) H := hP
        replace hD : va_D A (zD g h0 h1 h2 h3 h4 (upd b v5.toNatClampNeg (-1)) pF pL st tm qt cm ds dr) := hD
        refine lv_iinc (v := (v5 + 1)) (lv' := [(5, .int (v5 + 1)), (0, .ref h0), (3, .int v3), (4, .int v4)]) hx hb dX0_discard_39 hl (k := 3) rfl rfl (by decide) rfl (fun ls hl => ?_)
        refine lv_goto (tgt := 22) hx hb dX0_discard_42 (by decide) ?_
        exact ih v3 v4 (v5 + 1) (upd b v5.toNatClampNeg (-1)) cm ds dr h H locs hP hD hS ls (lv_sub hl [1, 2, 3, 0] rfl)
  unfold fX0_discard at h
  refine lv_iload_n hx hb dX0_discard_0 rfl (lv_at hl 1 rfl) ?_
  refine lv_aload_n hx hb dX0_discard_1 rfl (lv_at hl 0 rfl) ?_
  refine va_get (ci := 0) (v := .ref h4) (C := RX0) (T := TX0) (N := 9) hx hb hts uX0_discard_X0 hown hK hP 0 rfl rfl 3 (by decide) (hts _ mX0_discard_21) (fun _ h9 => h9) rfl dX0_discard_2 ?_
  refine lv_iconst (v := 0) hx hb dX0_discard_5 (by decide) ?_
  refine za_ild hx hb hK hP 4 rfl 0 (by decide) (by decide) dX0_discard_6 ?_
  refine lv_ishl hx hb dX0_discard_7 ?_
  refine lv_istore_n (lv' := [(3, .int (a1 <<< ((st 0) &&& 31))), (0, .ref h0), (1, .int a1), (2, .int a2)]) hx hb dX0_discard_8 rfl hl (by decide) rfl (fun ls hl => ?_)
  refine lv_iload_n hx hb dX0_discard_9 rfl (lv_at hl 3 rfl) ?_
  refine lv_aload_n hx hb dX0_discard_10 rfl (lv_at hl 1 rfl) ?_
  refine va_get (ci := 0) (v := .ref h4) (C := RX0) (T := TX0) (N := 9) hx hb hts uX0_discard_X0 hown hK hP 0 rfl rfl 3 (by decide) (hts _ mX0_discard_21) (fun _ h9 => h9) rfl dX0_discard_11 ?_
  refine lv_iconst (v := 0) hx hb dX0_discard_14 (by decide) ?_
  refine za_ild hx hb hK hP 4 rfl 0 (by decide) (by decide) dX0_discard_15 ?_
  refine lv_ishl hx hb dX0_discard_16 ?_
  refine lv_istore (lv' := [(4, .int (a2 <<< ((st 0) &&& 31))), (3, .int (a1 <<< ((st 0) &&& 31))), (0, .ref h0), (1, .int a1), (2, .int a2)]) hx hb dX0_discard_17 hl (by decide) rfl (fun ls hl => ?_)
  refine lv_iload_n hx hb dX0_discard_19 rfl (lv_at hl 1 rfl) ?_
  refine lv_istore (lv' := [(5, .int (a1 <<< ((st 0) &&& 31))), (4, .int (a2 <<< ((st 0) &&& 31))), (3, .int (a1 <<< ((st 0) &&& 31))), (0, .ref h0), (1, .int a1), (2, .int a2)]) hx hb dX0_discard_20 hl (by decide) rfl (fun ls hl => ?_)
  exact loop_22 1000 (a1 <<< ((st 0) &&& 31)) (a2 <<< ((st 0) &&& 31)) (a1 <<< ((st 0) &&& 31)) b cm ds dr h s.heap [] hP hD hS ls (lv_sub hl [3, 2, 1, 0] rfl)
theorem hdV_X0_budgetOfTick : yX0_budgetOfTick.cls = RX0 ∧ yX0_budgetOfTick.cls ≠ "java/lang/invoke/MethodHandle" ∧ yX0_budgetOfTick.cls ≠ "java/lang/invoke/VarHandle" ∧ (parseMethodDescriptor yX0_budgetOfTick.desc).map (fun d => d.parameters.length) = some 0 := by decide +kernel
theorem hdV_X0_choosePiece : yX0_choosePiece.cls = RX0 ∧ yX0_choosePiece.cls ≠ "java/lang/invoke/MethodHandle" ∧ yX0_choosePiece.cls ≠ "java/lang/invoke/VarHandle" ∧ (parseMethodDescriptor yX0_choosePiece.desc).map (fun d => d.parameters.length) = some 2 := by decide +kernel
theorem hdV_X0_discard : yX0_discard.cls = RX0 ∧ yX0_discard.cls ≠ "java/lang/invoke/MethodHandle" ∧ yX0_discard.cls ≠ "java/lang/invoke/VarHandle" ∧ (parseMethodDescriptor yX0_discard.desc).map (fun d => d.parameters.length) = some 2 := by decide +kernel
theorem hdV_X0_granulesFrom : yX0_granulesFrom.cls = RX0 ∧ yX0_granulesFrom.cls ≠ "java/lang/invoke/MethodHandle" ∧ yX0_granulesFrom.cls ≠ "java/lang/invoke/VarHandle" ∧ (parseMethodDescriptor yX0_granulesFrom.desc).map (fun d => d.parameters.length) = some 2 := by decide +kernel
theorem hdV_X0_mostGranules : yX0_mostGranules.cls = RX0 ∧ yX0_mostGranules.cls ≠ "java/lang/invoke/MethodHandle" ∧ yX0_mostGranules.cls ≠ "java/lang/invoke/VarHandle" ∧ (parseMethodDescriptor yX0_mostGranules.desc).map (fun d => d.parameters.length) = some 1 := by decide +kernel
def fX0_tick_7 (pF : Nat → Int32) (pL : Nat → Int32) (st : Nat → Int32) : Nat → Int32 → Int32 → (Nat → Int32) → (Int32) → (Int32) → (Int32) → (Int32) → (Int32) → Option ((Nat → Int32) × (Int32) × (Int32) × (Int32) × (Int32) × (Int32))
  | 0, _, _, _, _, _, _, _, _ => none
  | n + 1, v1, v2, b, tm, qt, cm, ds, dr =>
    if 256 ≤ v2 then
        some (b, (tm + 1), (qt + 1), cm, ds, dr)
      else
        if v1 ≤ (st 4) then
          some (b, (tm + 1), (qt + 1), cm, ds, dr)
        else
          ob (fX0_choosePiece b pF pL st tm 1 (st 5)) fun r3 =>
          if r3 = (-1) then
            some (b, (tm + 1), (qt + 1), cm, ds, dr)
          else
            ob (fX0_mostGranules st v1) fun r5 =>
            ob (fX0_granulesFrom b pF pL st r3 r5) fun r6 =>
            ob4 (fX0_discard b st cm ds dr r3 r6) fun b7 cm7 ds7 dr7 =>
            fX0_tick_7 pF pL st n (v1 - ((st 4) + r6)) (v2 + 1) b7 tm qt cm7 ds7 dr7
def fX0_tick (b : Nat → Int32) (pF : Nat → Int32) (pL : Nat → Int32) (st : Nat → Int32) (tm : Int32) (qt : Int32) (cm : Int32) (ds : Int32) (dr : Int32) : Option ((Nat → Int32) × (Int32) × (Int32) × (Int32) × (Int32) × (Int32)) :=
  ob (fX0_budgetOfTick st qt) fun r8 =>
  fX0_tick_7 pF pL st 1000 r8 0 b tm qt cm ds dr
theorem mX0_tick_42 : Cond.fieldLink RX0 42 "IdleDiscards$Device" "time" "I" ∈ wsX0_tick := by decide +kernel
theorem uX0_tick_X0 : ∀ w ∈ wsX00, w ∈ wsX0_tick := by decide +kernel
theorem mX0_tick_46 : Cond.fieldLink RX0 46 "IdleDiscards$Device" "quiet" "I" ∈ wsX0_tick := by decide +kernel
theorem mX0_tick_21 : Cond.fieldLink RX0 21 "IdleDiscards$Device" "settings" "[I" ∈ wsX0_tick := by decide +kernel
set_option maxRecDepth 100000 in
set_option maxHeartbeats 4000000 in
theorem kX0_tick (l : Launch) (g : zG) (h0 h1 h2 h3 h4 : Nat) (b : Nat → Int32) (pF : Nat → Int32) (pL : Nat → Int32) (st : Nat → Int32) (tm : Int32) (qt : Int32) (cm : Int32) (ds : Int32) (dr : Int32) {b' : Nat → Int32} {tm' : Int32} {qt' : Int32} {cm' : Int32} {ds' : Int32} {dr' : Int32} (h : fX0_tick b pF pL st tm qt cm ds dr = some (b', tm', qt', cm', ds', dr')) : Mw l g yX0_tick wsX0_tick { frames := 3, cells := 0, slots := 0, locals := 76 } [.ref h0] (zD g h0 h1 h2 h3 h4 b pF pL st tm qt cm ds dr) (zWv g (zD g h0 h1 h2 h3 h4 b' pF pL st tm' qt' cm' ds' dr')) := by
  refine zw_in (cc := cX0_tick) (maxL := 5) (ret := none) (by decide) rfl (Nat.le_of_ble_eq_true rfl) ?_
  intro p e s m below meth c hx hb hr hml hts hown hlocks hK A hA hP hD hS ls hl
  replace hl : lv_has ls 5 [(0, .ref h0)] := hl
  have loop_7 : ∀ (n : Nat) (v1 : Int32) (v2 : Int32) (b : (Nat → Int32)) (tm : (Int32)) (qt : (Int32)) (cm : (Int32)) (ds : (Int32)) (dr : (Int32)), fX0_tick_7 pF pL st n v1 v2 b tm qt cm ds dr = some (b', tm', qt', cm', ds', dr') → ∀ (H : Heap) (locs : List Loc), zP g (zD g h0 h1 h2 h3 h4 b pF pL st tm qt cm ds dr) H → va_D A (zD g h0 h1 h2 h3 h4 b pF pL st tm qt cm ds dr) → va_S A s.heap H locs → ∀ (ls : Array Slot), lv_has ls 5 [(0, .ref h0), (1, .int v1), (2, .int v2)] → W p l e ({ frames := 3, cells := 0, slots := 0, locals := 76 } : Room) s m [.ref h0].toArray below meth c H locs 0 0 (MQ below (zWv g (zD g h0 h1 h2 h3 h4 b' pF pL st tm' qt' cm' ds' dr') A) [.ref h0].toArray s 0 0 A) (F0 m 7 ls []) := by
    intro n
    induction n with
    | zero => intro v1 v2 b tm qt cm ds dr h H locs hP hD hS ls hl; exact zn h
    | succ n ih =>
      intro v1 v2 b tm qt cm ds dr h H locs hP hD hS ls hl
      rw [fX0_tick_7] at h
      refine lv_iload_n hx hb dX0_tick_7 rfl (lv_at hl 2 rfl) ?_
      refine lv_sipush (v := 256) hx hb dX0_tick_8 (by decide) ?_
      refine lv_icmp_ge (tgt := 81) hx hb dX0_tick_11 (by decide) (fun c1 => ?_) (fun c1 => ?_)
      · replace h := zt c1 h
        refine lv_aload_n hx hb dX0_tick_81 rfl (lv_at hl 0 rfl) ?_
        refine lv_dup hx hb dX0_tick_82 rfl ?_
        refine va_get (ci := 0) (v := .int tm) (C := RX0) (T := TX0) (N := 9) hx hb hts uX0_tick_X0 hown hK hP 0 rfl rfl 4 (by decide) (hts _ mX0_tick_42) (fun _ h9 => h9) rfl dX0_tick_83 ?_
        refine lv_iconst (v := 1) hx hb dX0_tick_86 (by decide) ?_
        refine lv_iadd hx hb dX0_tick_87 ?_
        refine va_put (ci := 0) (v := .int (tm + 1)) (ty := .int) (C := RX0) (T := TX0) (N := 9) hx hb hts uX0_tick_X0 tyX0 tyX0_ok nmX0 hown hK hP hD hS 0 rfl rfl 4 (by decide) (hts _ mX0_tick_42) (fun _ h9 => h9) rfl (by decide +kernel) rfl rfl (Nat.le_of_ble_eq_true rfl) dX0_tick_88 (fun H locs hP hD hS => ?_)
        replace hP : zP g (zD g h0 h1 h2 h3 h4 b pF pL st (tm + 1) qt cm ds dr) H := hP
        replace hD : va_D A (zD g h0 h1 h2 h3 h4 b pF pL st (tm + 1) qt cm ds dr) := hD
        refine lv_aload_n hx hb dX0_tick_91 rfl (lv_at hl 0 rfl) ?_
        refine lv_dup hx hb dX0_tick_92 rfl ?_
        refine va_get (ci := 0) (v := .int qt) (C := RX0) (T := TX0) (N := 9) hx hb hts uX0_tick_X0 hown hK hP 0 rfl rfl 5 (by decide) (hts _ mX0_tick_46) (fun _ h9 => h9) rfl dX0_tick_93 ?_
        refine lv_iconst (v := 1) hx hb dX0_tick_96 (by decide) ?_
        refine lv_iadd hx hb dX0_tick_97 ?_
        refine va_put (ci := 0) (v := .int (qt + 1)) (ty := .int) (C := RX0) (T := TX0) (N := 9) hx hb hts uX0_tick_X0 tyX0 tyX0_ok nmX0 hown hK hP hD hS 0 rfl rfl 5 (by decide) (hts _ mX0_tick_46) (fun _ h9 => h9) rfl (by decide +kernel) rfl rfl (Nat.le_of_ble_eq_true rfl) dX0_tick_98 (fun H locs hP hD hS => ?_)
        replace hP : zP g (zD g h0 h1 h2 h3 h4 b pF pL st (tm + 1) (qt + 1) cm ds dr) H := hP
        replace hD : va_D A (zD g h0 h1 h2 h3 h4 b pF pL st (tm + 1) (qt + 1) cm ds dr) := hD
        cases h
        exact zw_v hx hb hr hlocks hP hS dX0_tick_101
      · replace h := zf c1 h
        refine lv_iload_n hx hb dX0_tick_14 rfl (lv_at hl 1 rfl) ?_
        refine lv_aload_n hx hb dX0_tick_15 rfl (lv_at hl 0 rfl) ?_
        refine va_get (ci := 0) (v := .ref h4) (C := RX0) (T := TX0) (N := 9) hx hb hts uX0_tick_X0 hown hK hP 0 rfl rfl 3 (by decide) (hts _ mX0_tick_21) (fun _ h9 => h9) rfl dX0_tick_16 ?_
        refine lv_iconst (v := 4) hx hb dX0_tick_19 (by decide) ?_
        refine za_ild hx hb hK hP 4 rfl 4 (by decide) (by decide) dX0_tick_20 ?_
        refine lv_icmp_le (tgt := 81) hx hb dX0_tick_21 (by decide) (fun c2 => ?_) (fun c2 => ?_)
        · replace h := zt c2 h
          refine lv_aload_n hx hb dX0_tick_81 rfl (lv_at hl 0 rfl) ?_
          refine lv_dup hx hb dX0_tick_82 rfl ?_
          refine va_get (ci := 0) (v := .int tm) (C := RX0) (T := TX0) (N := 9) hx hb hts uX0_tick_X0 hown hK hP 0 rfl rfl 4 (by decide) (hts _ mX0_tick_42) (fun _ h9 => h9) rfl dX0_tick_83 ?_
          refine lv_iconst (v := 1) hx hb dX0_tick_86 (by decide) ?_
          refine lv_iadd hx hb dX0_tick_87 ?_
          refine va_put (ci := 0) (v := .int (tm + 1)) (ty := .int) (C := RX0) (T := TX0) (N := 9) hx hb hts uX0_tick_X0 tyX0 tyX0_ok nmX0 hown hK hP hD hS 0 rfl rfl 4 (by decide) (hts _ mX0_tick_42) (fun _ h9 => h9) rfl (by decide +kernel) rfl rfl (Nat.le_of_ble_eq_true rfl) dX0_tick_88 (fun H locs hP hD hS => ?_)
          replace hP : zP g (zD g h0 h1 h2 h3 h4 b pF pL st (tm + 1) qt cm ds dr) H := hP
          replace hD : va_D A (zD g h0 h1 h2 h3 h4 b pF pL st (tm + 1) qt cm ds dr) := hD
          refine lv_aload_n hx hb dX0_tick_91 rfl (lv_at hl 0 rfl) ?_
          refine lv_dup hx hb dX0_tick_92 rfl ?_
          refine va_get (ci := 0) (v := .int qt) (C := RX0) (T := TX0) (N := 9) hx hb hts uX0_tick_X0 hown hK hP 0 rfl rfl 5 (by decide) (hts _ mX0_tick_46) (fun _ h9 => h9) rfl dX0_tick_93 ?_
          refine lv_iconst (v := 1) hx hb dX0_tick_96 (by decide) ?_
          refine lv_iadd hx hb dX0_tick_97 ?_
          refine va_put (ci := 0) (v := .int (qt + 1)) (ty := .int) (C := RX0) (T := TX0) (N := 9) hx hb hts uX0_tick_X0 tyX0 tyX0_ok nmX0 hown hK hP hD hS 0 rfl rfl 5 (by decide) (hts _ mX0_tick_46) (fun _ h9 => h9) rfl (by decide +kernel) rfl rfl (Nat.le_of_ble_eq_true rfl) dX0_tick_98 (fun H locs hP hD hS => ?_)
          replace hP : zP g (zD g h0 h1 h2 h3 h4 b pF pL st (tm + 1) (qt + 1) cm ds dr) H := hP
          replace hD : va_D A (zD g h0 h1 h2 h3 h4 b pF pL st (tm + 1) (qt + 1) cm ds dr) := hD
          cases h
          exact zw_v hx hb hr hlocks hP hS dX0_tick_101
        · replace h := zf c2 h
          refine lv_aload_n hx hb dX0_tick_24 rfl (lv_at hl 0 rfl) ?_
          refine lv_iconst (v := 1) hx hb dX0_tick_25 (by decide) ?_
          refine lv_aload_n hx hb dX0_tick_26 rfl (lv_at hl 0 rfl) ?_
          refine va_get (ci := 0) (v := .ref h4) (C := RX0) (T := TX0) (N := 9) hx hb hts uX0_tick_X0 hown hK hP 0 rfl rfl 3 (by decide) (hts _ mX0_tick_21) (fun _ h9 => h9) rfl dX0_tick_27 ?_
          refine lv_iconst (v := 5) hx hb dX0_tick_30 (by decide) ?_
          refine za_ild hx hb hK hP 4 rfl 5 (by decide) (by decide) dX0_tick_31 ?_
          obtain ⟨r3, e3, h⟩ := zb h
          refine zV (As := [.int 1, .int (st 5)]) (rest := []) (zQi_q _) ⟨hx, hb, hml, hown, hts⟩ (kX0_choosePiece l g h0 h1 h2 h3 h4 b pF pL st tm qt cm ds dr 1 (st 5) e3) (cwV 2 hts gX0_tick_X0_choosePiece rfl rfl rfl hdV_X0_choosePiece ⟨Nat.le_of_ble_eq_true rfl, Nat.le_of_ble_eq_true rfl⟩) hK hP [0, 1, 2, 3, 4] rfl 0 rfl rfl rfl hl.1 rfl (Nat.le_of_ble_eq_true rfl) ⟨Nat.zero_le _, Nat.zero_le _⟩ dX0_tick_32 ?_
          refine lv_istore_n (lv' := [(3, .int r3), (0, .ref h0), (1, .int v1), (2, .int v2)]) hx hb dX0_tick_35 rfl hl (by decide) rfl (fun ls hl => ?_)
          refine lv_iload_n hx hb dX0_tick_36 rfl (lv_at hl 0 rfl) ?_
          refine lv_iconst (v := (-1)) hx hb dX0_tick_37 (by decide) ?_
          refine lv_icmp_ne (tgt := 44) hx hb dX0_tick_38 (by decide) (fun c4 => ?_) (fun c4 => ?_)
          · replace h := zf c4 h
            refine lv_aload_n hx hb dX0_tick_44 rfl (lv_at hl 1 rfl) ?_
            refine lv_iload_n hx hb dX0_tick_45 rfl (lv_at hl 0 rfl) ?_
            refine lv_aload_n hx hb dX0_tick_46 rfl (lv_at hl 1 rfl) ?_
            refine lv_iload_n hx hb dX0_tick_47 rfl (lv_at hl 2 rfl) ?_
            obtain ⟨r5, e5, h⟩ := zb h
            refine zV (As := [.int v1]) (rest := [.int r3, .ref h0]) (zQi_q _) ⟨hx, hb, hml, hown, hts⟩ (kX0_mostGranules l g h0 h1 h2 h3 h4 b pF pL st tm qt cm ds dr v1 e5) (cwV 1 hts gX0_tick_X0_mostGranules rfl rfl rfl hdV_X0_mostGranules ⟨Nat.le_of_ble_eq_true rfl, Nat.le_of_ble_eq_true rfl⟩) hK hP [0, 1, 2, 3, 4] rfl 0 rfl rfl rfl hl.1 rfl (Nat.le_of_ble_eq_true rfl) ⟨Nat.zero_le _, Nat.zero_le _⟩ dX0_tick_48 ?_
            obtain ⟨r6, e6, h⟩ := zb h
            refine zV (As := [.int r3, .int r5]) (rest := []) (zQi_q _) ⟨hx, hb, hml, hown, hts⟩ (kX0_granulesFrom l g h0 h1 h2 h3 h4 b pF pL st tm qt cm ds dr r3 r5 e6) (cwV 2 hts gX0_tick_X0_granulesFrom rfl rfl rfl hdV_X0_granulesFrom ⟨Nat.le_of_ble_eq_true rfl, Nat.le_of_ble_eq_true rfl⟩) hK hP [0, 1, 2, 3, 4] rfl 0 rfl rfl rfl hl.1 rfl (Nat.le_of_ble_eq_true rfl) ⟨Nat.zero_le _, Nat.zero_le _⟩ dX0_tick_51 ?_
            refine lv_istore (lv' := [(4, .int r6), (3, .int r3), (0, .ref h0), (1, .int v1), (2, .int v2)]) hx hb dX0_tick_54 hl (by decide) rfl (fun ls hl => ?_)
            refine lv_aload_n hx hb dX0_tick_56 rfl (lv_at hl 2 rfl) ?_
            refine lv_iload_n hx hb dX0_tick_57 rfl (lv_at hl 1 rfl) ?_
            refine lv_iload hx hb dX0_tick_58 (lv_at hl 0 rfl) ?_
            obtain ⟨b7, cm7, ds7, dr7, e7, h⟩ := zb4 h
            refine zVw (As := [.int r3, .int r6]) (rest := []) (zWv_q g _) ⟨hx, hb, hml, hown, hts⟩ (kX0_discard l g h0 h1 h2 h3 h4 b pF pL st tm qt cm ds dr r3 r6 e7) (cwV 2 hts gX0_tick_X0_discard rfl rfl rfl hdV_X0_discard ⟨Nat.le_of_ble_eq_true rfl, Nat.le_of_ble_eq_true rfl⟩) hK hP hD hS hA [0, 1, 2, 3, 4] (by decide) rfl rfl 0 rfl rfl rfl hl.1 rfl (Nat.le_of_ble_eq_true rfl) ⟨Nat.zero_le _, Nat.zero_le _⟩ dX0_tick_60 (fun H locs hP hD hS => ?_)
            replace hP : zP g (zD g h0 h1 h2 h3 h4 b7 pF pL st tm qt cm7 ds7 dr7) H := hP
            replace hD : va_D A (zD g h0 h1 h2 h3 h4 b7 pF pL st tm qt cm7 ds7 dr7) := hD
            refine lv_iload_n hx hb dX0_tick_63 rfl (lv_at hl 3 rfl) ?_
            refine lv_aload_n hx hb dX0_tick_64 rfl (lv_at hl 2 rfl) ?_
            refine va_get (ci := 0) (v := .ref h4) (C := RX0) (T := TX0) (N := 9) hx hb hts uX0_tick_X0 hown hK hP 0 rfl rfl 3 (by decide) (hts _ mX0_tick_21) (fun _ h9 => h9) rfl dX0_tick_65 ?_
            refine lv_iconst (v := 4) hx hb dX0_tick_68 (by decide) ?_
            refine za_ild hx hb hK hP 4 rfl 4 (by decide) (by decide) dX0_tick_69 ?_
            refine lv_iload hx hb dX0_tick_70 (lv_at hl 0 rfl) ?_
            refine lv_iadd hx hb dX0_tick_72 ?_
            refine lv_isub hx hb dX0_tick_73 ?_
            refine lv_istore_n (lv' := [(1, .int (v1 - ((st 4) + r6))), (4, .int r6), (3, .int r3), (0, .ref h0), (2, .int v2)]) hx hb dX0_tick_74 rfl hl (by decide) rfl (fun ls hl => ?_)
            refine lv_iinc (v := (v2 + 1)) (lv' := [(2, .int (v2 + 1)), (1, .int (v1 - ((st 4) + r6))), (4, .int r6), (3, .int r3), (0, .ref h0)]) hx hb dX0_tick_75 hl (k := 4) rfl rfl (by decide) rfl (fun ls hl => ?_)
            refine lv_goto (tgt := 7) hx hb dX0_tick_78 (by decide) ?_
            exact ih (v1 - ((st 4) + r6)) (v2 + 1) b7 tm qt cm7 ds7 dr7 h H locs hP hD hS ls (lv_sub hl [4, 1, 0] rfl)
          · replace h := zt c4 h
            refine lv_goto (tgt := 81) hx hb dX0_tick_41 (by decide) ?_
            refine lv_aload_n hx hb dX0_tick_81 rfl (lv_at hl 1 rfl) ?_
            refine lv_dup hx hb dX0_tick_82 rfl ?_
            refine va_get (ci := 0) (v := .int tm) (C := RX0) (T := TX0) (N := 9) hx hb hts uX0_tick_X0 hown hK hP 0 rfl rfl 4 (by decide) (hts _ mX0_tick_42) (fun _ h9 => h9) rfl dX0_tick_83 ?_
            refine lv_iconst (v := 1) hx hb dX0_tick_86 (by decide) ?_
            refine lv_iadd hx hb dX0_tick_87 ?_
            refine va_put (ci := 0) (v := .int (tm + 1)) (ty := .int) (C := RX0) (T := TX0) (N := 9) hx hb hts uX0_tick_X0 tyX0 tyX0_ok nmX0 hown hK hP hD hS 0 rfl rfl 4 (by decide) (hts _ mX0_tick_42) (fun _ h9 => h9) rfl (by decide +kernel) rfl rfl (Nat.le_of_ble_eq_true rfl) dX0_tick_88 (fun H locs hP hD hS => ?_)
            replace hP : zP g (zD g h0 h1 h2 h3 h4 b pF pL st (tm + 1) qt cm ds dr) H := hP
            replace hD : va_D A (zD g h0 h1 h2 h3 h4 b pF pL st (tm + 1) qt cm ds dr) := hD
            refine lv_aload_n hx hb dX0_tick_91 rfl (lv_at hl 1 rfl) ?_
            refine lv_dup hx hb dX0_tick_92 rfl ?_
            refine va_get (ci := 0) (v := .int qt) (C := RX0) (T := TX0) (N := 9) hx hb hts uX0_tick_X0 hown hK hP 0 rfl rfl 5 (by decide) (hts _ mX0_tick_46) (fun _ h9 => h9) rfl dX0_tick_93 ?_
            refine lv_iconst (v := 1) hx hb dX0_tick_96 (by decide) ?_
            refine lv_iadd hx hb dX0_tick_97 ?_
            refine va_put (ci := 0) (v := .int (qt + 1)) (ty := .int) (C := RX0) (T := TX0) (N := 9) hx hb hts uX0_tick_X0 tyX0 tyX0_ok nmX0 hown hK hP hD hS 0 rfl rfl 5 (by decide) (hts _ mX0_tick_46) (fun _ h9 => h9) rfl (by decide +kernel) rfl rfl (Nat.le_of_ble_eq_true rfl) dX0_tick_98 (fun H locs hP hD hS => ?_)
            replace hP : zP g (zD g h0 h1 h2 h3 h4 b pF pL st (tm + 1) (qt + 1) cm ds dr) H := hP
            replace hD : va_D A (zD g h0 h1 h2 h3 h4 b pF pL st (tm + 1) (qt + 1) cm ds dr) := hD
            cases h
            exact zw_v hx hb hr hlocks hP hS dX0_tick_101
  unfold fX0_tick at h
  refine lv_aload_n hx hb dX0_tick_0 rfl (lv_at hl 0 rfl) ?_
  obtain ⟨r8, e8, h⟩ := zb h
  refine zV (As := []) (rest := []) (zQi_q _) ⟨hx, hb, hml, hown, hts⟩ (kX0_budgetOfTick l g h0 h1 h2 h3 h4 b pF pL st tm qt cm ds dr e8) (cwV 0 hts gX0_tick_X0_budgetOfTick rfl rfl rfl hdV_X0_budgetOfTick ⟨Nat.le_of_ble_eq_true rfl, Nat.le_of_ble_eq_true rfl⟩) hK hP [0, 1, 2, 3, 4] rfl 0 rfl rfl rfl hl.1 rfl (Nat.le_of_ble_eq_true rfl) ⟨Nat.zero_le _, Nat.zero_le _⟩ dX0_tick_1 ?_
  refine lv_istore_n (lv' := [(1, .int r8), (0, .ref h0)]) hx hb dX0_tick_4 rfl hl (by decide) rfl (fun ls hl => ?_)
  refine lv_iconst (v := 0) hx hb dX0_tick_5 (by decide) ?_
  refine lv_istore_n (lv' := [(2, .int 0), (1, .int r8), (0, .ref h0)]) hx hb dX0_tick_6 rfl hl (by decide) rfl (fun ls hl => ?_)
  exact loop_7 1000 r8 0 b tm qt cm ds dr h s.heap [] hP hD hS ls (lv_sub hl [2, 1, 0] rfl)
theorem hdV_X0_tick : yX0_tick.cls = RX0 ∧ yX0_tick.cls ≠ "java/lang/invoke/MethodHandle" ∧ yX0_tick.cls ≠ "java/lang/invoke/VarHandle" ∧ (parseMethodDescriptor yX0_tick.desc).map (fun d => d.parameters.length) = some 0 := by decide +kernel
def fX0_passTicks_7 (pF : Nat → Int32) (pL : Nat → Int32) (st : Nat → Int32) : Nat → Int32 → Int32 → Int32 → (Nat → Int32) → (Int32) → (Int32) → (Int32) → (Int32) → (Int32) → Option (Int32 × (Nat → Int32) × (Int32) × (Int32) × (Int32) × (Int32) × (Int32))
  | 0, _, _, _, _, _, _, _, _, _ => none
  | n + 1, v1, v2, v3, b, tm, qt, cm, ds, dr =>
    if v1 ≤ v3 then
        some ((ds - v2), b, tm, qt, cm, ds, dr)
      else
        ob6 (fX0_tick b pF pL st tm qt cm ds dr) fun b2 tm2 qt2 cm2 ds2 dr2 =>
        fX0_passTicks_7 pF pL st n v1 v2 (v3 + 1) b2 tm2 qt2 cm2 ds2 dr2
def fX0_passTicks (b : Nat → Int32) (pF : Nat → Int32) (pL : Nat → Int32) (st : Nat → Int32) (tm : Int32) (qt : Int32) (cm : Int32) (ds : Int32) (dr : Int32) (a1 : Int32) : Option (Int32 × (Nat → Int32) × (Int32) × (Int32) × (Int32) × (Int32) × (Int32)) :=
  fX0_passTicks_7 pF pL st 1000 a1 ds 0 b tm qt cm ds dr
theorem mX0_passTicks_52 : Cond.fieldLink RX0 52 "IdleDiscards$Device" "discarded" "I" ∈ wsX0_passTicks := by decide +kernel
theorem uX0_passTicks_X0 : ∀ w ∈ wsX00, w ∈ wsX0_passTicks := by decide +kernel
set_option maxRecDepth 100000 in
set_option maxHeartbeats 4000000 in
theorem kX0_passTicks (l : Launch) (g : zG) (h0 h1 h2 h3 h4 : Nat) (b : Nat → Int32) (pF : Nat → Int32) (pL : Nat → Int32) (st : Nat → Int32) (tm : Int32) (qt : Int32) (cm : Int32) (ds : Int32) (dr : Int32) (a1 : Int32) {r : Int32} {b' : Nat → Int32} {tm' : Int32} {qt' : Int32} {cm' : Int32} {ds' : Int32} {dr' : Int32} (h : fX0_passTicks b pF pL st tm qt cm ds dr a1 = some (r, b', tm', qt', cm', ds', dr')) : Mw l g yX0_passTicks wsX0_passTicks { frames := 4, cells := 0, slots := 0, locals := 100 } [.ref h0, .int a1] (zD g h0 h1 h2 h3 h4 b pF pL st tm qt cm ds dr) (zWi g (zD g h0 h1 h2 h3 h4 b' pF pL st tm' qt' cm' ds' dr') r) := by
  refine zw_in (cc := cX0_passTicks) (maxL := 4) (ret := (some .int)) (by decide) rfl (Nat.le_of_ble_eq_true rfl) ?_
  intro p e s m below meth c hx hb hr hml hts hown hlocks hK A hA hP hD hS ls hl
  replace hl : lv_has ls 4 [(0, .ref h0), (1, .int a1)] := hl
  have loop_7 : ∀ (n : Nat) (v1 : Int32) (v2 : Int32) (v3 : Int32) (b : (Nat → Int32)) (tm : (Int32)) (qt : (Int32)) (cm : (Int32)) (ds : (Int32)) (dr : (Int32)), fX0_passTicks_7 pF pL st n v1 v2 v3 b tm qt cm ds dr = some (r, b', tm', qt', cm', ds', dr') → ∀ (H : Heap) (locs : List Loc), zP g (zD g h0 h1 h2 h3 h4 b pF pL st tm qt cm ds dr) H → va_D A (zD g h0 h1 h2 h3 h4 b pF pL st tm qt cm ds dr) → va_S A s.heap H locs → ∀ (ls : Array Slot), lv_has ls 4 [(0, .ref h0), (1, .int v1), (2, .int v2), (3, .int v3)] → W p l e ({ frames := 4, cells := 0, slots := 0, locals := 100 } : Room) s m [.ref h0, .int a1].toArray below meth c H locs 0 0 (MQ below (zWi g (zD g h0 h1 h2 h3 h4 b' pF pL st tm' qt' cm' ds' dr') r A) [.ref h0, .int a1].toArray s 0 0 A) (F0 m 7 ls []) := by
    intro n
    induction n with
    | zero => intro v1 v2 v3 b tm qt cm ds dr h H locs hP hD hS ls hl; exact zn h
    | succ n ih =>
      intro v1 v2 v3 b tm qt cm ds dr h H locs hP hD hS ls hl
      rw [fX0_passTicks_7] at h
      refine lv_iload_n hx hb dX0_passTicks_7 rfl (lv_at hl 3 rfl) ?_
      refine lv_iload_n hx hb dX0_passTicks_8 rfl (lv_at hl 1 rfl) ?_
      refine lv_icmp_ge (tgt := 22) hx hb dX0_passTicks_9 (by decide) (fun c1 => ?_) (fun c1 => ?_)
      · replace h := zt c1 h
        refine lv_aload_n hx hb dX0_passTicks_22 rfl (lv_at hl 0 rfl) ?_
        refine va_get (ci := 0) (v := .int ds) (C := RX0) (T := TX0) (N := 9) hx hb hts uX0_passTicks_X0 hown hK hP 0 rfl rfl 7 (by decide) (hts _ mX0_passTicks_52) (fun _ h9 => h9) rfl dX0_passTicks_23 ?_
        refine lv_iload_n hx hb dX0_passTicks_26 rfl (lv_at hl 2 rfl) ?_
        refine lv_isub hx hb dX0_passTicks_27 ?_
        cases h
        exact zw_i hx hb hr hlocks hP hS dX0_passTicks_28
      · replace h := zf c1 h
        refine lv_aload_n hx hb dX0_passTicks_12 rfl (lv_at hl 0 rfl) ?_
        obtain ⟨b2, tm2, qt2, cm2, ds2, dr2, e2, h⟩ := zb6 h
        refine zVw (As := []) (rest := []) (zWv_q g _) ⟨hx, hb, hml, hown, hts⟩ (kX0_tick l g h0 h1 h2 h3 h4 b pF pL st tm qt cm ds dr e2) (cwV 0 hts gX0_passTicks_X0_tick rfl rfl rfl hdV_X0_tick ⟨Nat.le_of_ble_eq_true rfl, Nat.le_of_ble_eq_true rfl⟩) hK hP hD hS hA [0, 1, 2, 3, 4] (by decide) rfl rfl 0 rfl rfl rfl hl.1 rfl (Nat.le_of_ble_eq_true rfl) ⟨Nat.zero_le _, Nat.zero_le _⟩ dX0_passTicks_13 (fun H locs hP hD hS => ?_)
        replace hP : zP g (zD g h0 h1 h2 h3 h4 b2 pF pL st tm2 qt2 cm2 ds2 dr2) H := hP
        replace hD : va_D A (zD g h0 h1 h2 h3 h4 b2 pF pL st tm2 qt2 cm2 ds2 dr2) := hD
        refine lv_iinc (v := (v3 + 1)) (lv' := [(3, .int (v3 + 1)), (0, .ref h0), (1, .int v1), (2, .int v2)]) hx hb dX0_passTicks_16 hl (k := 3) rfl rfl (by decide) rfl (fun ls hl => ?_)
        refine lv_goto (tgt := 7) hx hb dX0_passTicks_19 (by decide) ?_
        exact ih v1 v2 (v3 + 1) b2 tm2 qt2 cm2 ds2 dr2 h H locs hP hD hS ls (lv_sub hl [1, 2, 3, 0] rfl)
  unfold fX0_passTicks at h
  refine lv_aload_n hx hb dX0_passTicks_0 rfl (lv_at hl 0 rfl) ?_
  refine va_get (ci := 0) (v := .int ds) (C := RX0) (T := TX0) (N := 9) hx hb hts uX0_passTicks_X0 hown hK hP 0 rfl rfl 7 (by decide) (hts _ mX0_passTicks_52) (fun _ h9 => h9) rfl dX0_passTicks_1 ?_
  refine lv_istore_n (lv' := [(2, .int ds), (0, .ref h0), (1, .int a1)]) hx hb dX0_passTicks_4 rfl hl (by decide) rfl (fun ls hl => ?_)
  refine lv_iconst (v := 0) hx hb dX0_passTicks_5 (by decide) ?_
  refine lv_istore_n (lv' := [(3, .int 0), (2, .int ds), (0, .ref h0), (1, .int a1)]) hx hb dX0_passTicks_6 rfl hl (by decide) rfl (fun ls hl => ?_)
  exact loop_7 1000 a1 ds 0 b tm qt cm ds dr h s.heap [] hP hD hS ls (lv_sub hl [2, 3, 1, 0] rfl)
def fX0_pieceOfTick (b : Nat → Int32) (pF : Nat → Int32) (pL : Nat → Int32) (st : Nat → Int32) (tm : Int32) (qt : Int32) : Option (Int32) :=
  ob (fX0_budgetOfTick st qt) fun r1 =>
  if r1 ≤ (st 4) then
    some (-1)
  else
    ob (fX0_choosePiece b pF pL st tm 1 (st 5)) fun r3 =>
    some r3
theorem mX0_pieceOfTick_21 : Cond.fieldLink RX0 21 "IdleDiscards$Device" "settings" "[I" ∈ wsX0_pieceOfTick := by decide +kernel
theorem uX0_pieceOfTick_X0 : ∀ w ∈ wsX00, w ∈ wsX0_pieceOfTick := by decide +kernel
set_option maxRecDepth 100000 in
set_option maxHeartbeats 4000000 in
theorem kX0_pieceOfTick (l : Launch) (g : zG) (h0 h1 h2 h3 h4 : Nat) (b : Nat → Int32) (pF : Nat → Int32) (pL : Nat → Int32) (st : Nat → Int32) (tm : Int32) (qt : Int32) (cm : Int32) (ds : Int32) (dr : Int32) {r : Int32} (h : fX0_pieceOfTick b pF pL st tm qt = some r) : Mr l g yX0_pieceOfTick wsX0_pieceOfTick { frames := 3, cells := 0, slots := 0, locals := 76 } [.ref h0] (zD g h0 h1 h2 h3 h4 b pF pL st tm qt cm ds dr) (zQi r) := by
  refine zr_in (cc := cX0_pieceOfTick) (maxL := 1) (ret := (some .int)) (by decide) rfl (Nat.le_of_ble_eq_true rfl) ?_
  intro p e s m below meth c hx hb hr hml hts hown hlocks hP hK ls hl
  replace hl : lv_has ls 1 [(0, .ref h0)] := hl
  unfold fX0_pieceOfTick at h
  refine lv_aload_n hx hb dX0_pieceOfTick_0 rfl (lv_at hl 0 rfl) ?_
  obtain ⟨r1, e1, h⟩ := zb h
  refine zV (As := []) (rest := []) (zQi_q _) ⟨hx, hb, hml, hown, hts⟩ (kX0_budgetOfTick l g h0 h1 h2 h3 h4 b pF pL st tm qt cm ds dr e1) (cwV 0 hts gX0_pieceOfTick_X0_budgetOfTick rfl rfl rfl hdV_X0_budgetOfTick ⟨Nat.le_of_ble_eq_true rfl, Nat.le_of_ble_eq_true rfl⟩) hK hP [0, 1, 2, 3, 4] rfl 0 rfl rfl rfl hl.1 rfl (Nat.le_of_ble_eq_true rfl) ⟨Nat.zero_le _, Nat.zero_le _⟩ dX0_pieceOfTick_1 ?_
  refine lv_aload_n hx hb dX0_pieceOfTick_4 rfl (lv_at hl 0 rfl) ?_
  refine va_get (ci := 0) (v := .ref h4) (C := RX0) (T := TX0) (N := 9) hx hb hts uX0_pieceOfTick_X0 hown hK hP 0 rfl rfl 3 (by decide) (hts _ mX0_pieceOfTick_21) (fun _ h9 => h9) rfl dX0_pieceOfTick_5 ?_
  refine lv_iconst (v := 4) hx hb dX0_pieceOfTick_8 (by decide) ?_
  refine za_ild hx hb hK hP 4 rfl 4 (by decide) (by decide) dX0_pieceOfTick_9 ?_
  refine lv_icmp_le (tgt := 27) hx hb dX0_pieceOfTick_10 (by decide) (fun c2 => ?_) (fun c2 => ?_)
  · replace h := zt c2 h
    refine lv_iconst (v := (-1)) hx hb dX0_pieceOfTick_27 (by decide) ?_
    cases h
    exact zr_i hx hb hr hlocks dX0_pieceOfTick_28
  · replace h := zf c2 h
    refine lv_aload_n hx hb dX0_pieceOfTick_13 rfl (lv_at hl 0 rfl) ?_
    refine lv_iconst (v := 1) hx hb dX0_pieceOfTick_14 (by decide) ?_
    refine lv_aload_n hx hb dX0_pieceOfTick_15 rfl (lv_at hl 0 rfl) ?_
    refine va_get (ci := 0) (v := .ref h4) (C := RX0) (T := TX0) (N := 9) hx hb hts uX0_pieceOfTick_X0 hown hK hP 0 rfl rfl 3 (by decide) (hts _ mX0_pieceOfTick_21) (fun _ h9 => h9) rfl dX0_pieceOfTick_16 ?_
    refine lv_iconst (v := 5) hx hb dX0_pieceOfTick_19 (by decide) ?_
    refine za_ild hx hb hK hP 4 rfl 5 (by decide) (by decide) dX0_pieceOfTick_20 ?_
    obtain ⟨r3, e3, h⟩ := zb h
    refine zV (As := [.int 1, .int (st 5)]) (rest := []) (zQi_q _) ⟨hx, hb, hml, hown, hts⟩ (kX0_choosePiece l g h0 h1 h2 h3 h4 b pF pL st tm qt cm ds dr 1 (st 5) e3) (cwV 2 hts gX0_pieceOfTick_X0_choosePiece rfl rfl rfl hdV_X0_choosePiece ⟨Nat.le_of_ble_eq_true rfl, Nat.le_of_ble_eq_true rfl⟩) hK hP [0, 1, 2, 3, 4] rfl 0 rfl rfl rfl hl.1 rfl (Nat.le_of_ble_eq_true rfl) ⟨Nat.zero_le _, Nat.zero_le _⟩ dX0_pieceOfTick_21 ?_
    refine lv_goto (tgt := 28) hx hb dX0_pieceOfTick_24 (by decide) ?_
    cases h
    exact zr_i hx hb hr hlocks dX0_pieceOfTick_28
def fX0_granulesOfTick (b : Nat → Int32) (pF : Nat → Int32) (pL : Nat → Int32) (st : Nat → Int32) (qt : Int32) (a1 : Int32) : Option (Int32) :=
  ob (fX0_budgetOfTick st qt) fun r1 =>
  ob (fX0_mostGranules st r1) fun r2 =>
  ob (fX0_granulesFrom b pF pL st a1 r2) fun r3 =>
  some r3
set_option maxRecDepth 100000 in
set_option maxHeartbeats 4000000 in
theorem kX0_granulesOfTick (l : Launch) (g : zG) (h0 h1 h2 h3 h4 : Nat) (b : Nat → Int32) (pF : Nat → Int32) (pL : Nat → Int32) (st : Nat → Int32) (tm : Int32) (qt : Int32) (cm : Int32) (ds : Int32) (dr : Int32) (a1 : Int32) {r : Int32} (h : fX0_granulesOfTick b pF pL st qt a1 = some r) : Mr l g yX0_granulesOfTick wsX0_granulesOfTick { frames := 3, cells := 0, slots := 0, locals := 70 } [.ref h0, .int a1] (zD g h0 h1 h2 h3 h4 b pF pL st tm qt cm ds dr) (zQi r) := by
  refine zr_in (cc := cX0_granulesOfTick) (maxL := 2) (ret := (some .int)) (by decide) rfl (Nat.le_of_ble_eq_true rfl) ?_
  intro p e s m below meth c hx hb hr hml hts hown hlocks hP hK ls hl
  replace hl : lv_has ls 2 [(0, .ref h0), (1, .int a1)] := hl
  unfold fX0_granulesOfTick at h
  refine lv_aload_n hx hb dX0_granulesOfTick_0 rfl (lv_at hl 0 rfl) ?_
  refine lv_iload_n hx hb dX0_granulesOfTick_1 rfl (lv_at hl 1 rfl) ?_
  refine lv_aload_n hx hb dX0_granulesOfTick_2 rfl (lv_at hl 0 rfl) ?_
  refine lv_aload_n hx hb dX0_granulesOfTick_3 rfl (lv_at hl 0 rfl) ?_
  obtain ⟨r1, e1, h⟩ := zb h
  refine zV (As := []) (rest := [.ref h0, .int a1, .ref h0]) (zQi_q _) ⟨hx, hb, hml, hown, hts⟩ (kX0_budgetOfTick l g h0 h1 h2 h3 h4 b pF pL st tm qt cm ds dr e1) (cwV 0 hts gX0_granulesOfTick_X0_budgetOfTick rfl rfl rfl hdV_X0_budgetOfTick ⟨Nat.le_of_ble_eq_true rfl, Nat.le_of_ble_eq_true rfl⟩) hK hP [0, 1, 2, 3, 4] rfl 0 rfl rfl rfl hl.1 rfl (Nat.le_of_ble_eq_true rfl) ⟨Nat.zero_le _, Nat.zero_le _⟩ dX0_granulesOfTick_4 ?_
  obtain ⟨r2, e2, h⟩ := zb h
  refine zV (As := [.int r1]) (rest := [.int a1, .ref h0]) (zQi_q _) ⟨hx, hb, hml, hown, hts⟩ (kX0_mostGranules l g h0 h1 h2 h3 h4 b pF pL st tm qt cm ds dr r1 e2) (cwV 1 hts gX0_granulesOfTick_X0_mostGranules rfl rfl rfl hdV_X0_mostGranules ⟨Nat.le_of_ble_eq_true rfl, Nat.le_of_ble_eq_true rfl⟩) hK hP [0, 1, 2, 3, 4] rfl 0 rfl rfl rfl hl.1 rfl (Nat.le_of_ble_eq_true rfl) ⟨Nat.zero_le _, Nat.zero_le _⟩ dX0_granulesOfTick_7 ?_
  obtain ⟨r3, e3, h⟩ := zb h
  refine zV (As := [.int a1, .int r2]) (rest := []) (zQi_q _) ⟨hx, hb, hml, hown, hts⟩ (kX0_granulesFrom l g h0 h1 h2 h3 h4 b pF pL st tm qt cm ds dr a1 r2 e3) (cwV 2 hts gX0_granulesOfTick_X0_granulesFrom rfl rfl rfl hdV_X0_granulesFrom ⟨Nat.le_of_ble_eq_true rfl, Nat.le_of_ble_eq_true rfl⟩) hK hP [0, 1, 2, 3, 4] rfl 0 rfl rfl rfl hl.1 rfl (Nat.le_of_ble_eq_true rfl) ⟨Nat.zero_le _, Nat.zero_le _⟩ dX0_granulesOfTick_10 ?_
  cases h
  exact zr_i hx hb hr hlocks dX0_granulesOfTick_13
def fX0_sendAll_7 (pF : Nat → Int32) (pL : Nat → Int32) (st : Nat → Int32) (tm : Int32) : Nat → Int32 → Int32 → (Nat → Int32) → (Int32) → (Int32) → (Int32) → Option (Int32 × (Nat → Int32) × (Int32) × (Int32) × (Int32))
  | 0, _, _, _, _, _, _ => none
  | n + 1, v1, v2, b, cm, ds, dr =>
    if 256 ≤ v2 then
        some ((cm - v1), b, cm, ds, dr)
      else
        ob (fX0_choosePiece b pF pL st tm 0 2) fun r2 =>
        if r2 = (-1) then
          some ((cm - v1), b, cm, ds, dr)
        else
          ob (fX0_granulesFrom b pF pL st r2 16) fun r4 =>
          ob4 (fX0_discard b st cm ds dr r2 r4) fun b5 cm5 ds5 dr5 =>
          fX0_sendAll_7 pF pL st tm n v1 (v2 + 1) b5 cm5 ds5 dr5
def fX0_sendAll (b : Nat → Int32) (pF : Nat → Int32) (pL : Nat → Int32) (st : Nat → Int32) (tm : Int32) (cm : Int32) (ds : Int32) (dr : Int32) : Option (Int32 × (Nat → Int32) × (Int32) × (Int32) × (Int32)) :=
  fX0_sendAll_7 pF pL st tm 1000 cm 0 b cm ds dr
theorem mX0_sendAll_49 : Cond.fieldLink RX0 49 "IdleDiscards$Device" "commands" "I" ∈ wsX0_sendAll := by decide +kernel
theorem uX0_sendAll_X0 : ∀ w ∈ wsX00, w ∈ wsX0_sendAll := by decide +kernel
set_option maxRecDepth 100000 in
set_option maxHeartbeats 4000000 in
theorem kX0_sendAll (l : Launch) (g : zG) (h0 h1 h2 h3 h4 : Nat) (b : Nat → Int32) (pF : Nat → Int32) (pL : Nat → Int32) (st : Nat → Int32) (tm : Int32) (qt : Int32) (cm : Int32) (ds : Int32) (dr : Int32) {r : Int32} {b' : Nat → Int32} {cm' : Int32} {ds' : Int32} {dr' : Int32} (h : fX0_sendAll b pF pL st tm cm ds dr = some (r, b', cm', ds', dr')) : Mw l g yX0_sendAll wsX0_sendAll { frames := 3, cells := 0, slots := 0, locals := 76 } [.ref h0] (zD g h0 h1 h2 h3 h4 b pF pL st tm qt cm ds dr) (zWi g (zD g h0 h1 h2 h3 h4 b' pF pL st tm qt cm' ds' dr') r) := by
  refine zw_in (cc := cX0_sendAll) (maxL := 4) (ret := (some .int)) (by decide) rfl (Nat.le_of_ble_eq_true rfl) ?_
  intro p e s m below meth c hx hb hr hml hts hown hlocks hK A hA hP hD hS ls hl
  replace hl : lv_has ls 4 [(0, .ref h0)] := hl
  have loop_7 : ∀ (n : Nat) (v1 : Int32) (v2 : Int32) (b : (Nat → Int32)) (cm : (Int32)) (ds : (Int32)) (dr : (Int32)), fX0_sendAll_7 pF pL st tm n v1 v2 b cm ds dr = some (r, b', cm', ds', dr') → ∀ (H : Heap) (locs : List Loc), zP g (zD g h0 h1 h2 h3 h4 b pF pL st tm qt cm ds dr) H → va_D A (zD g h0 h1 h2 h3 h4 b pF pL st tm qt cm ds dr) → va_S A s.heap H locs → ∀ (ls : Array Slot), lv_has ls 4 [(0, .ref h0), (1, .int v1), (2, .int v2)] → W p l e ({ frames := 3, cells := 0, slots := 0, locals := 76 } : Room) s m [.ref h0].toArray below meth c H locs 0 0 (MQ below (zWi g (zD g h0 h1 h2 h3 h4 b' pF pL st tm qt cm' ds' dr') r A) [.ref h0].toArray s 0 0 A) (F0 m 7 ls []) := by
    intro n
    induction n with
    | zero => intro v1 v2 b cm ds dr h H locs hP hD hS ls hl; exact zn h
    | succ n ih =>
      intro v1 v2 b cm ds dr h H locs hP hD hS ls hl
      rw [fX0_sendAll_7] at h
      refine lv_iload_n hx hb dX0_sendAll_7 rfl (lv_at hl 2 rfl) ?_
      refine lv_sipush (v := 256) hx hb dX0_sendAll_8 (by decide) ?_
      refine lv_icmp_ge (tgt := 47) hx hb dX0_sendAll_11 (by decide) (fun c1 => ?_) (fun c1 => ?_)
      · replace h := zt c1 h
        refine lv_aload_n hx hb dX0_sendAll_47 rfl (lv_at hl 0 rfl) ?_
        refine va_get (ci := 0) (v := .int cm) (C := RX0) (T := TX0) (N := 9) hx hb hts uX0_sendAll_X0 hown hK hP 0 rfl rfl 6 (by decide) (hts _ mX0_sendAll_49) (fun _ h9 => h9) rfl dX0_sendAll_48 ?_
        refine lv_iload_n hx hb dX0_sendAll_51 rfl (lv_at hl 1 rfl) ?_
        refine lv_isub hx hb dX0_sendAll_52 ?_
        cases h
        exact zw_i hx hb hr hlocks hP hS dX0_sendAll_53
      · replace h := zf c1 h
        refine lv_aload_n hx hb dX0_sendAll_14 rfl (lv_at hl 0 rfl) ?_
        refine lv_iconst (v := 0) hx hb dX0_sendAll_15 (by decide) ?_
        refine lv_iconst (v := 2) hx hb dX0_sendAll_16 (by decide) ?_
        obtain ⟨r2, e2, h⟩ := zb h
        refine zV (As := [.int 0, .int 2]) (rest := []) (zQi_q _) ⟨hx, hb, hml, hown, hts⟩ (kX0_choosePiece l g h0 h1 h2 h3 h4 b pF pL st tm qt cm ds dr 0 2 e2) (cwV 2 hts gX0_sendAll_X0_choosePiece rfl rfl rfl hdV_X0_choosePiece ⟨Nat.le_of_ble_eq_true rfl, Nat.le_of_ble_eq_true rfl⟩) hK hP [0, 1, 2, 3, 4] rfl 0 rfl rfl rfl hl.1 rfl (Nat.le_of_ble_eq_true rfl) ⟨Nat.zero_le _, Nat.zero_le _⟩ dX0_sendAll_17 ?_
        refine lv_istore_n (lv' := [(3, .int r2), (0, .ref h0), (1, .int v1), (2, .int v2)]) hx hb dX0_sendAll_20 rfl hl (by decide) rfl (fun ls hl => ?_)
        refine lv_iload_n hx hb dX0_sendAll_21 rfl (lv_at hl 0 rfl) ?_
        refine lv_iconst (v := (-1)) hx hb dX0_sendAll_22 (by decide) ?_
        refine lv_icmp_ne (tgt := 29) hx hb dX0_sendAll_23 (by decide) (fun c3 => ?_) (fun c3 => ?_)
        · replace h := zf c3 h
          refine lv_aload_n hx hb dX0_sendAll_29 rfl (lv_at hl 1 rfl) ?_
          refine lv_iload_n hx hb dX0_sendAll_30 rfl (lv_at hl 0 rfl) ?_
          refine lv_aload_n hx hb dX0_sendAll_31 rfl (lv_at hl 1 rfl) ?_
          refine lv_iload_n hx hb dX0_sendAll_32 rfl (lv_at hl 0 rfl) ?_
          refine lv_bipush (v := 16) hx hb dX0_sendAll_33 (by decide) ?_
          obtain ⟨r4, e4, h⟩ := zb h
          refine zV (As := [.int r2, .int 16]) (rest := [.int r2, .ref h0]) (zQi_q _) ⟨hx, hb, hml, hown, hts⟩ (kX0_granulesFrom l g h0 h1 h2 h3 h4 b pF pL st tm qt cm ds dr r2 16 e4) (cwV 2 hts gX0_sendAll_X0_granulesFrom rfl rfl rfl hdV_X0_granulesFrom ⟨Nat.le_of_ble_eq_true rfl, Nat.le_of_ble_eq_true rfl⟩) hK hP [0, 1, 2, 3, 4] rfl 0 rfl rfl rfl hl.1 rfl (Nat.le_of_ble_eq_true rfl) ⟨Nat.zero_le _, Nat.zero_le _⟩ dX0_sendAll_35 ?_
          obtain ⟨b5, cm5, ds5, dr5, e5, h⟩ := zb4 h
          refine zVw (As := [.int r2, .int r4]) (rest := []) (zWv_q g _) ⟨hx, hb, hml, hown, hts⟩ (kX0_discard l g h0 h1 h2 h3 h4 b pF pL st tm qt cm ds dr r2 r4 e5) (cwV 2 hts gX0_sendAll_X0_discard rfl rfl rfl hdV_X0_discard ⟨Nat.le_of_ble_eq_true rfl, Nat.le_of_ble_eq_true rfl⟩) hK hP hD hS hA [0, 1, 2, 3, 4] (by decide) rfl rfl 0 rfl rfl rfl hl.1 rfl (Nat.le_of_ble_eq_true rfl) ⟨Nat.zero_le _, Nat.zero_le _⟩ dX0_sendAll_38 (fun H locs hP hD hS => ?_)
          replace hP : zP g (zD g h0 h1 h2 h3 h4 b5 pF pL st tm qt cm5 ds5 dr5) H := hP
          replace hD : va_D A (zD g h0 h1 h2 h3 h4 b5 pF pL st tm qt cm5 ds5 dr5) := hD
          refine lv_iinc (v := (v2 + 1)) (lv' := [(2, .int (v2 + 1)), (3, .int r2), (0, .ref h0), (1, .int v1)]) hx hb dX0_sendAll_41 hl (k := 3) rfl rfl (by decide) rfl (fun ls hl => ?_)
          refine lv_goto (tgt := 7) hx hb dX0_sendAll_44 (by decide) ?_
          exact ih v1 (v2 + 1) b5 cm5 ds5 dr5 h H locs hP hD hS ls (lv_sub hl [2, 3, 0] rfl)
        · replace h := zt c3 h
          refine lv_goto (tgt := 47) hx hb dX0_sendAll_26 (by decide) ?_
          refine lv_aload_n hx hb dX0_sendAll_47 rfl (lv_at hl 1 rfl) ?_
          refine va_get (ci := 0) (v := .int cm) (C := RX0) (T := TX0) (N := 9) hx hb hts uX0_sendAll_X0 hown hK hP 0 rfl rfl 6 (by decide) (hts _ mX0_sendAll_49) (fun _ h9 => h9) rfl dX0_sendAll_48 ?_
          refine lv_iload_n hx hb dX0_sendAll_51 rfl (lv_at hl 2 rfl) ?_
          refine lv_isub hx hb dX0_sendAll_52 ?_
          cases h
          exact zw_i hx hb hr hlocks hP hS dX0_sendAll_53
  unfold fX0_sendAll at h
  refine lv_aload_n hx hb dX0_sendAll_0 rfl (lv_at hl 0 rfl) ?_
  refine va_get (ci := 0) (v := .int cm) (C := RX0) (T := TX0) (N := 9) hx hb hts uX0_sendAll_X0 hown hK hP 0 rfl rfl 6 (by decide) (hts _ mX0_sendAll_49) (fun _ h9 => h9) rfl dX0_sendAll_1 ?_
  refine lv_istore_n (lv' := [(1, .int cm), (0, .ref h0)]) hx hb dX0_sendAll_4 rfl hl (by decide) rfl (fun ls hl => ?_)
  refine lv_iconst (v := 0) hx hb dX0_sendAll_5 (by decide) ?_
  refine lv_istore_n (lv' := [(2, .int 0), (1, .int cm), (0, .ref h0)]) hx hb dX0_sendAll_6 rfl hl (by decide) rfl (fun ls hl => ?_)
  exact loop_7 1000 cm 0 b cm ds dr h s.heap [] hP hD hS ls (lv_sub hl [2, 1, 0] rfl)
