theorem mX0_init_oi : Cond.methodLink RX0 3 objectInit ∈ wsX0_init := by decide +kernel
theorem mX0_init_on : Cond.instanceMethod objectInit ∈ wsX0_init := by decide +kernel
theorem mX0_init_oc : Cond.code objectInit ⟨#[0xb1]⟩ 1 none ∈ wsX0_init := by decide +kernel
theorem mX0_init_ai : Cond.arrayClass .int ∈ wsX0_init := by decide +kernel
theorem mX0_init_9 : Cond.fieldLink RX0 9 "IdleDiscards$Device" "blocks" "[I" ∈ wsX0_init := by decide +kernel
theorem mX0_init_15 : Cond.fieldLink RX0 15 "IdleDiscards$Device" "pinFirst" "[I" ∈ wsX0_init := by decide +kernel
theorem mX0_init_18 : Cond.fieldLink RX0 18 "IdleDiscards$Device" "pinLength" "[I" ∈ wsX0_init := by decide +kernel
theorem mX0_init_21 : Cond.fieldLink RX0 21 "IdleDiscards$Device" "settings" "[I" ∈ wsX0_init := by decide +kernel
theorem uX0_init_X0 : ∀ w ∈ wsX00, w ∈ wsX0_init := by decide +kernel
/-- what a new device holds -/
def fX0_init : Option zDv := fX0_makeNew (fun _ => 0) (fun _ => 0) (fun _ => 0) (fun _ => 0)
set_option maxRecDepth 100000 in
set_option maxHeartbeats 4000000 in
theorem kX0_init (l : Launch) (g : zG) (h0 : Nat) {d : zDv} (h : fX0_init = some d) : Mc l g yX0_init wsX0_init { frames := 2, cells := 4, slots := 268, locals := 60 } [.ref h0] [(h0, .inr (0, [.null, .null, .null, .null, .int 0, .int 0, .int 0, .int 0, .int 0]))] (zQc g (fun u : Nat → Nat => u 0 = h0) (fun u => zDw g u d)) 4 268 := by
  refine zc_in (cc := cX0_init) (maxL := 1) (ret := none) (by decide) rfl (Nat.le_of_ble_eq_true rfl) ?_
  intro p e s m below meth c hx hb hr hml hts hown hlocks hin hK A hA hP hD hS hAm hO ls hl
  replace hl : lv_has ls 1 [(0, .ref h0)] := hl
  replace hin : meth.name = "<init>" := hin
  obtain ⟨b1, pF1, pL1, st1, tm1, qt1, cm1, ds1, dr1⟩ := d
  unfold fX0_init at h
  refine lv_aload_n hx hb dX0_init_0 rfl (lv_at hl 0 rfl) ?_
  refine W.objInit hx hb hown (hts _ mX0_init_oi) (hts _ mX0_init_on) (hts _ mX0_init_oc) rfl (by rw [hml]; exact hl.1) rfl dX0_init_1 (Nat.le_of_ble_eq_true rfl) (Nat.le_of_ble_eq_true rfl) ?_
  refine W.eq (g2 := F0 m 4 ls []) rfl ?_
  refine lv_aload_n hx hb dX0_init_4 rfl (lv_at hl 0 rfl) ?_
  refine lv_sipush (v := 256) hx hb dX0_init_5 (by decide) ?_
  refine za_newI hx hb (hts _ mX0_init_ai) hK hP hD hS hA 256 (by decide) (by decide) (Nat.le_of_ble_eq_true rfl) (Nat.le_of_ble_eq_true rfl) (Nat.le_of_ble_eq_true rfl) dX0_init_8 (fun q1 H hP hD hS => ?_)
  replace hP : zP g [(h0, .inr (0, [.null, .null, .null, .null, .int 0, .int 0, .int 0, .int 0, .int 0])), (q1, .inl (g.2.1, 256, .inl (fun _ => 0)))] H := hP
  replace hD : va_D A [(h0, .inr (0, [.null, .null, .null, .null, .int 0, .int 0, .int 0, .int 0, .int 0])), (q1, .inl (g.2.1, 256, .inl (fun _ => 0)))] := hD
  refine va_putF (ci := 0) (v := .ref q1) (ty := .array .int) (C := RX0) (T := TX0) (N := 9) hx hb hts uX0_init_X0 tyX0 tyX0_ok nmX0 hown hK hP hD hS 0 rfl rfl 0 (by decide) (hts _ mX0_init_9) (fun _ h9 => h9) rfl hin rfl (by decide +kernel) rfl rfl (Nat.le_of_ble_eq_true rfl) dX0_init_10 (fun H locs hP hD hS => ?_)
  replace hP : zP g [(h0, .inr (0, [.ref q1, .null, .null, .null, .int 0, .int 0, .int 0, .int 0, .int 0])), (q1, .inl (g.2.1, 256, .inl (fun _ => 0)))] H := hP
  replace hD : va_D A [(h0, .inr (0, [.ref q1, .null, .null, .null, .int 0, .int 0, .int 0, .int 0, .int 0])), (q1, .inl (g.2.1, 256, .inl (fun _ => 0)))] := hD
  refine lv_aload_n hx hb dX0_init_13 rfl (lv_at hl 0 rfl) ?_
  refine lv_iconst (v := 3) hx hb dX0_init_14 (by decide) ?_
  refine za_newI hx hb (hts _ mX0_init_ai) hK hP hD hS hA 3 (by decide) (by decide) (Nat.le_of_ble_eq_true rfl) (Nat.le_of_ble_eq_true rfl) (Nat.le_of_ble_eq_true rfl) dX0_init_15 (fun q2 H hP hD hS => ?_)
  replace hP : zP g [(h0, .inr (0, [.ref q1, .null, .null, .null, .int 0, .int 0, .int 0, .int 0, .int 0])), (q1, .inl (g.2.1, 256, .inl (fun _ => 0))), (q2, .inl (g.2.1, 3, .inl (fun _ => 0)))] H := hP
  replace hD : va_D A [(h0, .inr (0, [.ref q1, .null, .null, .null, .int 0, .int 0, .int 0, .int 0, .int 0])), (q1, .inl (g.2.1, 256, .inl (fun _ => 0))), (q2, .inl (g.2.1, 3, .inl (fun _ => 0)))] := hD
  refine va_putF (ci := 0) (v := .ref q2) (ty := .array .int) (C := RX0) (T := TX0) (N := 9) hx hb hts uX0_init_X0 tyX0 tyX0_ok nmX0 hown hK hP hD hS 0 rfl rfl 1 (by decide) (hts _ mX0_init_15) (fun _ h9 => h9) rfl hin rfl (by decide +kernel) rfl rfl (Nat.le_of_ble_eq_true rfl) dX0_init_17 (fun H locs hP hD hS => ?_)
  replace hP : zP g [(h0, .inr (0, [.ref q1, .ref q2, .null, .null, .int 0, .int 0, .int 0, .int 0, .int 0])), (q1, .inl (g.2.1, 256, .inl (fun _ => 0))), (q2, .inl (g.2.1, 3, .inl (fun _ => 0)))] H := hP
  replace hD : va_D A [(h0, .inr (0, [.ref q1, .ref q2, .null, .null, .int 0, .int 0, .int 0, .int 0, .int 0])), (q1, .inl (g.2.1, 256, .inl (fun _ => 0))), (q2, .inl (g.2.1, 3, .inl (fun _ => 0)))] := hD
  refine lv_aload_n hx hb dX0_init_20 rfl (lv_at hl 0 rfl) ?_
  refine lv_iconst (v := 3) hx hb dX0_init_21 (by decide) ?_
  refine za_newI hx hb (hts _ mX0_init_ai) hK hP hD hS hA 3 (by decide) (by decide) (Nat.le_of_ble_eq_true rfl) (Nat.le_of_ble_eq_true rfl) (Nat.le_of_ble_eq_true rfl) dX0_init_22 (fun q3 H hP hD hS => ?_)
  replace hP : zP g [(h0, .inr (0, [.ref q1, .ref q2, .null, .null, .int 0, .int 0, .int 0, .int 0, .int 0])), (q1, .inl (g.2.1, 256, .inl (fun _ => 0))), (q2, .inl (g.2.1, 3, .inl (fun _ => 0))), (q3, .inl (g.2.1, 3, .inl (fun _ => 0)))] H := hP
  replace hD : va_D A [(h0, .inr (0, [.ref q1, .ref q2, .null, .null, .int 0, .int 0, .int 0, .int 0, .int 0])), (q1, .inl (g.2.1, 256, .inl (fun _ => 0))), (q2, .inl (g.2.1, 3, .inl (fun _ => 0))), (q3, .inl (g.2.1, 3, .inl (fun _ => 0)))] := hD
  refine va_putF (ci := 0) (v := .ref q3) (ty := .array .int) (C := RX0) (T := TX0) (N := 9) hx hb hts uX0_init_X0 tyX0 tyX0_ok nmX0 hown hK hP hD hS 0 rfl rfl 2 (by decide) (hts _ mX0_init_18) (fun _ h9 => h9) rfl hin rfl (by decide +kernel) rfl rfl (Nat.le_of_ble_eq_true rfl) dX0_init_24 (fun H locs hP hD hS => ?_)
  replace hP : zP g [(h0, .inr (0, [.ref q1, .ref q2, .ref q3, .null, .int 0, .int 0, .int 0, .int 0, .int 0])), (q1, .inl (g.2.1, 256, .inl (fun _ => 0))), (q2, .inl (g.2.1, 3, .inl (fun _ => 0))), (q3, .inl (g.2.1, 3, .inl (fun _ => 0)))] H := hP
  replace hD : va_D A [(h0, .inr (0, [.ref q1, .ref q2, .ref q3, .null, .int 0, .int 0, .int 0, .int 0, .int 0])), (q1, .inl (g.2.1, 256, .inl (fun _ => 0))), (q2, .inl (g.2.1, 3, .inl (fun _ => 0))), (q3, .inl (g.2.1, 3, .inl (fun _ => 0)))] := hD
  refine lv_aload_n hx hb dX0_init_27 rfl (lv_at hl 0 rfl) ?_
  refine lv_bipush (v := 6) hx hb dX0_init_28 (by decide) ?_
  refine za_newI hx hb (hts _ mX0_init_ai) hK hP hD hS hA 6 (by decide) (by decide) (Nat.le_of_ble_eq_true rfl) (Nat.le_of_ble_eq_true rfl) (Nat.le_of_ble_eq_true rfl) dX0_init_30 (fun q4 H hP hD hS => ?_)
  replace hP : zP g [(h0, .inr (0, [.ref q1, .ref q2, .ref q3, .null, .int 0, .int 0, .int 0, .int 0, .int 0])), (q1, .inl (g.2.1, 256, .inl (fun _ => 0))), (q2, .inl (g.2.1, 3, .inl (fun _ => 0))), (q3, .inl (g.2.1, 3, .inl (fun _ => 0))), (q4, .inl (g.2.1, 6, .inl (fun _ => 0)))] H := hP
  replace hD : va_D A [(h0, .inr (0, [.ref q1, .ref q2, .ref q3, .null, .int 0, .int 0, .int 0, .int 0, .int 0])), (q1, .inl (g.2.1, 256, .inl (fun _ => 0))), (q2, .inl (g.2.1, 3, .inl (fun _ => 0))), (q3, .inl (g.2.1, 3, .inl (fun _ => 0))), (q4, .inl (g.2.1, 6, .inl (fun _ => 0)))] := hD
  refine va_putF (ci := 0) (v := .ref q4) (ty := .array .int) (C := RX0) (T := TX0) (N := 9) hx hb hts uX0_init_X0 tyX0 tyX0_ok nmX0 hown hK hP hD hS 0 rfl rfl 3 (by decide) (hts _ mX0_init_21) (fun _ h9 => h9) rfl hin rfl (by decide +kernel) rfl rfl (Nat.le_of_ble_eq_true rfl) dX0_init_32 (fun H locs hP hD hS => ?_)
  replace hP : zP g [(h0, .inr (0, [.ref q1, .ref q2, .ref q3, .ref q4, .int 0, .int 0, .int 0, .int 0, .int 0])), (q1, .inl (g.2.1, 256, .inl (fun _ => 0))), (q2, .inl (g.2.1, 3, .inl (fun _ => 0))), (q3, .inl (g.2.1, 3, .inl (fun _ => 0))), (q4, .inl (g.2.1, 6, .inl (fun _ => 0)))] H := hP
  replace hD : va_D A [(h0, .inr (0, [.ref q1, .ref q2, .ref q3, .ref q4, .int 0, .int 0, .int 0, .int 0, .int 0])), (q1, .inl (g.2.1, 256, .inl (fun _ => 0))), (q2, .inl (g.2.1, 3, .inl (fun _ => 0))), (q3, .inl (g.2.1, 3, .inl (fun _ => 0))), (q4, .inl (g.2.1, 6, .inl (fun _ => 0)))] := hD
  refine lv_aload_n hx hb dX0_init_35 rfl (lv_at hl 0 rfl) ?_
  replace hP : zP g (zD g h0 q1 q2 q3 q4 (fun _ => 0) (fun _ => 0) (fun _ => 0) (fun _ => 0) 0 0 0 0 0) H := hP
  replace hD : va_D A (zD g h0 q1 q2 q3 q4 (fun _ => 0) (fun _ => 0) (fun _ => 0) (fun _ => 0) 0 0 0 0 0) := hD
  refine zVa (As := []) (rest := []) (zWv_q g _) ⟨hx, hb, hml, hown, hts⟩ (kX0_makeNew l g h0 q1 q2 q3 q4 (fun _ => 0) (fun _ => 0) (fun _ => 0) (fun _ => 0) 0 0 0 0 0 h) (cwV 0 hts gX0_init_X0_makeNew rfl rfl rfl hdV_X0_makeNew ⟨Nat.le_of_ble_eq_true rfl, Nat.le_of_ble_eq_true rfl⟩) hK hP hD hS hA hAm [0, 1, 2, 3, 4] (by decide) rfl rfl 0 rfl rfl rfl hl.1 rfl (Nat.le_of_ble_eq_true rfl) ⟨Nat.le_of_ble_eq_true rfl, Nat.le_of_ble_eq_true rfl⟩ dX0_init_36 (fun H locs hP hD hS => ?_)
  replace hP : zP g (zDw g (fun k => if k = 0 then h0 else if k = 1 then q1 else if k = 2 then q2 else if k = 3 then q3 else q4) (b1, pF1, pL1, st1, tm1, qt1, cm1, ds1, dr1)) H := hP
  replace hD : va_D A (zDw g (fun k => if k = 0 then h0 else if k = 1 then q1 else if k = 2 then q2 else if k = 3 then q3 else q4) (b1, pF1, pL1, st1, tm1, qt1, cm1, ds1, dr1)) := hD
  exact zc_v _ hx hb hr hlocks rfl hP hD hS dX0_init_39
theorem mX2_init_oi : Cond.methodLink RX2 3 objectInit ∈ wsX2_init := by decide +kernel
theorem mX2_init_on : Cond.instanceMethod objectInit ∈ wsX2_init := by decide +kernel
theorem mX2_init_oc : Cond.code objectInit ⟨#[0xb1]⟩ 1 none ∈ wsX2_init := by decide +kernel
theorem mX2_init_ai : Cond.arrayClass .int ∈ wsX2_init := by decide +kernel
theorem mX2_init_ac : Cond.arrayClass .char ∈ wsX2_init := by decide +kernel
theorem mX2_init_9 : Cond.fieldLink RX2 9 "IdleDiscards$Text" "chars" "[C" ∈ wsX2_init := by decide +kernel
theorem mX2_init_15 : Cond.fieldLink RX2 15 "IdleDiscards$Text" "numbers" "[I" ∈ wsX2_init := by decide +kernel
theorem uX2_init_X2 : ∀ w ∈ wsX20, w ∈ wsX2_init := by decide +kernel
set_option maxRecDepth 100000 in
set_option maxHeartbeats 4000000 in
theorem kX2_init (l : Launch) (g : zG) (h0 : Nat) : Mc l g yX2_init wsX2_init { frames := 1, cells := 2, slots := 123, locals := 20 } [.ref h0] [(h0, .inr (2, [.null, .null, .int 0, .int 0, .int 0]))] (zQc g (fun _ : Nat × Nat => True) (fun u => zTx g h0 u.1 u.2 (fun _ => 0) (fun _ => 0) 0 0 0)) 2 123 := by
  refine zc_in (cc := cX2_init) (maxL := 1) (ret := none) (by decide) rfl (Nat.le_of_ble_eq_true rfl) ?_
  intro p e s m below meth c hx hb hr hml hts hown hlocks hin hK A hA hP hD hS hAm hO ls hl
  replace hl : lv_has ls 1 [(0, .ref h0)] := hl
  replace hin : meth.name = "<init>" := hin
  refine lv_aload_n hx hb dX2_init_0 rfl (lv_at hl 0 rfl) ?_
  refine W.objInit hx hb hown (hts _ mX2_init_oi) (hts _ mX2_init_on) (hts _ mX2_init_oc) rfl (by rw [hml]; exact hl.1) rfl dX2_init_1 (Nat.le_of_ble_eq_true rfl) (Nat.le_of_ble_eq_true rfl) ?_
  refine W.eq (g2 := F0 m 4 ls []) rfl ?_
  refine lv_aload_n hx hb dX2_init_4 rfl (lv_at hl 0 rfl) ?_
  refine lv_bipush (v := 120) hx hb dX2_init_5 (by decide) ?_
  refine za_newC hx hb (hts _ mX2_init_ac) hK hP hD hS hA 120 (by decide) (by decide) (Nat.le_of_ble_eq_true rfl) (Nat.le_of_ble_eq_true rfl) (Nat.le_of_ble_eq_true rfl) dX2_init_7 (fun q1 H hP hD hS => ?_)
  replace hP : zP g [(h0, .inr (2, [.null, .null, .int 0, .int 0, .int 0])), (q1, .inl (g.2.2.1, 120, .inl (fun _ => 0)))] H := hP
  replace hD : va_D A [(h0, .inr (2, [.null, .null, .int 0, .int 0, .int 0])), (q1, .inl (g.2.2.1, 120, .inl (fun _ => 0)))] := hD
  refine va_putF (ci := 2) (v := .ref q1) (ty := .array .char) (C := RX2) (T := TX2) (N := 5) hx hb hts uX2_init_X2 tyX2 tyX2_ok nmX2 hown hK hP hD hS 0 rfl rfl 0 (by decide) (hts _ mX2_init_9) (fun _ h9 => h9) rfl hin rfl (by decide +kernel) rfl rfl (Nat.le_of_ble_eq_true rfl) dX2_init_9 (fun H locs hP hD hS => ?_)
  replace hP : zP g [(h0, .inr (2, [.ref q1, .null, .int 0, .int 0, .int 0])), (q1, .inl (g.2.2.1, 120, .inl (fun _ => 0)))] H := hP
  replace hD : va_D A [(h0, .inr (2, [.ref q1, .null, .int 0, .int 0, .int 0])), (q1, .inl (g.2.2.1, 120, .inl (fun _ => 0)))] := hD
  refine lv_aload_n hx hb dX2_init_12 rfl (lv_at hl 0 rfl) ?_
  refine lv_iconst (v := 3) hx hb dX2_init_13 (by decide) ?_
  refine za_newI hx hb (hts _ mX2_init_ai) hK hP hD hS hA 3 (by decide) (by decide) (Nat.le_of_ble_eq_true rfl) (Nat.le_of_ble_eq_true rfl) (Nat.le_of_ble_eq_true rfl) dX2_init_14 (fun q2 H hP hD hS => ?_)
  replace hP : zP g [(h0, .inr (2, [.ref q1, .null, .int 0, .int 0, .int 0])), (q1, .inl (g.2.2.1, 120, .inl (fun _ => 0))), (q2, .inl (g.2.1, 3, .inl (fun _ => 0)))] H := hP
  replace hD : va_D A [(h0, .inr (2, [.ref q1, .null, .int 0, .int 0, .int 0])), (q1, .inl (g.2.2.1, 120, .inl (fun _ => 0))), (q2, .inl (g.2.1, 3, .inl (fun _ => 0)))] := hD
  refine va_putF (ci := 2) (v := .ref q2) (ty := .array .int) (C := RX2) (T := TX2) (N := 5) hx hb hts uX2_init_X2 tyX2 tyX2_ok nmX2 hown hK hP hD hS 0 rfl rfl 1 (by decide) (hts _ mX2_init_15) (fun _ h9 => h9) rfl hin rfl (by decide +kernel) rfl rfl (Nat.le_of_ble_eq_true rfl) dX2_init_16 (fun H locs hP hD hS => ?_)
  replace hP : zP g [(h0, .inr (2, [.ref q1, .ref q2, .int 0, .int 0, .int 0])), (q1, .inl (g.2.2.1, 120, .inl (fun _ => 0))), (q2, .inl (g.2.1, 3, .inl (fun _ => 0)))] H := hP
  replace hD : va_D A [(h0, .inr (2, [.ref q1, .ref q2, .int 0, .int 0, .int 0])), (q1, .inl (g.2.2.1, 120, .inl (fun _ => 0))), (q2, .inl (g.2.1, 3, .inl (fun _ => 0)))] := hD
  exact zc_v (q1, q2) hx hb hr hlocks trivial hP hD hS dX2_init_19
