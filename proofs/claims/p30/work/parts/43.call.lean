/-! the law's own methods -/
theorem hdS_L_tryAbout : yL_tryAbout.cls ≠ "java/lang/invoke/MethodHandle" ∧ yL_tryAbout.cls ≠ "java/lang/invoke/VarHandle" ∧ (parseMethodDescriptor yL_tryAbout.desc).map (fun d => d.parameters.length) = some 2 := by decide +kernel
theorem hdS_L_tryAppend : yL_tryAppend.cls ≠ "java/lang/invoke/MethodHandle" ∧ yL_tryAppend.cls ≠ "java/lang/invoke/VarHandle" ∧ (parseMethodDescriptor yL_tryAppend.desc).map (fun d => d.parameters.length) = some 2 := by decide +kernel
theorem hdS_L_tryBack : yL_tryBack.cls ≠ "java/lang/invoke/MethodHandle" ∧ yL_tryBack.cls ≠ "java/lang/invoke/VarHandle" ∧ (parseMethodDescriptor yL_tryBack.desc).map (fun d => d.parameters.length) = some 2 := by decide +kernel
theorem hdS_L_tryBest : yL_tryBest.cls ≠ "java/lang/invoke/MethodHandle" ∧ yL_tryBest.cls ≠ "java/lang/invoke/VarHandle" ∧ (parseMethodDescriptor yL_tryBest.desc).map (fun d => d.parameters.length) = some 2 := by decide +kernel
theorem hdS_L_tryBlock : yL_tryBlock.cls ≠ "java/lang/invoke/MethodHandle" ∧ yL_tryBlock.cls ≠ "java/lang/invoke/VarHandle" ∧ (parseMethodDescriptor yL_tryBlock.desc).map (fun d => d.parameters.length) = some 3 := by decide +kernel
theorem hdS_L_tryComing : yL_tryComing.cls ≠ "java/lang/invoke/MethodHandle" ∧ yL_tryComing.cls ≠ "java/lang/invoke/VarHandle" ∧ (parseMethodDescriptor yL_tryComing.desc).map (fun d => d.parameters.length) = some 3 := by decide +kernel
theorem hdS_L_tryFree : yL_tryFree.cls ≠ "java/lang/invoke/MethodHandle" ∧ yL_tryFree.cls ≠ "java/lang/invoke/VarHandle" ∧ (parseMethodDescriptor yL_tryFree.desc).map (fun d => d.parameters.length) = some 3 := by decide +kernel
theorem hdS_L_tryGone : yL_tryGone.cls ≠ "java/lang/invoke/MethodHandle" ∧ yL_tryGone.cls ≠ "java/lang/invoke/VarHandle" ∧ (parseMethodDescriptor yL_tryGone.desc).map (fun d => d.parameters.length) = some 2 := by decide +kernel
theorem hdS_L_tryKeep : yL_tryKeep.cls ≠ "java/lang/invoke/MethodHandle" ∧ yL_tryKeep.cls ≠ "java/lang/invoke/VarHandle" ∧ (parseMethodDescriptor yL_tryKeep.desc).map (fun d => d.parameters.length) = some 2 := by decide +kernel
theorem hdS_L_tryLay : yL_tryLay.cls ≠ "java/lang/invoke/MethodHandle" ∧ yL_tryLay.cls ≠ "java/lang/invoke/VarHandle" ∧ (parseMethodDescriptor yL_tryLay.desc).map (fun d => d.parameters.length) = some 3 := by decide +kernel
theorem hdS_L_tryLoad : yL_tryLoad.cls ≠ "java/lang/invoke/MethodHandle" ∧ yL_tryLoad.cls ≠ "java/lang/invoke/VarHandle" ∧ (parseMethodDescriptor yL_tryLoad.desc).map (fun d => d.parameters.length) = some 1 := by decide +kernel
theorem hdS_L_tryNext : yL_tryNext.cls ≠ "java/lang/invoke/MethodHandle" ∧ yL_tryNext.cls ≠ "java/lang/invoke/VarHandle" ∧ (parseMethodDescriptor yL_tryNext.desc).map (fun d => d.parameters.length) = some 2 := by decide +kernel
theorem hdS_L_tryPin : yL_tryPin.cls ≠ "java/lang/invoke/MethodHandle" ∧ yL_tryPin.cls ≠ "java/lang/invoke/VarHandle" ∧ (parseMethodDescriptor yL_tryPin.desc).map (fun d => d.parameters.length) = some 4 := by decide +kernel
theorem hdS_L_tryPinned : yL_tryPinned.cls ≠ "java/lang/invoke/MethodHandle" ∧ yL_tryPinned.cls ≠ "java/lang/invoke/VarHandle" ∧ (parseMethodDescriptor yL_tryPinned.desc).map (fun d => d.parameters.length) = some 3 := by decide +kernel
theorem hdS_L_tryRange : yL_tryRange.cls ≠ "java/lang/invoke/MethodHandle" ∧ yL_tryRange.cls ≠ "java/lang/invoke/VarHandle" ∧ (parseMethodDescriptor yL_tryRange.desc).map (fun d => d.parameters.length) = some 3 := by decide +kernel
theorem hdS_L_tryRun : yL_tryRun.cls ≠ "java/lang/invoke/MethodHandle" ∧ yL_tryRun.cls ≠ "java/lang/invoke/VarHandle" ∧ (parseMethodDescriptor yL_tryRun.desc).map (fun d => d.parameters.length) = some 2 := by decide +kernel
theorem hdS_L_trySetting : yL_trySetting.cls ≠ "java/lang/invoke/MethodHandle" ∧ yL_trySetting.cls ≠ "java/lang/invoke/VarHandle" ∧ (parseMethodDescriptor yL_trySetting.desc).map (fun d => d.parameters.length) = some 2 := by decide +kernel
theorem hdS_L_tryUndo : yL_tryUndo.cls ≠ "java/lang/invoke/MethodHandle" ∧ yL_tryUndo.cls ≠ "java/lang/invoke/VarHandle" ∧ (parseMethodDescriptor yL_tryUndo.desc).map (fun d => d.parameters.length) = some 1 := by decide +kernel
theorem hdS_L_tryUnpin : yL_tryUnpin.cls ≠ "java/lang/invoke/MethodHandle" ∧ yL_tryUnpin.cls ≠ "java/lang/invoke/VarHandle" ∧ (parseMethodDescriptor yL_tryUnpin.desc).map (fun d => d.parameters.length) = some 2 := by decide +kernel
theorem hdS_L_tryWould : yL_tryWould.cls ≠ "java/lang/invoke/MethodHandle" ∧ yL_tryWould.cls ≠ "java/lang/invoke/VarHandle" ∧ (parseMethodDescriptor yL_tryWould.desc).map (fun d => d.parameters.length) = some 3 := by decide +kernel
theorem hdS_L_tryWrite : yL_tryWrite.cls ≠ "java/lang/invoke/MethodHandle" ∧ yL_tryWrite.cls ≠ "java/lang/invoke/VarHandle" ∧ (parseMethodDescriptor yL_tryWrite.desc).map (fun d => d.parameters.length) = some 3 := by decide +kernel
def fL_call (v : zXS) (a1 : Int32) (a2 : Int32) (a3 : Int32) (a4 : Int32) : Option (Int32 × zXS) :=
  if a1 = 0 then
    ob2 (fL_tryAppend v a2) fun r2 v2 =>
    some (r2, v2)
  else if a1 = 1 then
    ob2 (fL_tryLoad v ) fun r4 v4 =>
    some (r4, v4)
  else if a1 = 2 then
    ob2 (fL_tryAbout v a2) fun r6 v6 =>
    some (r6, v6)
  else if a1 = 3 then
    ob2 (fL_tryBlock v a2 a3) fun r8 v8 =>
    some (r8, v8)
  else if a1 = 4 then
    ob2 (fL_tryRange v a2 a3) fun r10 v10 =>
    some (r10, v10)
  else if a1 = 5 then
    ob2 (fL_tryPinned v a2 a3) fun r12 v12 =>
    some (r12, v12)
  else if a1 = 6 then
    ob2 (fL_trySetting v a2) fun r14 v14 =>
    some (r14, v14)
  else if a1 = 7 then
    ob2 (fL_tryWrite v a2 a3) fun r16 v16 =>
    some (r16, v16)
  else if a1 = 8 then
    ob2 (fL_tryFree v a2 a3) fun r18 v18 =>
    some (r18, v18)
  else if a1 = 9 then
    ob2 (fL_tryPin v a2 a3 a4) fun r20 v20 =>
    some (r20, v20)
  else if a1 = 10 then
    ob2 (fL_tryUnpin v a2) fun r22 v22 =>
    some (r22, v22)
  else if a1 = 11 then
    ob2 (fL_tryRun v a2) fun r24 v24 =>
    some (r24, v24)
  else if a1 = 12 then
    ob2 (fL_tryLay v a2 a3) fun r26 v26 =>
    some (r26, v26)
  else if a1 = 13 then
    ob2 (fL_tryUndo v ) fun r28 v28 =>
    some (r28, v28)
  else if a1 = 14 then
    ob2 (fL_tryNext v a2) fun r30 v30 =>
    some (r30, v30)
  else if a1 = 15 then
    ob2 (fL_tryGone v a2) fun r32 v32 =>
    some (r32, v32)
  else if a1 = 16 then
    ob2 (fL_tryComing v a2 a3) fun r34 v34 =>
    some (r34, v34)
  else if a1 = 17 then
    ob2 (fL_tryBest v a2) fun r36 v36 =>
    some (r36, v36)
  else if a1 = 18 then
    ob2 (fL_tryWould v a2 a3) fun r38 v38 =>
    some (r38, v38)
  else if a1 = 19 then
    ob2 (fL_tryKeep v a2) fun r40 v40 =>
    some (r40, v40)
  else ob2 (fL_tryBack v a2) fun r41 v41 =>
  some (r41, v41)
set_option maxRecDepth 100000 in
set_option maxHeartbeats 8000000 in
theorem kL_call (l : Launch) (g : zG) (h0 : Nat) (u : zAd) (v : zXS) (a1 : Int32) (a2 : Int32) (a3 : Int32) (a4 : Int32) (htr : l.stackTraces = false) {r : Int32} {v' : zXS} (h : fL_call v a1 a2 a3 a4 = some (r, v')) : Mn l g yL_call wsL_call { frames := 10, cells := 3, slots := 18, locals := 188 } [.ref h0, .int a1, .int a2, .int a3, .int a4] (zXW g h0 u v) (zWi g (zXW g h0 u v') r) 3 18 := by
  refine zn_in0 (cc := cL_call) (maxL := 5) (ret := (some .int)) (by decide) rfl (Nat.le_of_ble_eq_true rfl) ?_
  intro p e s m below meth c hx hb hr hml hts hown hlocks hK hN A hA hP hD hS hAm ls hl
  replace hl : lv_has ls 5 [(0, .ref h0), (1, .int a1), (2, .int a2), (3, .int a3), (4, .int a4)] := hl
  unfold fL_call at h
  refine lv_iload_n hx hb dL_call_0 rfl (lv_at hl 1 rfl) ?_
  by_cases c1 : a1 = 0
  · replace h := zt c1 h
    refine lv_tableIn (tgt := 96) (off := 95) hx hb dL_call_1 (by rw [c1]; decide) (by rw [c1]; decide) (by rw [c1]; rfl) (by decide) ?_
    refine lv_aload_n hx hb dL_call_96 rfl (lv_at hl 0 rfl) ?_
    refine lv_iload_n hx hb dL_call_97 rfl (lv_at hl 2 rfl) ?_
    obtain ⟨r2, v2, e2, h⟩ := zb2 h
    refine zLSw (w := (zXW g h0 u v)) (wr := []) (wc := (zXW g h0 u v)) (wq := (zXW g h0 u v2)) (wp := (zXW g h0 u v2)) (As := [.ref h0, .int a2]) (rest := []) (zWi_q g _ _) ⟨hx, hb, hml, hown, hts⟩ (kL_tryAppend l g h0 u v a2 htr e2) (vx_cwSW 2 hts gL_call_L_tryAppend rfl rfl rfl hdS_L_tryAppend ⟨Nat.le_of_ble_eq_true rfl, Nat.le_of_ble_eq_true rfl⟩) hK hP hD hS hA hAm hN (zXW_fst g h0 u _ _) (List.Perm.refl _) (List.Perm.refl _) rfl hl.1 rfl (Nat.le_of_ble_eq_true rfl) ⟨by show _ ≤ 3; omega, by show _ ≤ 18; omega⟩ dL_call_98 (fun H locs hP hD hS => ?_)
    replace hP : zP g (zXW g h0 u v2) H := hP
    replace hD : va_D A (zXW g h0 u v2) := hD
    cases h
    exact W.widen (by omega) (by omega) (zw_i hx hb hr hlocks hP hS dL_call_101)
  replace h := zf c1 h
  by_cases c3 : a1 = 1
  · replace h := zt c3 h
    refine lv_tableIn (tgt := 102) (off := 101) hx hb dL_call_1 (by rw [c3]; decide) (by rw [c3]; decide) (by rw [c3]; rfl) (by decide) ?_
    refine lv_aload_n hx hb dL_call_102 rfl (lv_at hl 0 rfl) ?_
    obtain ⟨r4, v4, e4, h⟩ := zb2 h
    refine zLSw (w := (zXW g h0 u v)) (wr := []) (wc := (zXW g h0 u v)) (wq := (zXW g h0 u v4)) (wp := (zXW g h0 u v4)) (As := [.ref h0]) (rest := []) (zWi_q g _ _) ⟨hx, hb, hml, hown, hts⟩ (kL_tryLoad l g h0 u v  htr e4) (vx_cwSW 1 hts gL_call_L_tryLoad rfl rfl rfl hdS_L_tryLoad ⟨Nat.le_of_ble_eq_true rfl, Nat.le_of_ble_eq_true rfl⟩) hK hP hD hS hA hAm hN (zXW_fst g h0 u _ _) (List.Perm.refl _) (List.Perm.refl _) rfl hl.1 rfl (Nat.le_of_ble_eq_true rfl) ⟨by show _ ≤ 3; omega, by show _ ≤ 18; omega⟩ dL_call_103 (fun H locs hP hD hS => ?_)
    replace hP : zP g (zXW g h0 u v4) H := hP
    replace hD : va_D A (zXW g h0 u v4) := hD
    cases h
    exact W.widen (by omega) (by omega) (zw_i hx hb hr hlocks hP hS dL_call_106)
  replace h := zf c3 h
  by_cases c5 : a1 = 2
  · replace h := zt c5 h
    refine lv_tableIn (tgt := 107) (off := 106) hx hb dL_call_1 (by rw [c5]; decide) (by rw [c5]; decide) (by rw [c5]; rfl) (by decide) ?_
    refine lv_aload_n hx hb dL_call_107 rfl (lv_at hl 0 rfl) ?_
    refine lv_iload_n hx hb dL_call_108 rfl (lv_at hl 2 rfl) ?_
    obtain ⟨r6, v6, e6, h⟩ := zb2 h
    refine zLSw (w := (zXW g h0 u v)) (wr := []) (wc := (zXW g h0 u v)) (wq := (zXW g h0 u v6)) (wp := (zXW g h0 u v6)) (As := [.ref h0, .int a2]) (rest := []) (zWi_q g _ _) ⟨hx, hb, hml, hown, hts⟩ (kL_tryAbout l g h0 u v a2 htr e6) (vx_cwSW 2 hts gL_call_L_tryAbout rfl rfl rfl hdS_L_tryAbout ⟨Nat.le_of_ble_eq_true rfl, Nat.le_of_ble_eq_true rfl⟩) hK hP hD hS hA hAm hN (zXW_fst g h0 u _ _) (List.Perm.refl _) (List.Perm.refl _) rfl hl.1 rfl (Nat.le_of_ble_eq_true rfl) ⟨by show _ ≤ 3; omega, by show _ ≤ 18; omega⟩ dL_call_109 (fun H locs hP hD hS => ?_)
    replace hP : zP g (zXW g h0 u v6) H := hP
    replace hD : va_D A (zXW g h0 u v6) := hD
    cases h
    exact W.widen (by omega) (by omega) (zw_i hx hb hr hlocks hP hS dL_call_112)
  replace h := zf c5 h
  by_cases c7 : a1 = 3
  · replace h := zt c7 h
    refine lv_tableIn (tgt := 113) (off := 112) hx hb dL_call_1 (by rw [c7]; decide) (by rw [c7]; decide) (by rw [c7]; rfl) (by decide) ?_
    refine lv_aload_n hx hb dL_call_113 rfl (lv_at hl 0 rfl) ?_
    refine lv_iload_n hx hb dL_call_114 rfl (lv_at hl 2 rfl) ?_
    refine lv_iload_n hx hb dL_call_115 rfl (lv_at hl 3 rfl) ?_
    obtain ⟨r8, v8, e8, h⟩ := zb2 h
    refine zLSw (w := (zXW g h0 u v)) (wr := []) (wc := (zXW g h0 u v)) (wq := (zXW g h0 u v8)) (wp := (zXW g h0 u v8)) (As := [.ref h0, .int a2, .int a3]) (rest := []) (zWi_q g _ _) ⟨hx, hb, hml, hown, hts⟩ (kL_tryBlock l g h0 u v a2 a3 htr e8) (vx_cwSW 3 hts gL_call_L_tryBlock rfl rfl rfl hdS_L_tryBlock ⟨Nat.le_of_ble_eq_true rfl, Nat.le_of_ble_eq_true rfl⟩) hK hP hD hS hA hAm hN (zXW_fst g h0 u _ _) (List.Perm.refl _) (List.Perm.refl _) rfl hl.1 rfl (Nat.le_of_ble_eq_true rfl) ⟨by show _ ≤ 3; omega, by show _ ≤ 18; omega⟩ dL_call_116 (fun H locs hP hD hS => ?_)
    replace hP : zP g (zXW g h0 u v8) H := hP
    replace hD : va_D A (zXW g h0 u v8) := hD
    cases h
    exact W.widen (by omega) (by omega) (zw_i hx hb hr hlocks hP hS dL_call_119)
  replace h := zf c7 h
  by_cases c9 : a1 = 4
  · replace h := zt c9 h
    refine lv_tableIn (tgt := 120) (off := 119) hx hb dL_call_1 (by rw [c9]; decide) (by rw [c9]; decide) (by rw [c9]; rfl) (by decide) ?_
    refine lv_aload_n hx hb dL_call_120 rfl (lv_at hl 0 rfl) ?_
    refine lv_iload_n hx hb dL_call_121 rfl (lv_at hl 2 rfl) ?_
    refine lv_iload_n hx hb dL_call_122 rfl (lv_at hl 3 rfl) ?_
    obtain ⟨r10, v10, e10, h⟩ := zb2 h
    refine zLSw (w := (zXW g h0 u v)) (wr := []) (wc := (zXW g h0 u v)) (wq := (zXW g h0 u v10)) (wp := (zXW g h0 u v10)) (As := [.ref h0, .int a2, .int a3]) (rest := []) (zWi_q g _ _) ⟨hx, hb, hml, hown, hts⟩ (kL_tryRange l g h0 u v a2 a3 htr e10) (vx_cwSW 3 hts gL_call_L_tryRange rfl rfl rfl hdS_L_tryRange ⟨Nat.le_of_ble_eq_true rfl, Nat.le_of_ble_eq_true rfl⟩) hK hP hD hS hA hAm hN (zXW_fst g h0 u _ _) (List.Perm.refl _) (List.Perm.refl _) rfl hl.1 rfl (Nat.le_of_ble_eq_true rfl) ⟨by show _ ≤ 3; omega, by show _ ≤ 18; omega⟩ dL_call_123 (fun H locs hP hD hS => ?_)
    replace hP : zP g (zXW g h0 u v10) H := hP
    replace hD : va_D A (zXW g h0 u v10) := hD
    cases h
    exact W.widen (by omega) (by omega) (zw_i hx hb hr hlocks hP hS dL_call_126)
  replace h := zf c9 h
  by_cases c11 : a1 = 5
  · replace h := zt c11 h
    refine lv_tableIn (tgt := 127) (off := 126) hx hb dL_call_1 (by rw [c11]; decide) (by rw [c11]; decide) (by rw [c11]; rfl) (by decide) ?_
    refine lv_aload_n hx hb dL_call_127 rfl (lv_at hl 0 rfl) ?_
    refine lv_iload_n hx hb dL_call_128 rfl (lv_at hl 2 rfl) ?_
    refine lv_iload_n hx hb dL_call_129 rfl (lv_at hl 3 rfl) ?_
    obtain ⟨r12, v12, e12, h⟩ := zb2 h
    refine zLSw (w := (zXW g h0 u v)) (wr := []) (wc := (zXW g h0 u v)) (wq := (zXW g h0 u v12)) (wp := (zXW g h0 u v12)) (As := [.ref h0, .int a2, .int a3]) (rest := []) (zWi_q g _ _) ⟨hx, hb, hml, hown, hts⟩ (kL_tryPinned l g h0 u v a2 a3 htr e12) (vx_cwSW 3 hts gL_call_L_tryPinned rfl rfl rfl hdS_L_tryPinned ⟨Nat.le_of_ble_eq_true rfl, Nat.le_of_ble_eq_true rfl⟩) hK hP hD hS hA hAm hN (zXW_fst g h0 u _ _) (List.Perm.refl _) (List.Perm.refl _) rfl hl.1 rfl (Nat.le_of_ble_eq_true rfl) ⟨by show _ ≤ 3; omega, by show _ ≤ 18; omega⟩ dL_call_130 (fun H locs hP hD hS => ?_)
    replace hP : zP g (zXW g h0 u v12) H := hP
    replace hD : va_D A (zXW g h0 u v12) := hD
    cases h
    exact W.widen (by omega) (by omega) (zw_i hx hb hr hlocks hP hS dL_call_133)
  replace h := zf c11 h
  by_cases c13 : a1 = 6
  · replace h := zt c13 h
    refine lv_tableIn (tgt := 134) (off := 133) hx hb dL_call_1 (by rw [c13]; decide) (by rw [c13]; decide) (by rw [c13]; rfl) (by decide) ?_
    refine lv_aload_n hx hb dL_call_134 rfl (lv_at hl 0 rfl) ?_
    refine lv_iload_n hx hb dL_call_135 rfl (lv_at hl 2 rfl) ?_
    obtain ⟨r14, v14, e14, h⟩ := zb2 h
    refine zLSw (w := (zXW g h0 u v)) (wr := []) (wc := (zXW g h0 u v)) (wq := (zXW g h0 u v14)) (wp := (zXW g h0 u v14)) (As := [.ref h0, .int a2]) (rest := []) (zWi_q g _ _) ⟨hx, hb, hml, hown, hts⟩ (kL_trySetting l g h0 u v a2 htr e14) (vx_cwSW 2 hts gL_call_L_trySetting rfl rfl rfl hdS_L_trySetting ⟨Nat.le_of_ble_eq_true rfl, Nat.le_of_ble_eq_true rfl⟩) hK hP hD hS hA hAm hN (zXW_fst g h0 u _ _) (List.Perm.refl _) (List.Perm.refl _) rfl hl.1 rfl (Nat.le_of_ble_eq_true rfl) ⟨by show _ ≤ 3; omega, by show _ ≤ 18; omega⟩ dL_call_136 (fun H locs hP hD hS => ?_)
    replace hP : zP g (zXW g h0 u v14) H := hP
    replace hD : va_D A (zXW g h0 u v14) := hD
    cases h
    exact W.widen (by omega) (by omega) (zw_i hx hb hr hlocks hP hS dL_call_139)
  replace h := zf c13 h
  by_cases c15 : a1 = 7
  · replace h := zt c15 h
    refine lv_tableIn (tgt := 140) (off := 139) hx hb dL_call_1 (by rw [c15]; decide) (by rw [c15]; decide) (by rw [c15]; rfl) (by decide) ?_
    refine lv_aload_n hx hb dL_call_140 rfl (lv_at hl 0 rfl) ?_
    refine lv_iload_n hx hb dL_call_141 rfl (lv_at hl 2 rfl) ?_
    refine lv_iload_n hx hb dL_call_142 rfl (lv_at hl 3 rfl) ?_
    obtain ⟨r16, v16, e16, h⟩ := zb2 h
    refine zLSw (w := (zXW g h0 u v)) (wr := []) (wc := (zXW g h0 u v)) (wq := (zXW g h0 u v16)) (wp := (zXW g h0 u v16)) (As := [.ref h0, .int a2, .int a3]) (rest := []) (zWi_q g _ _) ⟨hx, hb, hml, hown, hts⟩ (kL_tryWrite l g h0 u v a2 a3 htr e16) (vx_cwSW 3 hts gL_call_L_tryWrite rfl rfl rfl hdS_L_tryWrite ⟨Nat.le_of_ble_eq_true rfl, Nat.le_of_ble_eq_true rfl⟩) hK hP hD hS hA hAm hN (zXW_fst g h0 u _ _) (List.Perm.refl _) (List.Perm.refl _) rfl hl.1 rfl (Nat.le_of_ble_eq_true rfl) ⟨by show _ ≤ 3; omega, by show _ ≤ 18; omega⟩ dL_call_143 (fun H locs hP hD hS => ?_)
    replace hP : zP g (zXW g h0 u v16) H := hP
    replace hD : va_D A (zXW g h0 u v16) := hD
    cases h
    exact W.widen (by omega) (by omega) (zw_i hx hb hr hlocks hP hS dL_call_146)
  replace h := zf c15 h
  by_cases c17 : a1 = 8
  · replace h := zt c17 h
    refine lv_tableIn (tgt := 147) (off := 146) hx hb dL_call_1 (by rw [c17]; decide) (by rw [c17]; decide) (by rw [c17]; rfl) (by decide) ?_
    refine lv_aload_n hx hb dL_call_147 rfl (lv_at hl 0 rfl) ?_
    refine lv_iload_n hx hb dL_call_148 rfl (lv_at hl 2 rfl) ?_
    refine lv_iload_n hx hb dL_call_149 rfl (lv_at hl 3 rfl) ?_
    obtain ⟨r18, v18, e18, h⟩ := zb2 h
    refine zLSw (w := (zXW g h0 u v)) (wr := []) (wc := (zXW g h0 u v)) (wq := (zXW g h0 u v18)) (wp := (zXW g h0 u v18)) (As := [.ref h0, .int a2, .int a3]) (rest := []) (zWi_q g _ _) ⟨hx, hb, hml, hown, hts⟩ (kL_tryFree l g h0 u v a2 a3 htr e18) (vx_cwSW 3 hts gL_call_L_tryFree rfl rfl rfl hdS_L_tryFree ⟨Nat.le_of_ble_eq_true rfl, Nat.le_of_ble_eq_true rfl⟩) hK hP hD hS hA hAm hN (zXW_fst g h0 u _ _) (List.Perm.refl _) (List.Perm.refl _) rfl hl.1 rfl (Nat.le_of_ble_eq_true rfl) ⟨by show _ ≤ 3; omega, by show _ ≤ 18; omega⟩ dL_call_150 (fun H locs hP hD hS => ?_)
    replace hP : zP g (zXW g h0 u v18) H := hP
    replace hD : va_D A (zXW g h0 u v18) := hD
    cases h
    exact W.widen (by omega) (by omega) (zw_i hx hb hr hlocks hP hS dL_call_153)
  replace h := zf c17 h
  by_cases c19 : a1 = 9
  · replace h := zt c19 h
    refine lv_tableIn (tgt := 154) (off := 153) hx hb dL_call_1 (by rw [c19]; decide) (by rw [c19]; decide) (by rw [c19]; rfl) (by decide) ?_
    refine lv_aload_n hx hb dL_call_154 rfl (lv_at hl 0 rfl) ?_
    refine lv_iload_n hx hb dL_call_155 rfl (lv_at hl 2 rfl) ?_
    refine lv_iload_n hx hb dL_call_156 rfl (lv_at hl 3 rfl) ?_
    refine lv_iload hx hb dL_call_157 (lv_at hl 4 rfl) ?_
    obtain ⟨r20, v20, e20, h⟩ := zb2 h
    refine zLSw (w := (zXW g h0 u v)) (wr := []) (wc := (zXW g h0 u v)) (wq := (zXW g h0 u v20)) (wp := (zXW g h0 u v20)) (As := [.ref h0, .int a2, .int a3, .int a4]) (rest := []) (zWi_q g _ _) ⟨hx, hb, hml, hown, hts⟩ (kL_tryPin l g h0 u v a2 a3 a4 htr e20) (vx_cwSW 4 hts gL_call_L_tryPin rfl rfl rfl hdS_L_tryPin ⟨Nat.le_of_ble_eq_true rfl, Nat.le_of_ble_eq_true rfl⟩) hK hP hD hS hA hAm hN (zXW_fst g h0 u _ _) (List.Perm.refl _) (List.Perm.refl _) rfl hl.1 rfl (Nat.le_of_ble_eq_true rfl) ⟨by show _ ≤ 3; omega, by show _ ≤ 18; omega⟩ dL_call_159 (fun H locs hP hD hS => ?_)
    replace hP : zP g (zXW g h0 u v20) H := hP
    replace hD : va_D A (zXW g h0 u v20) := hD
    cases h
    exact W.widen (by omega) (by omega) (zw_i hx hb hr hlocks hP hS dL_call_162)
  replace h := zf c19 h
  by_cases c21 : a1 = 10
  · replace h := zt c21 h
    refine lv_tableIn (tgt := 163) (off := 162) hx hb dL_call_1 (by rw [c21]; decide) (by rw [c21]; decide) (by rw [c21]; rfl) (by decide) ?_
    refine lv_aload_n hx hb dL_call_163 rfl (lv_at hl 0 rfl) ?_
    refine lv_iload_n hx hb dL_call_164 rfl (lv_at hl 2 rfl) ?_
    obtain ⟨r22, v22, e22, h⟩ := zb2 h
    refine zLSw (w := (zXW g h0 u v)) (wr := []) (wc := (zXW g h0 u v)) (wq := (zXW g h0 u v22)) (wp := (zXW g h0 u v22)) (As := [.ref h0, .int a2]) (rest := []) (zWi_q g _ _) ⟨hx, hb, hml, hown, hts⟩ (kL_tryUnpin l g h0 u v a2 htr e22) (vx_cwSW 2 hts gL_call_L_tryUnpin rfl rfl rfl hdS_L_tryUnpin ⟨Nat.le_of_ble_eq_true rfl, Nat.le_of_ble_eq_true rfl⟩) hK hP hD hS hA hAm hN (zXW_fst g h0 u _ _) (List.Perm.refl _) (List.Perm.refl _) rfl hl.1 rfl (Nat.le_of_ble_eq_true rfl) ⟨by show _ ≤ 3; omega, by show _ ≤ 18; omega⟩ dL_call_165 (fun H locs hP hD hS => ?_)
    replace hP : zP g (zXW g h0 u v22) H := hP
    replace hD : va_D A (zXW g h0 u v22) := hD
    cases h
    exact W.widen (by omega) (by omega) (zw_i hx hb hr hlocks hP hS dL_call_168)
  replace h := zf c21 h
  by_cases c23 : a1 = 11
  · replace h := zt c23 h
    refine lv_tableIn (tgt := 169) (off := 168) hx hb dL_call_1 (by rw [c23]; decide) (by rw [c23]; decide) (by rw [c23]; rfl) (by decide) ?_
    refine lv_aload_n hx hb dL_call_169 rfl (lv_at hl 0 rfl) ?_
    refine lv_iload_n hx hb dL_call_170 rfl (lv_at hl 2 rfl) ?_
    obtain ⟨r24, v24, e24, h⟩ := zb2 h
    refine zLSw (w := (zXW g h0 u v)) (wr := []) (wc := (zXW g h0 u v)) (wq := (zXW g h0 u v24)) (wp := (zXW g h0 u v24)) (As := [.ref h0, .int a2]) (rest := []) (zWi_q g _ _) ⟨hx, hb, hml, hown, hts⟩ (kL_tryRun l g h0 u v a2 htr e24) (vx_cwSW 2 hts gL_call_L_tryRun rfl rfl rfl hdS_L_tryRun ⟨Nat.le_of_ble_eq_true rfl, Nat.le_of_ble_eq_true rfl⟩) hK hP hD hS hA hAm hN (zXW_fst g h0 u _ _) (List.Perm.refl _) (List.Perm.refl _) rfl hl.1 rfl (Nat.le_of_ble_eq_true rfl) ⟨by show _ ≤ 3; omega, by show _ ≤ 18; omega⟩ dL_call_171 (fun H locs hP hD hS => ?_)
    replace hP : zP g (zXW g h0 u v24) H := hP
    replace hD : va_D A (zXW g h0 u v24) := hD
    cases h
    exact W.widen (by omega) (by omega) (zw_i hx hb hr hlocks hP hS dL_call_174)
  replace h := zf c23 h
  by_cases c25 : a1 = 12
  · replace h := zt c25 h
    refine lv_tableIn (tgt := 175) (off := 174) hx hb dL_call_1 (by rw [c25]; decide) (by rw [c25]; decide) (by rw [c25]; rfl) (by decide) ?_
    refine lv_aload_n hx hb dL_call_175 rfl (lv_at hl 0 rfl) ?_
    refine lv_iload_n hx hb dL_call_176 rfl (lv_at hl 2 rfl) ?_
    refine lv_iload_n hx hb dL_call_177 rfl (lv_at hl 3 rfl) ?_
    obtain ⟨r26, v26, e26, h⟩ := zb2 h
    refine zLSw (w := (zXW g h0 u v)) (wr := []) (wc := (zXW g h0 u v)) (wq := (zXW g h0 u v26)) (wp := (zXW g h0 u v26)) (As := [.ref h0, .int a2, .int a3]) (rest := []) (zWi_q g _ _) ⟨hx, hb, hml, hown, hts⟩ (kL_tryLay l g h0 u v a2 a3 htr e26) (vx_cwSW 3 hts gL_call_L_tryLay rfl rfl rfl hdS_L_tryLay ⟨Nat.le_of_ble_eq_true rfl, Nat.le_of_ble_eq_true rfl⟩) hK hP hD hS hA hAm hN (zXW_fst g h0 u _ _) (List.Perm.refl _) (List.Perm.refl _) rfl hl.1 rfl (Nat.le_of_ble_eq_true rfl) ⟨by show _ ≤ 3; omega, by show _ ≤ 18; omega⟩ dL_call_178 (fun H locs hP hD hS => ?_)
    replace hP : zP g (zXW g h0 u v26) H := hP
    replace hD : va_D A (zXW g h0 u v26) := hD
    cases h
    exact W.widen (by omega) (by omega) (zw_i hx hb hr hlocks hP hS dL_call_181)
  replace h := zf c25 h
  by_cases c27 : a1 = 13
  · replace h := zt c27 h
    refine lv_tableIn (tgt := 182) (off := 181) hx hb dL_call_1 (by rw [c27]; decide) (by rw [c27]; decide) (by rw [c27]; rfl) (by decide) ?_
    refine lv_aload_n hx hb dL_call_182 rfl (lv_at hl 0 rfl) ?_
    obtain ⟨r28, v28, e28, h⟩ := zb2 h
    refine zLSw (w := (zXW g h0 u v)) (wr := []) (wc := (zXW g h0 u v)) (wq := (zXW g h0 u v28)) (wp := (zXW g h0 u v28)) (As := [.ref h0]) (rest := []) (zWi_q g _ _) ⟨hx, hb, hml, hown, hts⟩ (kL_tryUndo l g h0 u v  htr e28) (vx_cwSW 1 hts gL_call_L_tryUndo rfl rfl rfl hdS_L_tryUndo ⟨Nat.le_of_ble_eq_true rfl, Nat.le_of_ble_eq_true rfl⟩) hK hP hD hS hA hAm hN (zXW_fst g h0 u _ _) (List.Perm.refl _) (List.Perm.refl _) rfl hl.1 rfl (Nat.le_of_ble_eq_true rfl) ⟨by show _ ≤ 3; omega, by show _ ≤ 18; omega⟩ dL_call_183 (fun H locs hP hD hS => ?_)
    replace hP : zP g (zXW g h0 u v28) H := hP
    replace hD : va_D A (zXW g h0 u v28) := hD
    cases h
    exact W.widen (by omega) (by omega) (zw_i hx hb hr hlocks hP hS dL_call_186)
  replace h := zf c27 h
  by_cases c29 : a1 = 14
  · replace h := zt c29 h
    refine lv_tableIn (tgt := 187) (off := 186) hx hb dL_call_1 (by rw [c29]; decide) (by rw [c29]; decide) (by rw [c29]; rfl) (by decide) ?_
    refine lv_aload_n hx hb dL_call_187 rfl (lv_at hl 0 rfl) ?_
    refine lv_iload_n hx hb dL_call_188 rfl (lv_at hl 2 rfl) ?_
    obtain ⟨r30, v30, e30, h⟩ := zb2 h
    refine zLSw (w := (zXW g h0 u v)) (wr := []) (wc := (zXW g h0 u v)) (wq := (zXW g h0 u v30)) (wp := (zXW g h0 u v30)) (As := [.ref h0, .int a2]) (rest := []) (zWi_q g _ _) ⟨hx, hb, hml, hown, hts⟩ (kL_tryNext l g h0 u v a2 htr e30) (vx_cwSW 2 hts gL_call_L_tryNext rfl rfl rfl hdS_L_tryNext ⟨Nat.le_of_ble_eq_true rfl, Nat.le_of_ble_eq_true rfl⟩) hK hP hD hS hA hAm hN (zXW_fst g h0 u _ _) (List.Perm.refl _) (List.Perm.refl _) rfl hl.1 rfl (Nat.le_of_ble_eq_true rfl) ⟨by show _ ≤ 3; omega, by show _ ≤ 18; omega⟩ dL_call_189 (fun H locs hP hD hS => ?_)
    replace hP : zP g (zXW g h0 u v30) H := hP
    replace hD : va_D A (zXW g h0 u v30) := hD
    cases h
    exact W.widen (by omega) (by omega) (zw_i hx hb hr hlocks hP hS dL_call_192)
  replace h := zf c29 h
  by_cases c31 : a1 = 15
  · replace h := zt c31 h
    refine lv_tableIn (tgt := 193) (off := 192) hx hb dL_call_1 (by rw [c31]; decide) (by rw [c31]; decide) (by rw [c31]; rfl) (by decide) ?_
    refine lv_aload_n hx hb dL_call_193 rfl (lv_at hl 0 rfl) ?_
    refine lv_iload_n hx hb dL_call_194 rfl (lv_at hl 2 rfl) ?_
    obtain ⟨r32, v32, e32, h⟩ := zb2 h
    refine zLSw (w := (zXW g h0 u v)) (wr := []) (wc := (zXW g h0 u v)) (wq := (zXW g h0 u v32)) (wp := (zXW g h0 u v32)) (As := [.ref h0, .int a2]) (rest := []) (zWi_q g _ _) ⟨hx, hb, hml, hown, hts⟩ (kL_tryGone l g h0 u v a2 htr e32) (vx_cwSW 2 hts gL_call_L_tryGone rfl rfl rfl hdS_L_tryGone ⟨Nat.le_of_ble_eq_true rfl, Nat.le_of_ble_eq_true rfl⟩) hK hP hD hS hA hAm hN (zXW_fst g h0 u _ _) (List.Perm.refl _) (List.Perm.refl _) rfl hl.1 rfl (Nat.le_of_ble_eq_true rfl) ⟨by show _ ≤ 3; omega, by show _ ≤ 18; omega⟩ dL_call_195 (fun H locs hP hD hS => ?_)
    replace hP : zP g (zXW g h0 u v32) H := hP
    replace hD : va_D A (zXW g h0 u v32) := hD
    cases h
    exact W.widen (by omega) (by omega) (zw_i hx hb hr hlocks hP hS dL_call_198)
  replace h := zf c31 h
  by_cases c33 : a1 = 16
  · replace h := zt c33 h
    refine lv_tableIn (tgt := 199) (off := 198) hx hb dL_call_1 (by rw [c33]; decide) (by rw [c33]; decide) (by rw [c33]; rfl) (by decide) ?_
    refine lv_aload_n hx hb dL_call_199 rfl (lv_at hl 0 rfl) ?_
    refine lv_iload_n hx hb dL_call_200 rfl (lv_at hl 2 rfl) ?_
    refine lv_iload_n hx hb dL_call_201 rfl (lv_at hl 3 rfl) ?_
    obtain ⟨r34, v34, e34, h⟩ := zb2 h
    refine zLSw (w := (zXW g h0 u v)) (wr := []) (wc := (zXW g h0 u v)) (wq := (zXW g h0 u v34)) (wp := (zXW g h0 u v34)) (As := [.ref h0, .int a2, .int a3]) (rest := []) (zWi_q g _ _) ⟨hx, hb, hml, hown, hts⟩ (kL_tryComing l g h0 u v a2 a3 htr e34) (vx_cwSW 3 hts gL_call_L_tryComing rfl rfl rfl hdS_L_tryComing ⟨Nat.le_of_ble_eq_true rfl, Nat.le_of_ble_eq_true rfl⟩) hK hP hD hS hA hAm hN (zXW_fst g h0 u _ _) (List.Perm.refl _) (List.Perm.refl _) rfl hl.1 rfl (Nat.le_of_ble_eq_true rfl) ⟨by show _ ≤ 3; omega, by show _ ≤ 18; omega⟩ dL_call_202 (fun H locs hP hD hS => ?_)
    replace hP : zP g (zXW g h0 u v34) H := hP
    replace hD : va_D A (zXW g h0 u v34) := hD
    cases h
    exact W.widen (by omega) (by omega) (zw_i hx hb hr hlocks hP hS dL_call_205)
  replace h := zf c33 h
  by_cases c35 : a1 = 17
  · replace h := zt c35 h
    refine lv_tableIn (tgt := 206) (off := 205) hx hb dL_call_1 (by rw [c35]; decide) (by rw [c35]; decide) (by rw [c35]; rfl) (by decide) ?_
    refine lv_aload_n hx hb dL_call_206 rfl (lv_at hl 0 rfl) ?_
    refine lv_iload_n hx hb dL_call_207 rfl (lv_at hl 2 rfl) ?_
    obtain ⟨r36, v36, e36, h⟩ := zb2 h
    refine zLSw (w := (zXW g h0 u v)) (wr := []) (wc := (zXW g h0 u v)) (wq := (zXW g h0 u v36)) (wp := (zXW g h0 u v36)) (As := [.ref h0, .int a2]) (rest := []) (zWi_q g _ _) ⟨hx, hb, hml, hown, hts⟩ (kL_tryBest l g h0 u v a2 htr e36) (vx_cwSW 2 hts gL_call_L_tryBest rfl rfl rfl hdS_L_tryBest ⟨Nat.le_of_ble_eq_true rfl, Nat.le_of_ble_eq_true rfl⟩) hK hP hD hS hA hAm hN (zXW_fst g h0 u _ _) (List.Perm.refl _) (List.Perm.refl _) rfl hl.1 rfl (Nat.le_of_ble_eq_true rfl) ⟨by show _ ≤ 3; omega, by show _ ≤ 18; omega⟩ dL_call_208 (fun H locs hP hD hS => ?_)
    replace hP : zP g (zXW g h0 u v36) H := hP
    replace hD : va_D A (zXW g h0 u v36) := hD
    cases h
    exact W.widen (by omega) (by omega) (zw_i hx hb hr hlocks hP hS dL_call_211)
  replace h := zf c35 h
  by_cases c37 : a1 = 18
  · replace h := zt c37 h
    refine lv_tableIn (tgt := 212) (off := 211) hx hb dL_call_1 (by rw [c37]; decide) (by rw [c37]; decide) (by rw [c37]; rfl) (by decide) ?_
    refine lv_aload_n hx hb dL_call_212 rfl (lv_at hl 0 rfl) ?_
    refine lv_iload_n hx hb dL_call_213 rfl (lv_at hl 2 rfl) ?_
    refine lv_iload_n hx hb dL_call_214 rfl (lv_at hl 3 rfl) ?_
    obtain ⟨r38, v38, e38, h⟩ := zb2 h
    refine zLSw (w := (zXW g h0 u v)) (wr := []) (wc := (zXW g h0 u v)) (wq := (zXW g h0 u v38)) (wp := (zXW g h0 u v38)) (As := [.ref h0, .int a2, .int a3]) (rest := []) (zWi_q g _ _) ⟨hx, hb, hml, hown, hts⟩ (kL_tryWould l g h0 u v a2 a3 htr e38) (vx_cwSW 3 hts gL_call_L_tryWould rfl rfl rfl hdS_L_tryWould ⟨Nat.le_of_ble_eq_true rfl, Nat.le_of_ble_eq_true rfl⟩) hK hP hD hS hA hAm hN (zXW_fst g h0 u _ _) (List.Perm.refl _) (List.Perm.refl _) rfl hl.1 rfl (Nat.le_of_ble_eq_true rfl) ⟨by show _ ≤ 3; omega, by show _ ≤ 18; omega⟩ dL_call_215 (fun H locs hP hD hS => ?_)
    replace hP : zP g (zXW g h0 u v38) H := hP
    replace hD : va_D A (zXW g h0 u v38) := hD
    cases h
    exact W.widen (by omega) (by omega) (zw_i hx hb hr hlocks hP hS dL_call_218)
  replace h := zf c37 h
  by_cases c39 : a1 = 19
  · replace h := zt c39 h
    refine lv_tableIn (tgt := 219) (off := 218) hx hb dL_call_1 (by rw [c39]; decide) (by rw [c39]; decide) (by rw [c39]; rfl) (by decide) ?_
    refine lv_aload_n hx hb dL_call_219 rfl (lv_at hl 0 rfl) ?_
    refine lv_iload_n hx hb dL_call_220 rfl (lv_at hl 2 rfl) ?_
    obtain ⟨r40, v40, e40, h⟩ := zb2 h
    refine zLSw (w := (zXW g h0 u v)) (wr := []) (wc := (zXW g h0 u v)) (wq := (zXW g h0 u v40)) (wp := (zXW g h0 u v40)) (As := [.ref h0, .int a2]) (rest := []) (zWi_q g _ _) ⟨hx, hb, hml, hown, hts⟩ (kL_tryKeep l g h0 u v a2 htr e40) (vx_cwSW 2 hts gL_call_L_tryKeep rfl rfl rfl hdS_L_tryKeep ⟨Nat.le_of_ble_eq_true rfl, Nat.le_of_ble_eq_true rfl⟩) hK hP hD hS hA hAm hN (zXW_fst g h0 u _ _) (List.Perm.refl _) (List.Perm.refl _) rfl hl.1 rfl (Nat.le_of_ble_eq_true rfl) ⟨by show _ ≤ 3; omega, by show _ ≤ 18; omega⟩ dL_call_221 (fun H locs hP hD hS => ?_)
    replace hP : zP g (zXW g h0 u v40) H := hP
    replace hD : va_D A (zXW g h0 u v40) := hD
    cases h
    exact W.widen (by omega) (by omega) (zw_i hx hb hr hlocks hP hS dL_call_224)
  replace h := zf c39 h
  refine lv_tableOut (tgt := 225) hx hb dL_call_1 (by have n1 := lv_neT (a := 0) c1 (by decide); have n3 := lv_neT (a := 1) c3 (by decide); have n5 := lv_neT (a := 2) c5 (by decide); have n7 := lv_neT (a := 3) c7 (by decide); have n9 := lv_neT (a := 4) c9 (by decide); have n11 := lv_neT (a := 5) c11 (by decide); have n13 := lv_neT (a := 6) c13 (by decide); have n15 := lv_neT (a := 7) c15 (by decide); have n17 := lv_neT (a := 8) c17 (by decide); have n19 := lv_neT (a := 9) c19 (by decide); have n21 := lv_neT (a := 10) c21 (by decide); have n23 := lv_neT (a := 11) c23 (by decide); have n25 := lv_neT (a := 12) c25 (by decide); have n27 := lv_neT (a := 13) c27 (by decide); have n29 := lv_neT (a := 14) c29 (by decide); have n31 := lv_neT (a := 15) c31 (by decide); have n33 := lv_neT (a := 16) c33 (by decide); have n35 := lv_neT (a := 17) c35 (by decide); have n37 := lv_neT (a := 18) c37 (by decide); have n39 := lv_neT (a := 19) c39 (by decide); omega) (by decide) ?_
  refine lv_aload_n hx hb dL_call_225 rfl (lv_at hl 0 rfl) ?_
  refine lv_iload_n hx hb dL_call_226 rfl (lv_at hl 2 rfl) ?_
  obtain ⟨r41, v41, e41, h⟩ := zb2 h
  refine zLSw (w := (zXW g h0 u v)) (wr := []) (wc := (zXW g h0 u v)) (wq := (zXW g h0 u v41)) (wp := (zXW g h0 u v41)) (As := [.ref h0, .int a2]) (rest := []) (zWi_q g _ _) ⟨hx, hb, hml, hown, hts⟩ (kL_tryBack l g h0 u v a2 htr e41) (vx_cwSW 2 hts gL_call_L_tryBack rfl rfl rfl hdS_L_tryBack ⟨Nat.le_of_ble_eq_true rfl, Nat.le_of_ble_eq_true rfl⟩) hK hP hD hS hA hAm hN (zXW_fst g h0 u _ _) (List.Perm.refl _) (List.Perm.refl _) rfl hl.1 rfl (Nat.le_of_ble_eq_true rfl) ⟨by show _ ≤ 3; omega, by show _ ≤ 18; omega⟩ dL_call_227 (fun H locs hP hD hS => ?_)
  replace hP : zP g (zXW g h0 u v41) H := hP
  replace hD : va_D A (zXW g h0 u v41) := hD
  cases h
  exact W.widen (by omega) (by omega) (zw_i hx hb hr hlocks hP hS dL_call_230)
