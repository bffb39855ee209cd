/-! the methods of the law that catch what the program throws -/
def fL_tryScript (v : zXS) (p1 : Int32) (p2 : Int64) : Option (Int32 × zXS) :=
  match v with
  | (ch, nu, le, ta, lt, (b, pF, pL, st, tm, qt, cm, ds, dr), (bC, pFC, pLC, stC, tmC, qtC, cmC, dsC, drC), ol, pz, dvs, us, (bS, pFS, pLS, stS, tmS, qtS, cmS, dsS, drS), (bT, pFT, pLT, stT, tmT, qtT, cmT, dsT, drT)) => ob11 (fX3_runScript b pF pL st tm qt cm ds dr bC pFC pLC stC tmC qtC cmC dsC drC p1 p2) fun k r bC2 pFC2 pLC2 stC2 tmC2 qtC2 cmC2 dsC2 drC2 => if k = 0 then some (r, (ch, nu, le, ta, lt, (b, pF, pL, st, tm, qt, cm, ds, dr), (bC2, pFC2, pLC2, stC2, tmC2, qtC2, cmC2, dsC2, drC2), ol, pz, dvs, us, (bS, pFS, pLS, stS, tmS, qtS, cmS, dsS, drS), (bT, pFT, pLT, stT, tmT, qtT, cmT, dsT, drT))) else if k = 2 then some ((-9999002), (ch, nu, le, ta, lt, (b, pF, pL, st, tm, qt, cm, ds, dr), (bC2, pFC2, pLC2, stC2, tmC2, qtC2, cmC2, dsC2, drC2), ol, pz, dvs, us, (bS, pFS, pLS, stS, tmS, qtS, cmS, dsS, drS), (bT, pFT, pLT, stT, tmT, qtT, cmT, dsT, drT))) else none
theorem hdV_X3_runScript : yX3_runScript.cls = RX3 ∧ yX3_runScript.cls ≠ "java/lang/invoke/MethodHandle" ∧ yX3_runScript.cls ≠ "java/lang/invoke/VarHandle" ∧ (parseMethodDescriptor yX3_runScript.desc).map (fun d => d.parameters.length) = some 2 := by decide +kernel
theorem mL_tryScript_13 : Cond.classLink RL 13 (zE 2) ∈ wsL_tryScript := by decide +kernel
theorem mL_tryScript_c15 : Cond.constant RL 15 (-9999002) ∈ wsL_tryScript := by decide +kernel
set_option maxRecDepth 100000 in
set_option maxHeartbeats 4000000 in
theorem kL_tryScript (l : Launch) (g : zG) (h0 : Nat) (u : zAd) (v : zXS) (p1 : Int32) (p2 : Int64) (htr : l.stackTraces = false) {r' : Int32} {v' : zXS} (h : fL_tryScript v p1 p2 = some (r', v')) : Mn l g yL_tryScript wsL_tryScript { frames := 7, cells := 1, slots := 6, locals := 170 } [.ref h0, .int p1, .long p2] (zXW g h0 u v) (zWi g (zXW g h0 u v') r') 1 6 := by
  obtain ⟨ch, nu, le, ta, lt, ⟨b, pF, pL, st, tm, qt, cm, ds, dr⟩, ⟨bC, pFC, pLC, stC, tmC, qtC, cmC, dsC, drC⟩, ol, pz, dvs, us, ⟨bS, pFS, pLS, stS, tmS, qtS, cmS, dsS, drS⟩, ⟨bT, pFT, pLT, stT, tmT, qtT, cmT, dsT, drT⟩⟩ := v
  replace h : ob11 (fX3_runScript b pF pL st tm qt cm ds dr bC pFC pLC stC tmC qtC cmC dsC drC p1 p2) (fun k r bC2 pFC2 pLC2 stC2 tmC2 qtC2 cmC2 dsC2 drC2 => if k = 0 then some (r, (ch, nu, le, ta, lt, (b, pF, pL, st, tm, qt, cm, ds, dr), (bC2, pFC2, pLC2, stC2, tmC2, qtC2, cmC2, dsC2, drC2), ol, pz, dvs, us, (bS, pFS, pLS, stS, tmS, qtS, cmS, dsS, drS), (bT, pFT, pLT, stT, tmT, qtT, cmT, dsT, drT))) else if k = 2 then some ((-9999002), (ch, nu, le, ta, lt, (b, pF, pL, st, tm, qt, cm, ds, dr), (bC2, pFC2, pLC2, stC2, tmC2, qtC2, cmC2, dsC2, drC2), ol, pz, dvs, us, (bS, pFS, pLS, stS, tmS, qtS, cmS, dsS, drS), (bT, pFT, pLT, stT, tmT, qtT, cmT, dsT, drT))) else none) = some (r', v') := h
  obtain ⟨k, r, bC2, pFC2, pLC2, stC2, tmC2, qtC2, cmC2, dsC2, drC2, e1, h⟩ := zb11 h
  have hv : v' = (ch, nu, le, ta, lt, (b, pF, pL, st, tm, qt, cm, ds, dr), (bC2, pFC2, pLC2, stC2, tmC2, qtC2, cmC2, dsC2, drC2), ol, pz, dvs, us, (bS, pFS, pLS, stS, tmS, qtS, cmS, dsS, drS), (bT, pFT, pLT, stT, tmT, qtT, cmT, dsT, drT)) ∧ (k = 0 → r = r') ∧ (k = 0 ∨ (k = 2 ∧ (-9999002 : Int32) = r')) := by
    by_cases c0 : k = 0
    · replace h := zt c0 h
      cases h
      exact ⟨rfl, fun _ => rfl, Or.inl c0⟩
    replace h := zf c0 h
    by_cases c1 : k = 2
    · replace h := zt c1 h
      cases h
      exact ⟨rfl, fun q => absurd q c0, Or.inr (⟨c1, rfl⟩)⟩
    replace h := zf c1 h
    exact zn h
  clear h
  obtain ⟨rfl, hv0, hv⟩ := hv
  refine zn_in (cc := cL_tryScript) (maxL := 5) (ret := some .int) (hh := [(0, 6, 7, 13)]) (by decide) rfl (Nat.le_of_ble_eq_true rfl) ?_
  intro p e s m below meth c hx hb hr hml hts hown hlocks hK ht hN A hA hP hD hS hAm ls hl
  replace hl : lv_has ls 5 [(0, .ref h0), (1, .int p1), (2, .long p2)] := hl
  refine lv_aload_n hx hb dL_tryScript_0 rfl (lv_at hl 0 rfl) ?_
  refine lv_iload_n hx hb dL_tryScript_1 rfl (lv_at hl 1 rfl) ?_
  refine lv_lload_n hx hb dL_tryScript_2 rfl (lv_at hl 2 rfl) ?_
  refine zT_mid (As := [.int p1, .long p2]) ⟨hx, hb, hml, hown, hts⟩ hr hlocks (kX3_runScript l g h0 u.1.1 u.1.2.1 u.1.2.2 (u.2.1 0) (u.2.1 1) (u.2.1 2) (u.2.1 3) (u.2.1 4) (u.2.2.1 0) (u.2.2.1 1) (u.2.2.1 2) (u.2.2.1 3) (u.2.2.1 4) u.2.2.2.1.1 u.2.2.2.1.2 u.2.2.2.2.1.1 u.2.2.2.2.1.2 (u.2.2.2.2.2.1 0) (u.2.2.2.2.2.1 1) (u.2.2.2.2.2.1 2) (u.2.2.2.2.2.1 3) (u.2.2.2.2.2.1 4) (u.2.2.2.2.2.2.1 0) (u.2.2.2.2.2.2.1 1) (u.2.2.2.2.2.2.1 2) (u.2.2.2.2.2.2.1 3) (u.2.2.2.2.2.2.1 4) u.2.2.2.2.2.2.2 ch nu le ta lt b pF pL st tm qt cm ds dr bC pFC pLC stC tmC qtC cmC dsC drC ol pz dvs us bS pFS pLS stS tmS qtS cmS dsS drS bT pFT pLT stT tmT qtT cmT dsT drT p1 p2 htr e1) (cwV 2 hts gL_tryScript_X3_runScript rfl rfl rfl hdV_X3_runScript ⟨Nat.le_of_ble_eq_true rfl, Nat.le_of_ble_eq_true rfl⟩) hK hP hD hS hA hAm (zXW_fst g h0 u (ch, nu, le, ta, lt, (b, pF, pL, st, tm, qt, cm, ds, dr), (bC, pFC, pLC, stC, tmC, qtC, cmC, dsC, drC), ol, pz, dvs, us, (bS, pFS, pLS, stS, tmS, qtS, cmS, dsS, drS), (bT, pFT, pLT, stT, tmT, qtT, cmT, dsT, drT)) (ch, nu, le, ta, lt, (b, pF, pL, st, tm, qt, cm, ds, dr), (bC2, pFC2, pLC2, stC2, tmC2, qtC2, cmC2, dsC2, drC2), ol, pz, dvs, us, (bS, pFS, pLS, stS, tmS, qtS, cmS, dsS, drS), (bT, pFT, pLT, stT, tmT, qtT, cmT, dsT, drT))) rfl rfl hl.1 rfl ⟨Nat.le_of_ble_eq_true rfl, Nat.le_of_ble_eq_true rfl⟩ dL_tryScript_3 dL_tryScript_6 hv0 (fun hk H1 locs1 q ce hP1 hS1 hce hcv hcl => ?_)
  rcases hv with h1 | ⟨rfl, rfl⟩
  · exact absurd h1 hk
  · refine zL_hit (k := 2) hown hAm (by decide +kernel) [] ⟨0, 6, 7, 13⟩ [] (by rw [ht]; rfl) (fun _ h => absurd h List.not_mem_nil) (by decide) (by decide) (hts _ mL_tryScript_13) hce hcv hcl ?_
    refine lv_astore hx hb dL_tryScript_7 hl (by decide) rfl (fun ls hl => ?_)
    refine lv_ldc hx hb hown (hts _ mL_tryScript_c15) dL_tryScript_9 ?_
    exact zw_i hx hb hr hlocks hP1 hS1 dL_tryScript_11
def fL_trySimulate (v : zXS) (p1 : Int64) (p2 : Int32) : Option (Int32 × zXS) :=
  match v with
  | (ch, nu, le, ta, lt, (b, pF, pL, st, tm, qt, cm, ds, dr), (bC, pFC, pLC, stC, tmC, qtC, cmC, dsC, drC), ol, pz, dvs, us, (bS, pFS, pLS, stS, tmS, qtS, cmS, dsS, drS), (bT, pFT, pLT, stT, tmT, qtT, cmT, dsT, drT)) => ob11 (fX3_simulate b pF pL st tm qt cm ds dr bC pFC pLC stC tmC qtC cmC dsC drC p1 p2) fun k r bC2 pFC2 pLC2 stC2 tmC2 qtC2 cmC2 dsC2 drC2 => if k = 0 then some (r, (ch, nu, le, ta, lt, (b, pF, pL, st, tm, qt, cm, ds, dr), (bC2, pFC2, pLC2, stC2, tmC2, qtC2, cmC2, dsC2, drC2), ol, pz, dvs, us, (bS, pFS, pLS, stS, tmS, qtS, cmS, dsS, drS), (bT, pFT, pLT, stT, tmT, qtT, cmT, dsT, drT))) else if k = 2 then some ((-9999002), (ch, nu, le, ta, lt, (b, pF, pL, st, tm, qt, cm, ds, dr), (bC2, pFC2, pLC2, stC2, tmC2, qtC2, cmC2, dsC2, drC2), ol, pz, dvs, us, (bS, pFS, pLS, stS, tmS, qtS, cmS, dsS, drS), (bT, pFT, pLT, stT, tmT, qtT, cmT, dsT, drT))) else none
theorem hdV_X3_simulate : yX3_simulate.cls = RX3 ∧ yX3_simulate.cls ≠ "java/lang/invoke/MethodHandle" ∧ yX3_simulate.cls ≠ "java/lang/invoke/VarHandle" ∧ (parseMethodDescriptor yX3_simulate.desc).map (fun d => d.parameters.length) = some 2 := by decide +kernel
theorem mL_trySimulate_13 : Cond.classLink RL 13 (zE 2) ∈ wsL_trySimulate := by decide +kernel
theorem mL_trySimulate_c15 : Cond.constant RL 15 (-9999002) ∈ wsL_trySimulate := by decide +kernel
set_option maxRecDepth 100000 in
set_option maxHeartbeats 4000000 in
theorem kL_trySimulate (l : Launch) (g : zG) (h0 : Nat) (u : zAd) (v : zXS) (p1 : Int64) (p2 : Int32) (htr : l.stackTraces = false) {r' : Int32} {v' : zXS} (h : fL_trySimulate v p1 p2 = some (r', v')) : Mn l g yL_trySimulate wsL_trySimulate { frames := 7, cells := 1, slots := 6, locals := 172 } [.ref h0, .long p1, .int p2] (zXW g h0 u v) (zWi g (zXW g h0 u v') r') 1 6 := by
  obtain ⟨ch, nu, le, ta, lt, ⟨b, pF, pL, st, tm, qt, cm, ds, dr⟩, ⟨bC, pFC, pLC, stC, tmC, qtC, cmC, dsC, drC⟩, ol, pz, dvs, us, ⟨bS, pFS, pLS, stS, tmS, qtS, cmS, dsS, drS⟩, ⟨bT, pFT, pLT, stT, tmT, qtT, cmT, dsT, drT⟩⟩ := v
  replace h : ob11 (fX3_simulate b pF pL st tm qt cm ds dr bC pFC pLC stC tmC qtC cmC dsC drC p1 p2) (fun k r bC2 pFC2 pLC2 stC2 tmC2 qtC2 cmC2 dsC2 drC2 => if k = 0 then some (r, (ch, nu, le, ta, lt, (b, pF, pL, st, tm, qt, cm, ds, dr), (bC2, pFC2, pLC2, stC2, tmC2, qtC2, cmC2, dsC2, drC2), ol, pz, dvs, us, (bS, pFS, pLS, stS, tmS, qtS, cmS, dsS, drS), (bT, pFT, pLT, stT, tmT, qtT, cmT, dsT, drT))) else if k = 2 then some ((-9999002), (ch, nu, le, ta, lt, (b, pF, pL, st, tm, qt, cm, ds, dr), (bC2, pFC2, pLC2, stC2, tmC2, qtC2, cmC2, dsC2, drC2), ol, pz, dvs, us, (bS, pFS, pLS, stS, tmS, qtS, cmS, dsS, drS), (bT, pFT, pLT, stT, tmT, qtT, cmT, dsT, drT))) else none) = some (r', v') := h
  obtain ⟨k, r, bC2, pFC2, pLC2, stC2, tmC2, qtC2, cmC2, dsC2, drC2, e1, h⟩ := zb11 h
  have hv : v' = (ch, nu, le, ta, lt, (b, pF, pL, st, tm, qt, cm, ds, dr), (bC2, pFC2, pLC2, stC2, tmC2, qtC2, cmC2, dsC2, drC2), ol, pz, dvs, us, (bS, pFS, pLS, stS, tmS, qtS, cmS, dsS, drS), (bT, pFT, pLT, stT, tmT, qtT, cmT, dsT, drT)) ∧ (k = 0 → r = r') ∧ (k = 0 ∨ (k = 2 ∧ (-9999002 : Int32) = r')) := by
    by_cases c0 : k = 0
    · replace h := zt c0 h
      cases h
      exact ⟨rfl, fun _ => rfl, Or.inl c0⟩
    replace h := zf c0 h
    by_cases c1 : k = 2
    · replace h := zt c1 h
      cases h
      exact ⟨rfl, fun q => absurd q c0, Or.inr (⟨c1, rfl⟩)⟩
    replace h := zf c1 h
    exact zn h
  clear h
  obtain ⟨rfl, hv0, hv⟩ := hv
  refine zn_in (cc := cL_trySimulate) (maxL := 5) (ret := some .int) (hh := [(0, 6, 7, 13)]) (by decide) rfl (Nat.le_of_ble_eq_true rfl) ?_
  intro p e s m below meth c hx hb hr hml hts hown hlocks hK ht hN A hA hP hD hS hAm ls hl
  replace hl : lv_has ls 5 [(0, .ref h0), (1, .long p1), (3, .int p2)] := hl
  refine lv_aload_n hx hb dL_trySimulate_0 rfl (lv_at hl 0 rfl) ?_
  refine lv_lload_n hx hb dL_trySimulate_1 rfl (lv_at hl 1 rfl) ?_
  refine lv_iload_n hx hb dL_trySimulate_2 rfl (lv_at hl 2 rfl) ?_
  refine zT_mid (As := [.long p1, .int p2]) ⟨hx, hb, hml, hown, hts⟩ hr hlocks (kX3_simulate l g h0 u.1.1 u.1.2.1 u.1.2.2 (u.2.1 0) (u.2.1 1) (u.2.1 2) (u.2.1 3) (u.2.1 4) (u.2.2.1 0) (u.2.2.1 1) (u.2.2.1 2) (u.2.2.1 3) (u.2.2.1 4) u.2.2.2.1.1 u.2.2.2.1.2 u.2.2.2.2.1.1 u.2.2.2.2.1.2 (u.2.2.2.2.2.1 0) (u.2.2.2.2.2.1 1) (u.2.2.2.2.2.1 2) (u.2.2.2.2.2.1 3) (u.2.2.2.2.2.1 4) (u.2.2.2.2.2.2.1 0) (u.2.2.2.2.2.2.1 1) (u.2.2.2.2.2.2.1 2) (u.2.2.2.2.2.2.1 3) (u.2.2.2.2.2.2.1 4) u.2.2.2.2.2.2.2 ch nu le ta lt b pF pL st tm qt cm ds dr bC pFC pLC stC tmC qtC cmC dsC drC ol pz dvs us bS pFS pLS stS tmS qtS cmS dsS drS bT pFT pLT stT tmT qtT cmT dsT drT p1 p2 htr e1) (cwV 2 hts gL_trySimulate_X3_simulate rfl rfl rfl hdV_X3_simulate ⟨Nat.le_of_ble_eq_true rfl, Nat.le_of_ble_eq_true rfl⟩) hK hP hD hS hA hAm (zXW_fst g h0 u (ch, nu, le, ta, lt, (b, pF, pL, st, tm, qt, cm, ds, dr), (bC, pFC, pLC, stC, tmC, qtC, cmC, dsC, drC), ol, pz, dvs, us, (bS, pFS, pLS, stS, tmS, qtS, cmS, dsS, drS), (bT, pFT, pLT, stT, tmT, qtT, cmT, dsT, drT)) (ch, nu, le, ta, lt, (b, pF, pL, st, tm, qt, cm, ds, dr), (bC2, pFC2, pLC2, stC2, tmC2, qtC2, cmC2, dsC2, drC2), ol, pz, dvs, us, (bS, pFS, pLS, stS, tmS, qtS, cmS, dsS, drS), (bT, pFT, pLT, stT, tmT, qtT, cmT, dsT, drT))) rfl rfl hl.1 rfl ⟨Nat.le_of_ble_eq_true rfl, Nat.le_of_ble_eq_true rfl⟩ dL_trySimulate_3 dL_trySimulate_6 hv0 (fun hk H1 locs1 q ce hP1 hS1 hce hcv hcl => ?_)
  rcases hv with h1 | ⟨rfl, rfl⟩
  · exact absurd h1 hk
  · refine zL_hit (k := 2) hown hAm (by decide +kernel) [] ⟨0, 6, 7, 13⟩ [] (by rw [ht]; rfl) (fun _ h => absurd h List.not_mem_nil) (by decide) (by decide) (hts _ mL_trySimulate_13) hce hcv hcl ?_
    refine lv_astore hx hb dL_trySimulate_7 hl (by decide) rfl (fun ls hl => ?_)
    refine lv_ldc hx hb hown (hts _ mL_trySimulate_c15) dL_trySimulate_9 ?_
    exact zw_i hx hb hr hlocks hP1 hS1 dL_trySimulate_11
def fL_tryAppend (v : zXS) (p1 : Int32) : Option (Int32 × zXS) :=
  match v with
  | (ch, nu, le, ta, lt, (b, pF, pL, st, tm, qt, cm, ds, dr), (bC, pFC, pLC, stC, tmC, qtC, cmC, dsC, drC), ol, pz, dvs, us, (bS, pFS, pLS, stS, tmS, qtS, cmS, dsS, drS), (bT, pFT, pLT, stT, tmT, qtT, cmT, dsT, drT)) => ob4 (fX3_append ch le p1) fun k r ch2 le2 => if k = 0 then some (r, (ch2, nu, le2, ta, lt, (b, pF, pL, st, tm, qt, cm, ds, dr), (bC, pFC, pLC, stC, tmC, qtC, cmC, dsC, drC), ol, pz, dvs, us, (bS, pFS, pLS, stS, tmS, qtS, cmS, dsS, drS), (bT, pFT, pLT, stT, tmT, qtT, cmT, dsT, drT))) else if k = 2 then some ((-9999002), (ch2, nu, le2, ta, lt, (b, pF, pL, st, tm, qt, cm, ds, dr), (bC, pFC, pLC, stC, tmC, qtC, cmC, dsC, drC), ol, pz, dvs, us, (bS, pFS, pLS, stS, tmS, qtS, cmS, dsS, drS), (bT, pFT, pLT, stT, tmT, qtT, cmT, dsT, drT))) else if k = 3 then some ((-9999003), (ch2, nu, le2, ta, lt, (b, pF, pL, st, tm, qt, cm, ds, dr), (bC, pFC, pLC, stC, tmC, qtC, cmC, dsC, drC), ol, pz, dvs, us, (bS, pFS, pLS, stS, tmS, qtS, cmS, dsS, drS), (bT, pFT, pLT, stT, tmT, qtT, cmT, dsT, drT))) else none
theorem hdV_X3_append : yX3_append.cls = RX3 ∧ yX3_append.cls ≠ "java/lang/invoke/MethodHandle" ∧ yX3_append.cls ≠ "java/lang/invoke/VarHandle" ∧ (parseMethodDescriptor yX3_append.desc).map (fun d => d.parameters.length) = some 1 := by decide +kernel
theorem mL_tryAppend_13 : Cond.classLink RL 13 (zE 2) ∈ wsL_tryAppend := by decide +kernel
theorem mL_tryAppend_c15 : Cond.constant RL 15 (-9999002) ∈ wsL_tryAppend := by decide +kernel
theorem mL_tryAppend_24 : Cond.classLink RL 24 (zE 3) ∈ wsL_tryAppend := by decide +kernel
theorem mL_tryAppend_c26 : Cond.constant RL 26 (-9999003) ∈ wsL_tryAppend := by decide +kernel
set_option maxRecDepth 100000 in
set_option maxHeartbeats 4000000 in
theorem kL_tryAppend (l : Launch) (g : zG) (h0 : Nat) (u : zAd) (v : zXS) (p1 : Int32) (htr : l.stackTraces = false) {r' : Int32} {v' : zXS} (h : fL_tryAppend v p1 = some (r', v')) : Mn l g yL_tryAppend wsL_tryAppend { frames := 7, cells := 1, slots := 6, locals := 103 } [.ref h0, .int p1] (zXW g h0 u v) (zWi g (zXW g h0 u v') r') 1 6 := by
  obtain ⟨ch, nu, le, ta, lt, ⟨b, pF, pL, st, tm, qt, cm, ds, dr⟩, ⟨bC, pFC, pLC, stC, tmC, qtC, cmC, dsC, drC⟩, ol, pz, dvs, us, ⟨bS, pFS, pLS, stS, tmS, qtS, cmS, dsS, drS⟩, ⟨bT, pFT, pLT, stT, tmT, qtT, cmT, dsT, drT⟩⟩ := v
  replace h : ob4 (fX3_append ch le p1) (fun k r ch2 le2 => if k = 0 then some (r, (ch2, nu, le2, ta, lt, (b, pF, pL, st, tm, qt, cm, ds, dr), (bC, pFC, pLC, stC, tmC, qtC, cmC, dsC, drC), ol, pz, dvs, us, (bS, pFS, pLS, stS, tmS, qtS, cmS, dsS, drS), (bT, pFT, pLT, stT, tmT, qtT, cmT, dsT, drT))) else if k = 2 then some ((-9999002), (ch2, nu, le2, ta, lt, (b, pF, pL, st, tm, qt, cm, ds, dr), (bC, pFC, pLC, stC, tmC, qtC, cmC, dsC, drC), ol, pz, dvs, us, (bS, pFS, pLS, stS, tmS, qtS, cmS, dsS, drS), (bT, pFT, pLT, stT, tmT, qtT, cmT, dsT, drT))) else if k = 3 then some ((-9999003), (ch2, nu, le2, ta, lt, (b, pF, pL, st, tm, qt, cm, ds, dr), (bC, pFC, pLC, stC, tmC, qtC, cmC, dsC, drC), ol, pz, dvs, us, (bS, pFS, pLS, stS, tmS, qtS, cmS, dsS, drS), (bT, pFT, pLT, stT, tmT, qtT, cmT, dsT, drT))) else none) = some (r', v') := h
  obtain ⟨k, r, ch2, le2, e1, h⟩ := zb4 h
  have hv : v' = (ch2, nu, le2, ta, lt, (b, pF, pL, st, tm, qt, cm, ds, dr), (bC, pFC, pLC, stC, tmC, qtC, cmC, dsC, drC), ol, pz, dvs, us, (bS, pFS, pLS, stS, tmS, qtS, cmS, dsS, drS), (bT, pFT, pLT, stT, tmT, qtT, cmT, dsT, drT)) ∧ (k = 0 → r = r') ∧ (k = 0 ∨ (k = 2 ∧ (-9999002 : Int32) = r') ∨ (k = 3 ∧ (-9999003 : Int32) = r')) := by
    by_cases c0 : k = 0
    · replace h := zt c0 h
      cases h
      exact ⟨rfl, fun _ => rfl, Or.inl c0⟩
    replace h := zf c0 h
    by_cases c1 : k = 2
    · replace h := zt c1 h
      cases h
      exact ⟨rfl, fun q => absurd q c0, Or.inr (Or.inl ⟨c1, rfl⟩)⟩
    replace h := zf c1 h
    by_cases c2 : k = 3
    · replace h := zt c2 h
      cases h
      exact ⟨rfl, fun q => absurd q c0, Or.inr (Or.inr (⟨c2, rfl⟩))⟩
    replace h := zf c2 h
    exact zn h
  clear h
  obtain ⟨rfl, hv0, hv⟩ := hv
  refine zn_in (cc := cL_tryAppend) (maxL := 3) (ret := some .int) (hh := [(0, 5, 6, 13), (0, 5, 10, 24)]) (by decide) rfl (Nat.le_of_ble_eq_true rfl) ?_
  intro p e s m below meth c hx hb hr hml hts hown hlocks hK ht hN A hA hP hD hS hAm ls hl
  replace hl : lv_has ls 3 [(0, .ref h0), (1, .int p1)] := hl
  refine lv_aload_n hx hb dL_tryAppend_0 rfl (lv_at hl 0 rfl) ?_
  refine lv_iload_n hx hb dL_tryAppend_1 rfl (lv_at hl 1 rfl) ?_
  refine zT_mid (As := [.int p1]) ⟨hx, hb, hml, hown, hts⟩ hr hlocks (kX3_append l g h0 u.1.1 u.1.2.1 u.1.2.2 (u.2.1 0) (u.2.1 1) (u.2.1 2) (u.2.1 3) (u.2.1 4) (u.2.2.1 0) (u.2.2.1 1) (u.2.2.1 2) (u.2.2.1 3) (u.2.2.1 4) u.2.2.2.1.1 u.2.2.2.1.2 u.2.2.2.2.1.1 u.2.2.2.2.1.2 (u.2.2.2.2.2.1 0) (u.2.2.2.2.2.1 1) (u.2.2.2.2.2.1 2) (u.2.2.2.2.2.1 3) (u.2.2.2.2.2.1 4) (u.2.2.2.2.2.2.1 0) (u.2.2.2.2.2.2.1 1) (u.2.2.2.2.2.2.1 2) (u.2.2.2.2.2.2.1 3) (u.2.2.2.2.2.2.1 4) u.2.2.2.2.2.2.2 ch nu le ta lt b pF pL st tm qt cm ds dr bC pFC pLC stC tmC qtC cmC dsC drC ol pz dvs us bS pFS pLS stS tmS qtS cmS dsS drS bT pFT pLT stT tmT qtT cmT dsT drT p1 htr e1) (cwV 1 hts gL_tryAppend_X3_append rfl rfl rfl hdV_X3_append ⟨Nat.le_of_ble_eq_true rfl, Nat.le_of_ble_eq_true rfl⟩) hK hP hD hS hA hAm (zXW_fst g h0 u (ch, nu, le, ta, lt, (b, pF, pL, st, tm, qt, cm, ds, dr), (bC, pFC, pLC, stC, tmC, qtC, cmC, dsC, drC), ol, pz, dvs, us, (bS, pFS, pLS, stS, tmS, qtS, cmS, dsS, drS), (bT, pFT, pLT, stT, tmT, qtT, cmT, dsT, drT)) (ch2, nu, le2, ta, lt, (b, pF, pL, st, tm, qt, cm, ds, dr), (bC, pFC, pLC, stC, tmC, qtC, cmC, dsC, drC), ol, pz, dvs, us, (bS, pFS, pLS, stS, tmS, qtS, cmS, dsS, drS), (bT, pFT, pLT, stT, tmT, qtT, cmT, dsT, drT))) rfl rfl hl.1 rfl ⟨Nat.le_of_ble_eq_true rfl, Nat.le_of_ble_eq_true rfl⟩ dL_tryAppend_2 dL_tryAppend_5 hv0 (fun hk H1 locs1 q ce hP1 hS1 hce hcv hcl => ?_)
  rcases hv with h1 | ⟨rfl, rfl⟩ | ⟨rfl, rfl⟩
  · exact absurd h1 hk
  · refine zL_hit (k := 2) hown hAm (by decide +kernel) [] ⟨0, 5, 6, 13⟩ [⟨0, 5, 10, 24⟩] (by rw [ht]; rfl) (fun _ h => absurd h List.not_mem_nil) (by decide) (by decide) (hts _ mL_tryAppend_13) hce hcv hcl ?_
    refine lv_astore_n hx hb dL_tryAppend_6 rfl hl (by decide) rfl (fun ls hl => ?_)
    refine lv_ldc hx hb hown (hts _ mL_tryAppend_c15) dL_tryAppend_7 ?_
    exact zw_i hx hb hr hlocks hP1 hS1 dL_tryAppend_9
  · refine zL_hit (k := 3) hown hAm (by decide +kernel) [⟨0, 5, 6, 13⟩] ⟨0, 5, 10, 24⟩ [] (by rw [ht]; rfl) (fun z hz => by obtain rfl := List.mem_singleton.mp hz; exact Or.inr ⟨by decide, _, hts _ mL_tryAppend_13, hN.2.2⟩) (by decide) (by decide) (hts _ mL_tryAppend_24) hce hcv hcl ?_
    refine lv_astore_n hx hb dL_tryAppend_10 rfl hl (by decide) rfl (fun ls hl => ?_)
    refine lv_ldc hx hb hown (hts _ mL_tryAppend_c26) dL_tryAppend_11 ?_
    exact zw_i hx hb hr hlocks hP1 hS1 dL_tryAppend_13
def fL_tryLoad (v : zXS) : Option (Int32 × zXS) :=
  match v with
  | (ch, nu, le, ta, lt, (b, pF, pL, st, tm, qt, cm, ds, dr), (bC, pFC, pLC, stC, tmC, qtC, cmC, dsC, drC), ol, pz, dvs, us, (bS, pFS, pLS, stS, tmS, qtS, cmS, dsS, drS), (bT, pFT, pLT, stT, tmT, qtT, cmT, dsT, drT)) => ob16 (fX3_load ch nu le ta lt b pF pL st tm qt cm ds dr pz us) fun k r nu2 ta2 lt2 b2 pF2 pL2 st2 tm2 qt2 cm2 ds2 dr2 pz2 us2 => if k = 0 then some (r, (ch, nu2, le, ta2, lt2, (b2, pF2, pL2, st2, tm2, qt2, cm2, ds2, dr2), (bC, pFC, pLC, stC, tmC, qtC, cmC, dsC, drC), ol, pz2, dvs, us2, (bS, pFS, pLS, stS, tmS, qtS, cmS, dsS, drS), (bT, pFT, pLT, stT, tmT, qtT, cmT, dsT, drT))) else if k = 3 then some ((-9999003), (ch, nu2, le, ta2, lt2, (b2, pF2, pL2, st2, tm2, qt2, cm2, ds2, dr2), (bC, pFC, pLC, stC, tmC, qtC, cmC, dsC, drC), ol, pz2, dvs, us2, (bS, pFS, pLS, stS, tmS, qtS, cmS, dsS, drS), (bT, pFT, pLT, stT, tmT, qtT, cmT, dsT, drT))) else none
theorem hdV_X3_load : yX3_load.cls = RX3 ∧ yX3_load.cls ≠ "java/lang/invoke/MethodHandle" ∧ yX3_load.cls ≠ "java/lang/invoke/VarHandle" ∧ (parseMethodDescriptor yX3_load.desc).map (fun d => d.parameters.length) = some 0 := by decide +kernel
theorem mL_tryLoad_24 : Cond.classLink RL 24 (zE 3) ∈ wsL_tryLoad := by decide +kernel
theorem mL_tryLoad_c26 : Cond.constant RL 26 (-9999003) ∈ wsL_tryLoad := by decide +kernel
set_option maxRecDepth 100000 in
set_option maxHeartbeats 4000000 in
theorem kL_tryLoad (l : Launch) (g : zG) (h0 : Nat) (u : zAd) (v : zXS) (htr : l.stackTraces = false) {r' : Int32} {v' : zXS} (h : fL_tryLoad v = some (r', v')) : Mn l g yL_tryLoad wsL_tryLoad { frames := 7, cells := 1, slots := 6, locals := 167 } [.ref h0] (zXW g h0 u v) (zWi g (zXW g h0 u v') r') 1 6 := by
  obtain ⟨ch, nu, le, ta, lt, ⟨b, pF, pL, st, tm, qt, cm, ds, dr⟩, ⟨bC, pFC, pLC, stC, tmC, qtC, cmC, dsC, drC⟩, ol, pz, dvs, us, ⟨bS, pFS, pLS, stS, tmS, qtS, cmS, dsS, drS⟩, ⟨bT, pFT, pLT, stT, tmT, qtT, cmT, dsT, drT⟩⟩ := v
  replace h : ob16 (fX3_load ch nu le ta lt b pF pL st tm qt cm ds dr pz us) (fun k r nu2 ta2 lt2 b2 pF2 pL2 st2 tm2 qt2 cm2 ds2 dr2 pz2 us2 => if k = 0 then some (r, (ch, nu2, le, ta2, lt2, (b2, pF2, pL2, st2, tm2, qt2, cm2, ds2, dr2), (bC, pFC, pLC, stC, tmC, qtC, cmC, dsC, drC), ol, pz2, dvs, us2, (bS, pFS, pLS, stS, tmS, qtS, cmS, dsS, drS), (bT, pFT, pLT, stT, tmT, qtT, cmT, dsT, drT))) else if k = 3 then some ((-9999003), (ch, nu2, le, ta2, lt2, (b2, pF2, pL2, st2, tm2, qt2, cm2, ds2, dr2), (bC, pFC, pLC, stC, tmC, qtC, cmC, dsC, drC), ol, pz2, dvs, us2, (bS, pFS, pLS, stS, tmS, qtS, cmS, dsS, drS), (bT, pFT, pLT, stT, tmT, qtT, cmT, dsT, drT))) else none) = some (r', v') := h
  obtain ⟨k, r, nu2, ta2, lt2, b2, pF2, pL2, st2, tm2, qt2, cm2, ds2, dr2, pz2, us2, e1, h⟩ := zb16 h
  have hv : v' = (ch, nu2, le, ta2, lt2, (b2, pF2, pL2, st2, tm2, qt2, cm2, ds2, dr2), (bC, pFC, pLC, stC, tmC, qtC, cmC, dsC, drC), ol, pz2, dvs, us2, (bS, pFS, pLS, stS, tmS, qtS, cmS, dsS, drS), (bT, pFT, pLT, stT, tmT, qtT, cmT, dsT, drT)) ∧ (k = 0 → r = r') ∧ (k = 0 ∨ (k = 3 ∧ (-9999003 : Int32) = r')) := by
    by_cases c0 : k = 0
    · replace h := zt c0 h
      cases h
      exact ⟨rfl, fun _ => rfl, Or.inl c0⟩
    replace h := zf c0 h
    by_cases c1 : k = 3
    · replace h := zt c1 h
      cases h
      exact ⟨rfl, fun q => absurd q c0, Or.inr (⟨c1, rfl⟩)⟩
    replace h := zf c1 h
    exact zn h
  clear h
  obtain ⟨rfl, hv0, hv⟩ := hv
  refine zn_in (cc := cL_tryLoad) (maxL := 2) (ret := some .int) (hh := [(0, 4, 5, 24)]) (by decide) rfl (Nat.le_of_ble_eq_true rfl) ?_
  intro p e s m below meth c hx hb hr hml hts hown hlocks hK ht hN A hA hP hD hS hAm ls hl
  replace hl : lv_has ls 2 [(0, .ref h0)] := hl
  refine lv_aload_n hx hb dL_tryLoad_0 rfl (lv_at hl 0 rfl) ?_
  refine zT_mid (As := []) ⟨hx, hb, hml, hown, hts⟩ hr hlocks (kX3_load l g h0 u.1.1 u.1.2.1 u.1.2.2 (u.2.1 0) (u.2.1 1) (u.2.1 2) (u.2.1 3) (u.2.1 4) (u.2.2.1 0) (u.2.2.1 1) (u.2.2.1 2) (u.2.2.1 3) (u.2.2.1 4) u.2.2.2.1.1 u.2.2.2.1.2 u.2.2.2.2.1.1 u.2.2.2.2.1.2 (u.2.2.2.2.2.1 0) (u.2.2.2.2.2.1 1) (u.2.2.2.2.2.1 2) (u.2.2.2.2.2.1 3) (u.2.2.2.2.2.1 4) (u.2.2.2.2.2.2.1 0) (u.2.2.2.2.2.2.1 1) (u.2.2.2.2.2.2.1 2) (u.2.2.2.2.2.2.1 3) (u.2.2.2.2.2.2.1 4) u.2.2.2.2.2.2.2 ch nu le ta lt b pF pL st tm qt cm ds dr bC pFC pLC stC tmC qtC cmC dsC drC ol pz dvs us bS pFS pLS stS tmS qtS cmS dsS drS bT pFT pLT stT tmT qtT cmT dsT drT  htr e1) (cwV 0 hts gL_tryLoad_X3_load rfl rfl rfl hdV_X3_load ⟨Nat.le_of_ble_eq_true rfl, Nat.le_of_ble_eq_true rfl⟩) hK hP hD hS hA hAm (zXW_fst g h0 u (ch, nu, le, ta, lt, (b, pF, pL, st, tm, qt, cm, ds, dr), (bC, pFC, pLC, stC, tmC, qtC, cmC, dsC, drC), ol, pz, dvs, us, (bS, pFS, pLS, stS, tmS, qtS, cmS, dsS, drS), (bT, pFT, pLT, stT, tmT, qtT, cmT, dsT, drT)) (ch, nu2, le, ta2, lt2, (b2, pF2, pL2, st2, tm2, qt2, cm2, ds2, dr2), (bC, pFC, pLC, stC, tmC, qtC, cmC, dsC, drC), ol, pz2, dvs, us2, (bS, pFS, pLS, stS, tmS, qtS, cmS, dsS, drS), (bT, pFT, pLT, stT, tmT, qtT, cmT, dsT, drT))) rfl rfl hl.1 rfl ⟨Nat.le_of_ble_eq_true rfl, Nat.le_of_ble_eq_true rfl⟩ dL_tryLoad_1 dL_tryLoad_4 hv0 (fun hk H1 locs1 q ce hP1 hS1 hce hcv hcl => ?_)
  rcases hv with h1 | ⟨rfl, rfl⟩
  · exact absurd h1 hk
  · refine zL_hit (k := 3) hown hAm (by decide +kernel) [] ⟨0, 4, 5, 24⟩ [] (by rw [ht]; rfl) (fun _ h => absurd h List.not_mem_nil) (by decide) (by decide) (hts _ mL_tryLoad_24) hce hcv hcl ?_
    refine lv_astore_n hx hb dL_tryLoad_5 rfl hl (by decide) rfl (fun ls hl => ?_)
    refine lv_ldc hx hb hown (hts _ mL_tryLoad_c26) dL_tryLoad_6 ?_
    exact zw_i hx hb hr hlocks hP1 hS1 dL_tryLoad_8
def fL_tryAbout (v : zXS) (p1 : Int32) : Option (Int32 × zXS) :=
  match v with
  | (ch, nu, le, ta, lt, (b, pF, pL, st, tm, qt, cm, ds, dr), (bC, pFC, pLC, stC, tmC, qtC, cmC, dsC, drC), ol, pz, dvs, us, (bS, pFS, pLS, stS, tmS, qtS, cmS, dsS, drS), (bT, pFT, pLT, stT, tmT, qtT, cmT, dsT, drT)) => ob2 (fX3_about b pF pL tm qt cm ds dr p1) fun k r => if k = 0 then some (r, (ch, nu, le, ta, lt, (b, pF, pL, st, tm, qt, cm, ds, dr), (bC, pFC, pLC, stC, tmC, qtC, cmC, dsC, drC), ol, pz, dvs, us, (bS, pFS, pLS, stS, tmS, qtS, cmS, dsS, drS), (bT, pFT, pLT, stT, tmT, qtT, cmT, dsT, drT))) else if k = 2 then some ((-9999002), (ch, nu, le, ta, lt, (b, pF, pL, st, tm, qt, cm, ds, dr), (bC, pFC, pLC, stC, tmC, qtC, cmC, dsC, drC), ol, pz, dvs, us, (bS, pFS, pLS, stS, tmS, qtS, cmS, dsS, drS), (bT, pFT, pLT, stT, tmT, qtT, cmT, dsT, drT))) else none
theorem hdV_X3_about : yX3_about.cls = RX3 ∧ yX3_about.cls ≠ "java/lang/invoke/MethodHandle" ∧ yX3_about.cls ≠ "java/lang/invoke/VarHandle" ∧ (parseMethodDescriptor yX3_about.desc).map (fun d => d.parameters.length) = some 1 := by decide +kernel
theorem mL_tryAbout_13 : Cond.classLink RL 13 (zE 2) ∈ wsL_tryAbout := by decide +kernel
theorem mL_tryAbout_c15 : Cond.constant RL 15 (-9999002) ∈ wsL_tryAbout := by decide +kernel
set_option maxRecDepth 100000 in
set_option maxHeartbeats 4000000 in
theorem kL_tryAbout (l : Launch) (g : zG) (h0 : Nat) (u : zAd) (v : zXS) (p1 : Int32) (htr : l.stackTraces = false) {r' : Int32} {v' : zXS} (h : fL_tryAbout v p1 = some (r', v')) : Mn l g yL_tryAbout wsL_tryAbout { frames := 7, cells := 1, slots := 6, locals := 103 } [.ref h0, .int p1] (zXW g h0 u v) (zWi g (zXW g h0 u v') r') 1 6 := by
  obtain ⟨ch, nu, le, ta, lt, ⟨b, pF, pL, st, tm, qt, cm, ds, dr⟩, ⟨bC, pFC, pLC, stC, tmC, qtC, cmC, dsC, drC⟩, ol, pz, dvs, us, ⟨bS, pFS, pLS, stS, tmS, qtS, cmS, dsS, drS⟩, ⟨bT, pFT, pLT, stT, tmT, qtT, cmT, dsT, drT⟩⟩ := v
  replace h : ob2 (fX3_about b pF pL tm qt cm ds dr p1) (fun k r => if k = 0 then some (r, (ch, nu, le, ta, lt, (b, pF, pL, st, tm, qt, cm, ds, dr), (bC, pFC, pLC, stC, tmC, qtC, cmC, dsC, drC), ol, pz, dvs, us, (bS, pFS, pLS, stS, tmS, qtS, cmS, dsS, drS), (bT, pFT, pLT, stT, tmT, qtT, cmT, dsT, drT))) else if k = 2 then some ((-9999002), (ch, nu, le, ta, lt, (b, pF, pL, st, tm, qt, cm, ds, dr), (bC, pFC, pLC, stC, tmC, qtC, cmC, dsC, drC), ol, pz, dvs, us, (bS, pFS, pLS, stS, tmS, qtS, cmS, dsS, drS), (bT, pFT, pLT, stT, tmT, qtT, cmT, dsT, drT))) else none) = some (r', v') := h
  obtain ⟨k, r, e1, h⟩ := zb2 h
  have hv : v' = (ch, nu, le, ta, lt, (b, pF, pL, st, tm, qt, cm, ds, dr), (bC, pFC, pLC, stC, tmC, qtC, cmC, dsC, drC), ol, pz, dvs, us, (bS, pFS, pLS, stS, tmS, qtS, cmS, dsS, drS), (bT, pFT, pLT, stT, tmT, qtT, cmT, dsT, drT)) ∧ (k = 0 → r = r') ∧ (k = 0 ∨ (k = 2 ∧ (-9999002 : Int32) = r')) := by
    by_cases c0 : k = 0
    · replace h := zt c0 h
      cases h
      exact ⟨rfl, fun _ => rfl, Or.inl c0⟩
    replace h := zf c0 h
    by_cases c1 : k = 2
    · replace h := zt c1 h
      cases h
      exact ⟨rfl, fun q => absurd q c0, Or.inr (⟨c1, rfl⟩)⟩
    replace h := zf c1 h
    exact zn h
  clear h
  obtain ⟨rfl, hv0, hv⟩ := hv
  refine zn_in (cc := cL_tryAbout) (maxL := 3) (ret := some .int) (hh := [(0, 5, 6, 13)]) (by decide) rfl (Nat.le_of_ble_eq_true rfl) ?_
  intro p e s m below meth c hx hb hr hml hts hown hlocks hK ht hN A hA hP hD hS hAm ls hl
  replace hl : lv_has ls 3 [(0, .ref h0), (1, .int p1)] := hl
  refine lv_aload_n hx hb dL_tryAbout_0 rfl (lv_at hl 0 rfl) ?_
  refine lv_iload_n hx hb dL_tryAbout_1 rfl (lv_at hl 1 rfl) ?_
  refine zT_mid (As := [.int p1]) ⟨hx, hb, hml, hown, hts⟩ hr hlocks (kX3_about l g h0 u.1.1 u.1.2.1 u.1.2.2 (u.2.1 0) (u.2.1 1) (u.2.1 2) (u.2.1 3) (u.2.1 4) (u.2.2.1 0) (u.2.2.1 1) (u.2.2.1 2) (u.2.2.1 3) (u.2.2.1 4) u.2.2.2.1.1 u.2.2.2.1.2 u.2.2.2.2.1.1 u.2.2.2.2.1.2 (u.2.2.2.2.2.1 0) (u.2.2.2.2.2.1 1) (u.2.2.2.2.2.1 2) (u.2.2.2.2.2.1 3) (u.2.2.2.2.2.1 4) (u.2.2.2.2.2.2.1 0) (u.2.2.2.2.2.2.1 1) (u.2.2.2.2.2.2.1 2) (u.2.2.2.2.2.2.1 3) (u.2.2.2.2.2.2.1 4) u.2.2.2.2.2.2.2 ch nu le ta lt b pF pL st tm qt cm ds dr bC pFC pLC stC tmC qtC cmC dsC drC ol pz dvs us bS pFS pLS stS tmS qtS cmS dsS drS bT pFT pLT stT tmT qtT cmT dsT drT p1 htr e1) (cwV 1 hts gL_tryAbout_X3_about rfl rfl rfl hdV_X3_about ⟨Nat.le_of_ble_eq_true rfl, Nat.le_of_ble_eq_true rfl⟩) hK hP hD hS hA hAm (zXW_fst g h0 u (ch, nu, le, ta, lt, (b, pF, pL, st, tm, qt, cm, ds, dr), (bC, pFC, pLC, stC, tmC, qtC, cmC, dsC, drC), ol, pz, dvs, us, (bS, pFS, pLS, stS, tmS, qtS, cmS, dsS, drS), (bT, pFT, pLT, stT, tmT, qtT, cmT, dsT, drT)) (ch, nu, le, ta, lt, (b, pF, pL, st, tm, qt, cm, ds, dr), (bC, pFC, pLC, stC, tmC, qtC, cmC, dsC, drC), ol, pz, dvs, us, (bS, pFS, pLS, stS, tmS, qtS, cmS, dsS, drS), (bT, pFT, pLT, stT, tmT, qtT, cmT, dsT, drT))) rfl rfl hl.1 rfl ⟨Nat.le_of_ble_eq_true rfl, Nat.le_of_ble_eq_true rfl⟩ dL_tryAbout_2 dL_tryAbout_5 hv0 (fun hk H1 locs1 q ce hP1 hS1 hce hcv hcl => ?_)
  rcases hv with h1 | ⟨rfl, rfl⟩
  · exact absurd h1 hk
  · refine zL_hit (k := 2) hown hAm (by decide +kernel) [] ⟨0, 5, 6, 13⟩ [] (by rw [ht]; rfl) (fun _ h => absurd h List.not_mem_nil) (by decide) (by decide) (hts _ mL_tryAbout_13) hce hcv hcl ?_
    refine lv_astore_n hx hb dL_tryAbout_6 rfl hl (by decide) rfl (fun ls hl => ?_)
    refine lv_ldc hx hb hown (hts _ mL_tryAbout_c15) dL_tryAbout_7 ?_
    exact zw_i hx hb hr hlocks hP1 hS1 dL_tryAbout_9
def fL_tryBlock (v : zXS) (p1 : Int32) (p2 : Int32) : Option (Int32 × zXS) :=
  match v with
  | (ch, nu, le, ta, lt, (b, pF, pL, st, tm, qt, cm, ds, dr), (bC, pFC, pLC, stC, tmC, qtC, cmC, dsC, drC), ol, pz, dvs, us, (bS, pFS, pLS, stS, tmS, qtS, cmS, dsS, drS), (bT, pFT, pLT, stT, tmT, qtT, cmT, dsT, drT)) => ob2 (fX3_block b pF pL p1 p2) fun k r => if k = 0 then some (r, (ch, nu, le, ta, lt, (b, pF, pL, st, tm, qt, cm, ds, dr), (bC, pFC, pLC, stC, tmC, qtC, cmC, dsC, drC), ol, pz, dvs, us, (bS, pFS, pLS, stS, tmS, qtS, cmS, dsS, drS), (bT, pFT, pLT, stT, tmT, qtT, cmT, dsT, drT))) else if k = 1 then some ((-9999001), (ch, nu, le, ta, lt, (b, pF, pL, st, tm, qt, cm, ds, dr), (bC, pFC, pLC, stC, tmC, qtC, cmC, dsC, drC), ol, pz, dvs, us, (bS, pFS, pLS, stS, tmS, qtS, cmS, dsS, drS), (bT, pFT, pLT, stT, tmT, qtT, cmT, dsT, drT))) else if k = 2 then some ((-9999002), (ch, nu, le, ta, lt, (b, pF, pL, st, tm, qt, cm, ds, dr), (bC, pFC, pLC, stC, tmC, qtC, cmC, dsC, drC), ol, pz, dvs, us, (bS, pFS, pLS, stS, tmS, qtS, cmS, dsS, drS), (bT, pFT, pLT, stT, tmT, qtT, cmT, dsT, drT))) else none
theorem hdV_X3_block : yX3_block.cls = RX3 ∧ yX3_block.cls ≠ "java/lang/invoke/MethodHandle" ∧ yX3_block.cls ≠ "java/lang/invoke/VarHandle" ∧ (parseMethodDescriptor yX3_block.desc).map (fun d => d.parameters.length) = some 2 := by decide +kernel
theorem mL_tryBlock_38 : Cond.classLink RL 38 (zE 1) ∈ wsL_tryBlock := by decide +kernel
theorem mL_tryBlock_c40 : Cond.constant RL 40 (-9999001) ∈ wsL_tryBlock := by decide +kernel
theorem mL_tryBlock_13 : Cond.classLink RL 13 (zE 2) ∈ wsL_tryBlock := by decide +kernel
theorem mL_tryBlock_c15 : Cond.constant RL 15 (-9999002) ∈ wsL_tryBlock := by decide +kernel
set_option maxRecDepth 100000 in
set_option maxHeartbeats 4000000 in
theorem kL_tryBlock (l : Launch) (g : zG) (h0 : Nat) (u : zAd) (v : zXS) (p1 : Int32) (p2 : Int32) (htr : l.stackTraces = false) {r' : Int32} {v' : zXS} (h : fL_tryBlock v p1 p2 = some (r', v')) : Mn l g yL_tryBlock wsL_tryBlock { frames := 8, cells := 2, slots := 12, locals := 124 } [.ref h0, .int p1, .int p2] (zXW g h0 u v) (zWi g (zXW g h0 u v') r') 2 12 := by
  obtain ⟨ch, nu, le, ta, lt, ⟨b, pF, pL, st, tm, qt, cm, ds, dr⟩, ⟨bC, pFC, pLC, stC, tmC, qtC, cmC, dsC, drC⟩, ol, pz, dvs, us, ⟨bS, pFS, pLS, stS, tmS, qtS, cmS, dsS, drS⟩, ⟨bT, pFT, pLT, stT, tmT, qtT, cmT, dsT, drT⟩⟩ := v
  replace h : ob2 (fX3_block b pF pL p1 p2) (fun k r => if k = 0 then some (r, (ch, nu, le, ta, lt, (b, pF, pL, st, tm, qt, cm, ds, dr), (bC, pFC, pLC, stC, tmC, qtC, cmC, dsC, drC), ol, pz, dvs, us, (bS, pFS, pLS, stS, tmS, qtS, cmS, dsS, drS), (bT, pFT, pLT, stT, tmT, qtT, cmT, dsT, drT))) else if k = 1 then some ((-9999001), (ch, nu, le, ta, lt, (b, pF, pL, st, tm, qt, cm, ds, dr), (bC, pFC, pLC, stC, tmC, qtC, cmC, dsC, drC), ol, pz, dvs, us, (bS, pFS, pLS, stS, tmS, qtS, cmS, dsS, drS), (bT, pFT, pLT, stT, tmT, qtT, cmT, dsT, drT))) else if k = 2 then some ((-9999002), (ch, nu, le, ta, lt, (b, pF, pL, st, tm, qt, cm, ds, dr), (bC, pFC, pLC, stC, tmC, qtC, cmC, dsC, drC), ol, pz, dvs, us, (bS, pFS, pLS, stS, tmS, qtS, cmS, dsS, drS), (bT, pFT, pLT, stT, tmT, qtT, cmT, dsT, drT))) else none) = some (r', v') := h
  obtain ⟨k, r, e1, h⟩ := zb2 h
  have hv : v' = (ch, nu, le, ta, lt, (b, pF, pL, st, tm, qt, cm, ds, dr), (bC, pFC, pLC, stC, tmC, qtC, cmC, dsC, drC), ol, pz, dvs, us, (bS, pFS, pLS, stS, tmS, qtS, cmS, dsS, drS), (bT, pFT, pLT, stT, tmT, qtT, cmT, dsT, drT)) ∧ (k = 0 → r = r') ∧ (k = 0 ∨ (k = 1 ∧ (-9999001 : Int32) = r') ∨ (k = 2 ∧ (-9999002 : Int32) = r')) := by
    by_cases c0 : k = 0
    · replace h := zt c0 h
      cases h
      exact ⟨rfl, fun _ => rfl, Or.inl c0⟩
    replace h := zf c0 h
    by_cases c1 : k = 1
    · replace h := zt c1 h
      cases h
      exact ⟨rfl, fun q => absurd q c0, Or.inr (Or.inl ⟨c1, rfl⟩)⟩
    replace h := zf c1 h
    by_cases c2 : k = 2
    · replace h := zt c2 h
      cases h
      exact ⟨rfl, fun q => absurd q c0, Or.inr (Or.inr (⟨c2, rfl⟩))⟩
    replace h := zf c2 h
    exact zn h
  clear h
  obtain ⟨rfl, hv0, hv⟩ := hv
  refine zn_in (cc := cL_tryBlock) (maxL := 4) (ret := some .int) (hh := [(0, 6, 7, 38), (0, 6, 11, 13)]) (by decide) rfl (Nat.le_of_ble_eq_true rfl) ?_
  intro p e s m below meth c hx hb hr hml hts hown hlocks hK ht hN A hA hP hD hS hAm ls hl
  replace hl : lv_has ls 4 [(0, .ref h0), (1, .int p1), (2, .int p2)] := hl
  refine lv_aload_n hx hb dL_tryBlock_0 rfl (lv_at hl 0 rfl) ?_
  refine lv_iload_n hx hb dL_tryBlock_1 rfl (lv_at hl 1 rfl) ?_
  refine lv_iload_n hx hb dL_tryBlock_2 rfl (lv_at hl 2 rfl) ?_
  refine zT_mid (As := [.int p1, .int p2]) ⟨hx, hb, hml, hown, hts⟩ hr hlocks (kX3_block l g h0 u.1.1 u.1.2.1 u.1.2.2 (u.2.1 0) (u.2.1 1) (u.2.1 2) (u.2.1 3) (u.2.1 4) (u.2.2.1 0) (u.2.2.1 1) (u.2.2.1 2) (u.2.2.1 3) (u.2.2.1 4) u.2.2.2.1.1 u.2.2.2.1.2 u.2.2.2.2.1.1 u.2.2.2.2.1.2 (u.2.2.2.2.2.1 0) (u.2.2.2.2.2.1 1) (u.2.2.2.2.2.1 2) (u.2.2.2.2.2.1 3) (u.2.2.2.2.2.1 4) (u.2.2.2.2.2.2.1 0) (u.2.2.2.2.2.2.1 1) (u.2.2.2.2.2.2.1 2) (u.2.2.2.2.2.2.1 3) (u.2.2.2.2.2.2.1 4) u.2.2.2.2.2.2.2 ch nu le ta lt b pF pL st tm qt cm ds dr bC pFC pLC stC tmC qtC cmC dsC drC ol pz dvs us bS pFS pLS stS tmS qtS cmS dsS drS bT pFT pLT stT tmT qtT cmT dsT drT p1 p2 htr e1) (cwV 2 hts gL_tryBlock_X3_block rfl rfl rfl hdV_X3_block ⟨Nat.le_of_ble_eq_true rfl, Nat.le_of_ble_eq_true rfl⟩) hK hP hD hS hA hAm (zXW_fst g h0 u (ch, nu, le, ta, lt, (b, pF, pL, st, tm, qt, cm, ds, dr), (bC, pFC, pLC, stC, tmC, qtC, cmC, dsC, drC), ol, pz, dvs, us, (bS, pFS, pLS, stS, tmS, qtS, cmS, dsS, drS), (bT, pFT, pLT, stT, tmT, qtT, cmT, dsT, drT)) (ch, nu, le, ta, lt, (b, pF, pL, st, tm, qt, cm, ds, dr), (bC, pFC, pLC, stC, tmC, qtC, cmC, dsC, drC), ol, pz, dvs, us, (bS, pFS, pLS, stS, tmS, qtS, cmS, dsS, drS), (bT, pFT, pLT, stT, tmT, qtT, cmT, dsT, drT))) rfl rfl hl.1 rfl ⟨Nat.le_of_ble_eq_true rfl, Nat.le_of_ble_eq_true rfl⟩ dL_tryBlock_3 dL_tryBlock_6 hv0 (fun hk H1 locs1 q ce hP1 hS1 hce hcv hcl => ?_)
  rcases hv with h1 | ⟨rfl, rfl⟩ | ⟨rfl, rfl⟩
  · exact absurd h1 hk
  · refine zL_hit (k := 1) hown hAm (by decide +kernel) [] ⟨0, 6, 7, 38⟩ [⟨0, 6, 11, 13⟩] (by rw [ht]; rfl) (fun _ h => absurd h List.not_mem_nil) (by decide) (by decide) (hts _ mL_tryBlock_38) hce hcv hcl ?_
    refine lv_astore_n hx hb dL_tryBlock_7 rfl hl (by decide) rfl (fun ls hl => ?_)
    refine lv_ldc hx hb hown (hts _ mL_tryBlock_c40) dL_tryBlock_8 ?_
    exact zw_i hx hb hr hlocks hP1 hS1 dL_tryBlock_10
  · refine zL_hit (k := 2) hown hAm (by decide +kernel) [⟨0, 6, 7, 38⟩] ⟨0, 6, 11, 13⟩ [] (by rw [ht]; rfl) (fun z hz => by obtain rfl := List.mem_singleton.mp hz; exact Or.inr ⟨by decide, _, hts _ mL_tryBlock_38, hN.1⟩) (by decide) (by decide) (hts _ mL_tryBlock_13) hce hcv hcl ?_
    refine lv_astore_n hx hb dL_tryBlock_11 rfl hl (by decide) rfl (fun ls hl => ?_)
    refine lv_ldc hx hb hown (hts _ mL_tryBlock_c15) dL_tryBlock_12 ?_
    exact zw_i hx hb hr hlocks hP1 hS1 dL_tryBlock_14
def fL_tryRange (v : zXS) (p1 : Int32) (p2 : Int32) : Option (Int32 × zXS) :=
  match v with
  | (ch, nu, le, ta, lt, (b, pF, pL, st, tm, qt, cm, ds, dr), (bC, pFC, pLC, stC, tmC, qtC, cmC, dsC, drC), ol, pz, dvs, us, (bS, pFS, pLS, stS, tmS, qtS, cmS, dsS, drS), (bT, pFT, pLT, stT, tmT, qtT, cmT, dsT, drT)) => ob2 (fX3_range b pF pL st tm p1 p2) fun k r => if k = 0 then some (r, (ch, nu, le, ta, lt, (b, pF, pL, st, tm, qt, cm, ds, dr), (bC, pFC, pLC, stC, tmC, qtC, cmC, dsC, drC), ol, pz, dvs, us, (bS, pFS, pLS, stS, tmS, qtS, cmS, dsS, drS), (bT, pFT, pLT, stT, tmT, qtT, cmT, dsT, drT))) else if k = 1 then some ((-9999001), (ch, nu, le, ta, lt, (b, pF, pL, st, tm, qt, cm, ds, dr), (bC, pFC, pLC, stC, tmC, qtC, cmC, dsC, drC), ol, pz, dvs, us, (bS, pFS, pLS, stS, tmS, qtS, cmS, dsS, drS), (bT, pFT, pLT, stT, tmT, qtT, cmT, dsT, drT))) else if k = 2 then some ((-9999002), (ch, nu, le, ta, lt, (b, pF, pL, st, tm, qt, cm, ds, dr), (bC, pFC, pLC, stC, tmC, qtC, cmC, dsC, drC), ol, pz, dvs, us, (bS, pFS, pLS, stS, tmS, qtS, cmS, dsS, drS), (bT, pFT, pLT, stT, tmT, qtT, cmT, dsT, drT))) else none
theorem hdV_X3_range : yX3_range.cls = RX3 ∧ yX3_range.cls ≠ "java/lang/invoke/MethodHandle" ∧ yX3_range.cls ≠ "java/lang/invoke/VarHandle" ∧ (parseMethodDescriptor yX3_range.desc).map (fun d => d.parameters.length) = some 2 := by decide +kernel
theorem mL_tryRange_38 : Cond.classLink RL 38 (zE 1) ∈ wsL_tryRange := by decide +kernel
theorem mL_tryRange_c40 : Cond.constant RL 40 (-9999001) ∈ wsL_tryRange := by decide +kernel
theorem mL_tryRange_13 : Cond.classLink RL 13 (zE 2) ∈ wsL_tryRange := by decide +kernel
theorem mL_tryRange_c15 : Cond.constant RL 15 (-9999002) ∈ wsL_tryRange := by decide +kernel
set_option maxRecDepth 100000 in
set_option maxHeartbeats 4000000 in
theorem kL_tryRange (l : Launch) (g : zG) (h0 : Nat) (u : zAd) (v : zXS) (p1 : Int32) (p2 : Int32) (htr : l.stackTraces = false) {r' : Int32} {v' : zXS} (h : fL_tryRange v p1 p2 = some (r', v')) : Mn l g yL_tryRange wsL_tryRange { frames := 7, cells := 1, slots := 6, locals := 106 } [.ref h0, .int p1, .int p2] (zXW g h0 u v) (zWi g (zXW g h0 u v') r') 1 6 := by
  obtain ⟨ch, nu, le, ta, lt, ⟨b, pF, pL, st, tm, qt, cm, ds, dr⟩, ⟨bC, pFC, pLC, stC, tmC, qtC, cmC, dsC, drC⟩, ol, pz, dvs, us, ⟨bS, pFS, pLS, stS, tmS, qtS, cmS, dsS, drS⟩, ⟨bT, pFT, pLT, stT, tmT, qtT, cmT, dsT, drT⟩⟩ := v
  replace h : ob2 (fX3_range b pF pL st tm p1 p2) (fun k r => if k = 0 then some (r, (ch, nu, le, ta, lt, (b, pF, pL, st, tm, qt, cm, ds, dr), (bC, pFC, pLC, stC, tmC, qtC, cmC, dsC, drC), ol, pz, dvs, us, (bS, pFS, pLS, stS, tmS, qtS, cmS, dsS, drS), (bT, pFT, pLT, stT, tmT, qtT, cmT, dsT, drT))) else if k = 1 then some ((-9999001), (ch, nu, le, ta, lt, (b, pF, pL, st, tm, qt, cm, ds, dr), (bC, pFC, pLC, stC, tmC, qtC, cmC, dsC, drC), ol, pz, dvs, us, (bS, pFS, pLS, stS, tmS, qtS, cmS, dsS, drS), (bT, pFT, pLT, stT, tmT, qtT, cmT, dsT, drT))) else if k = 2 then some ((-9999002), (ch, nu, le, ta, lt, (b, pF, pL, st, tm, qt, cm, ds, dr), (bC, pFC, pLC, stC, tmC, qtC, cmC, dsC, drC), ol, pz, dvs, us, (bS, pFS, pLS, stS, tmS, qtS, cmS, dsS, drS), (bT, pFT, pLT, stT, tmT, qtT, cmT, dsT, drT))) else none) = some (r', v') := h
  obtain ⟨k, r, e1, h⟩ := zb2 h
  have hv : v' = (ch, nu, le, ta, lt, (b, pF, pL, st, tm, qt, cm, ds, dr), (bC, pFC, pLC, stC, tmC, qtC, cmC, dsC, drC), ol, pz, dvs, us, (bS, pFS, pLS, stS, tmS, qtS, cmS, dsS, drS), (bT, pFT, pLT, stT, tmT, qtT, cmT, dsT, drT)) ∧ (k = 0 → r = r') ∧ (k = 0 ∨ (k = 1 ∧ (-9999001 : Int32) = r') ∨ (k = 2 ∧ (-9999002 : Int32) = r')) := by
    by_cases c0 : k = 0
    · replace h := zt c0 h
      cases h
      exact ⟨rfl, fun _ => rfl, Or.inl c0⟩
    replace h := zf c0 h
    by_cases c1 : k = 1
    · replace h := zt c1 h
      cases h
      exact ⟨rfl, fun q => absurd q c0, Or.inr (Or.inl ⟨c1, rfl⟩)⟩
    replace h := zf c1 h
    by_cases c2 : k = 2
    · replace h := zt c2 h
      cases h
      exact ⟨rfl, fun q => absurd q c0, Or.inr (Or.inr (⟨c2, rfl⟩))⟩
    replace h := zf c2 h
    exact zn h
  clear h
  obtain ⟨rfl, hv0, hv⟩ := hv
  refine zn_in (cc := cL_tryRange) (maxL := 4) (ret := some .int) (hh := [(0, 6, 7, 38), (0, 6, 11, 13)]) (by decide) rfl (Nat.le_of_ble_eq_true rfl) ?_
  intro p e s m below meth c hx hb hr hml hts hown hlocks hK ht hN A hA hP hD hS hAm ls hl
  replace hl : lv_has ls 4 [(0, .ref h0), (1, .int p1), (2, .int p2)] := hl
  refine lv_aload_n hx hb dL_tryRange_0 rfl (lv_at hl 0 rfl) ?_
  refine lv_iload_n hx hb dL_tryRange_1 rfl (lv_at hl 1 rfl) ?_
  refine lv_iload_n hx hb dL_tryRange_2 rfl (lv_at hl 2 rfl) ?_
  refine zT_mid (As := [.int p1, .int p2]) ⟨hx, hb, hml, hown, hts⟩ hr hlocks (kX3_range l g h0 u.1.1 u.1.2.1 u.1.2.2 (u.2.1 0) (u.2.1 1) (u.2.1 2) (u.2.1 3) (u.2.1 4) (u.2.2.1 0) (u.2.2.1 1) (u.2.2.1 2) (u.2.2.1 3) (u.2.2.1 4) u.2.2.2.1.1 u.2.2.2.1.2 u.2.2.2.2.1.1 u.2.2.2.2.1.2 (u.2.2.2.2.2.1 0) (u.2.2.2.2.2.1 1) (u.2.2.2.2.2.1 2) (u.2.2.2.2.2.1 3) (u.2.2.2.2.2.1 4) (u.2.2.2.2.2.2.1 0) (u.2.2.2.2.2.2.1 1) (u.2.2.2.2.2.2.1 2) (u.2.2.2.2.2.2.1 3) (u.2.2.2.2.2.2.1 4) u.2.2.2.2.2.2.2 ch nu le ta lt b pF pL st tm qt cm ds dr bC pFC pLC stC tmC qtC cmC dsC drC ol pz dvs us bS pFS pLS stS tmS qtS cmS dsS drS bT pFT pLT stT tmT qtT cmT dsT drT p1 p2 htr e1) (cwV 2 hts gL_tryRange_X3_range rfl rfl rfl hdV_X3_range ⟨Nat.le_of_ble_eq_true rfl, Nat.le_of_ble_eq_true rfl⟩) hK hP hD hS hA hAm (zXW_fst g h0 u (ch, nu, le, ta, lt, (b, pF, pL, st, tm, qt, cm, ds, dr), (bC, pFC, pLC, stC, tmC, qtC, cmC, dsC, drC), ol, pz, dvs, us, (bS, pFS, pLS, stS, tmS, qtS, cmS, dsS, drS), (bT, pFT, pLT, stT, tmT, qtT, cmT, dsT, drT)) (ch, nu, le, ta, lt, (b, pF, pL, st, tm, qt, cm, ds, dr), (bC, pFC, pLC, stC, tmC, qtC, cmC, dsC, drC), ol, pz, dvs, us, (bS, pFS, pLS, stS, tmS, qtS, cmS, dsS, drS), (bT, pFT, pLT, stT, tmT, qtT, cmT, dsT, drT))) rfl rfl hl.1 rfl ⟨Nat.le_of_ble_eq_true rfl, Nat.le_of_ble_eq_true rfl⟩ dL_tryRange_3 dL_tryRange_6 hv0 (fun hk H1 locs1 q ce hP1 hS1 hce hcv hcl => ?_)
  rcases hv with h1 | ⟨rfl, rfl⟩ | ⟨rfl, rfl⟩
  · exact absurd h1 hk
  · refine zL_hit (k := 1) hown hAm (by decide +kernel) [] ⟨0, 6, 7, 38⟩ [⟨0, 6, 11, 13⟩] (by rw [ht]; rfl) (fun _ h => absurd h List.not_mem_nil) (by decide) (by decide) (hts _ mL_tryRange_38) hce hcv hcl ?_
    refine lv_astore_n hx hb dL_tryRange_7 rfl hl (by decide) rfl (fun ls hl => ?_)
    refine lv_ldc hx hb hown (hts _ mL_tryRange_c40) dL_tryRange_8 ?_
    exact zw_i hx hb hr hlocks hP1 hS1 dL_tryRange_10
  · refine zL_hit (k := 2) hown hAm (by decide +kernel) [⟨0, 6, 7, 38⟩] ⟨0, 6, 11, 13⟩ [] (by rw [ht]; rfl) (fun z hz => by obtain rfl := List.mem_singleton.mp hz; exact Or.inr ⟨by decide, _, hts _ mL_tryRange_38, hN.1⟩) (by decide) (by decide) (hts _ mL_tryRange_13) hce hcv hcl ?_
    refine lv_astore_n hx hb dL_tryRange_11 rfl hl (by decide) rfl (fun ls hl => ?_)
    refine lv_ldc hx hb hown (hts _ mL_tryRange_c15) dL_tryRange_12 ?_
    exact zw_i hx hb hr hlocks hP1 hS1 dL_tryRange_14
def fL_tryPinned (v : zXS) (p1 : Int32) (p2 : Int32) : Option (Int32 × zXS) :=
  match v with
  | (ch, nu, le, ta, lt, (b, pF, pL, st, tm, qt, cm, ds, dr), (bC, pFC, pLC, stC, tmC, qtC, cmC, dsC, drC), ol, pz, dvs, us, (bS, pFS, pLS, stS, tmS, qtS, cmS, dsS, drS), (bT, pFT, pLT, stT, tmT, qtT, cmT, dsT, drT)) => ob2 (fX3_pinned pF pL p1 p2) fun k r => if k = 0 then some (r, (ch, nu, le, ta, lt, (b, pF, pL, st, tm, qt, cm, ds, dr), (bC, pFC, pLC, stC, tmC, qtC, cmC, dsC, drC), ol, pz, dvs, us, (bS, pFS, pLS, stS, tmS, qtS, cmS, dsS, drS), (bT, pFT, pLT, stT, tmT, qtT, cmT, dsT, drT))) else if k = 1 then some ((-9999001), (ch, nu, le, ta, lt, (b, pF, pL, st, tm, qt, cm, ds, dr), (bC, pFC, pLC, stC, tmC, qtC, cmC, dsC, drC), ol, pz, dvs, us, (bS, pFS, pLS, stS, tmS, qtS, cmS, dsS, drS), (bT, pFT, pLT, stT, tmT, qtT, cmT, dsT, drT))) else if k = 2 then some ((-9999002), (ch, nu, le, ta, lt, (b, pF, pL, st, tm, qt, cm, ds, dr), (bC, pFC, pLC, stC, tmC, qtC, cmC, dsC, drC), ol, pz, dvs, us, (bS, pFS, pLS, stS, tmS, qtS, cmS, dsS, drS), (bT, pFT, pLT, stT, tmT, qtT, cmT, dsT, drT))) else none
theorem hdV_X3_pinned : yX3_pinned.cls = RX3 ∧ yX3_pinned.cls ≠ "java/lang/invoke/MethodHandle" ∧ yX3_pinned.cls ≠ "java/lang/invoke/VarHandle" ∧ (parseMethodDescriptor yX3_pinned.desc).map (fun d => d.parameters.length) = some 2 := by decide +kernel
theorem mL_tryPinned_38 : Cond.classLink RL 38 (zE 1) ∈ wsL_tryPinned := by decide +kernel
theorem mL_tryPinned_c40 : Cond.constant RL 40 (-9999001) ∈ wsL_tryPinned := by decide +kernel
theorem mL_tryPinned_13 : Cond.classLink RL 13 (zE 2) ∈ wsL_tryPinned := by decide +kernel
theorem mL_tryPinned_c15 : Cond.constant RL 15 (-9999002) ∈ wsL_tryPinned := by decide +kernel
set_option maxRecDepth 100000 in
set_option maxHeartbeats 4000000 in
theorem kL_tryPinned (l : Launch) (g : zG) (h0 : Nat) (u : zAd) (v : zXS) (p1 : Int32) (p2 : Int32) (htr : l.stackTraces = false) {r' : Int32} {v' : zXS} (h : fL_tryPinned v p1 p2 = some (r', v')) : Mn l g yL_tryPinned wsL_tryPinned { frames := 8, cells := 2, slots := 12, locals := 124 } [.ref h0, .int p1, .int p2] (zXW g h0 u v) (zWi g (zXW g h0 u v') r') 2 12 := by
  obtain ⟨ch, nu, le, ta, lt, ⟨b, pF, pL, st, tm, qt, cm, ds, dr⟩, ⟨bC, pFC, pLC, stC, tmC, qtC, cmC, dsC, drC⟩, ol, pz, dvs, us, ⟨bS, pFS, pLS, stS, tmS, qtS, cmS, dsS, drS⟩, ⟨bT, pFT, pLT, stT, tmT, qtT, cmT, dsT, drT⟩⟩ := v
  replace h : ob2 (fX3_pinned pF pL p1 p2) (fun k r => if k = 0 then some (r, (ch, nu, le, ta, lt, (b, pF, pL, st, tm, qt, cm, ds, dr), (bC, pFC, pLC, stC, tmC, qtC, cmC, dsC, drC), ol, pz, dvs, us, (bS, pFS, pLS, stS, tmS, qtS, cmS, dsS, drS), (bT, pFT, pLT, stT, tmT, qtT, cmT, dsT, drT))) else if k = 1 then some ((-9999001), (ch, nu, le, ta, lt, (b, pF, pL, st, tm, qt, cm, ds, dr), (bC, pFC, pLC, stC, tmC, qtC, cmC, dsC, drC), ol, pz, dvs, us, (bS, pFS, pLS, stS, tmS, qtS, cmS, dsS, drS), (bT, pFT, pLT, stT, tmT, qtT, cmT, dsT, drT))) else if k = 2 then some ((-9999002), (ch, nu, le, ta, lt, (b, pF, pL, st, tm, qt, cm, ds, dr), (bC, pFC, pLC, stC, tmC, qtC, cmC, dsC, drC), ol, pz, dvs, us, (bS, pFS, pLS, stS, tmS, qtS, cmS, dsS, drS), (bT, pFT, pLT, stT, tmT, qtT, cmT, dsT, drT))) else none) = some (r', v') := h
  obtain ⟨k, r, e1, h⟩ := zb2 h
  have hv : v' = (ch, nu, le, ta, lt, (b, pF, pL, st, tm, qt, cm, ds, dr), (bC, pFC, pLC, stC, tmC, qtC, cmC, dsC, drC), ol, pz, dvs, us, (bS, pFS, pLS, stS, tmS, qtS, cmS, dsS, drS), (bT, pFT, pLT, stT, tmT, qtT, cmT, dsT, drT)) ∧ (k = 0 → r = r') ∧ (k = 0 ∨ (k = 1 ∧ (-9999001 : Int32) = r') ∨ (k = 2 ∧ (-9999002 : Int32) = r')) := by
    by_cases c0 : k = 0
    · replace h := zt c0 h
      cases h
      exact ⟨rfl, fun _ => rfl, Or.inl c0⟩
    replace h := zf c0 h
    by_cases c1 : k = 1
    · replace h := zt c1 h
      cases h
      exact ⟨rfl, fun q => absurd q c0, Or.inr (Or.inl ⟨c1, rfl⟩)⟩
    replace h := zf c1 h
    by_cases c2 : k = 2
    · replace h := zt c2 h
      cases h
      exact ⟨rfl, fun q => absurd q c0, Or.inr (Or.inr (⟨c2, rfl⟩))⟩
    replace h := zf c2 h
    exact zn h
  clear h
  obtain ⟨rfl, hv0, hv⟩ := hv
  refine zn_in (cc := cL_tryPinned) (maxL := 4) (ret := some .int) (hh := [(0, 6, 7, 38), (0, 6, 11, 13)]) (by decide) rfl (Nat.le_of_ble_eq_true rfl) ?_
  intro p e s m below meth c hx hb hr hml hts hown hlocks hK ht hN A hA hP hD hS hAm ls hl
  replace hl : lv_has ls 4 [(0, .ref h0), (1, .int p1), (2, .int p2)] := hl
  refine lv_aload_n hx hb dL_tryPinned_0 rfl (lv_at hl 0 rfl) ?_
  refine lv_iload_n hx hb dL_tryPinned_1 rfl (lv_at hl 1 rfl) ?_
  refine lv_iload_n hx hb dL_tryPinned_2 rfl (lv_at hl 2 rfl) ?_
  refine zT_mid (As := [.int p1, .int p2]) ⟨hx, hb, hml, hown, hts⟩ hr hlocks (kX3_pinned l g h0 u.1.1 u.1.2.1 u.1.2.2 (u.2.1 0) (u.2.1 1) (u.2.1 2) (u.2.1 3) (u.2.1 4) (u.2.2.1 0) (u.2.2.1 1) (u.2.2.1 2) (u.2.2.1 3) (u.2.2.1 4) u.2.2.2.1.1 u.2.2.2.1.2 u.2.2.2.2.1.1 u.2.2.2.2.1.2 (u.2.2.2.2.2.1 0) (u.2.2.2.2.2.1 1) (u.2.2.2.2.2.1 2) (u.2.2.2.2.2.1 3) (u.2.2.2.2.2.1 4) (u.2.2.2.2.2.2.1 0) (u.2.2.2.2.2.2.1 1) (u.2.2.2.2.2.2.1 2) (u.2.2.2.2.2.2.1 3) (u.2.2.2.2.2.2.1 4) u.2.2.2.2.2.2.2 ch nu le ta lt b pF pL st tm qt cm ds dr bC pFC pLC stC tmC qtC cmC dsC drC ol pz dvs us bS pFS pLS stS tmS qtS cmS dsS drS bT pFT pLT stT tmT qtT cmT dsT drT p1 p2 htr e1) (cwV 2 hts gL_tryPinned_X3_pinned rfl rfl rfl hdV_X3_pinned ⟨Nat.le_of_ble_eq_true rfl, Nat.le_of_ble_eq_true rfl⟩) hK hP hD hS hA hAm (zXW_fst g h0 u (ch, nu, le, ta, lt, (b, pF, pL, st, tm, qt, cm, ds, dr), (bC, pFC, pLC, stC, tmC, qtC, cmC, dsC, drC), ol, pz, dvs, us, (bS, pFS, pLS, stS, tmS, qtS, cmS, dsS, drS), (bT, pFT, pLT, stT, tmT, qtT, cmT, dsT, drT)) (ch, nu, le, ta, lt, (b, pF, pL, st, tm, qt, cm, ds, dr), (bC, pFC, pLC, stC, tmC, qtC, cmC, dsC, drC), ol, pz, dvs, us, (bS, pFS, pLS, stS, tmS, qtS, cmS, dsS, drS), (bT, pFT, pLT, stT, tmT, qtT, cmT, dsT, drT))) rfl rfl hl.1 rfl ⟨Nat.le_of_ble_eq_true rfl, Nat.le_of_ble_eq_true rfl⟩ dL_tryPinned_3 dL_tryPinned_6 hv0 (fun hk H1 locs1 q ce hP1 hS1 hce hcv hcl => ?_)
  rcases hv with h1 | ⟨rfl, rfl⟩ | ⟨rfl, rfl⟩
  · exact absurd h1 hk
  · refine zL_hit (k := 1) hown hAm (by decide +kernel) [] ⟨0, 6, 7, 38⟩ [⟨0, 6, 11, 13⟩] (by rw [ht]; rfl) (fun _ h => absurd h List.not_mem_nil) (by decide) (by decide) (hts _ mL_tryPinned_38) hce hcv hcl ?_
    refine lv_astore_n hx hb dL_tryPinned_7 rfl hl (by decide) rfl (fun ls hl => ?_)
    refine lv_ldc hx hb hown (hts _ mL_tryPinned_c40) dL_tryPinned_8 ?_
    exact zw_i hx hb hr hlocks hP1 hS1 dL_tryPinned_10
  · refine zL_hit (k := 2) hown hAm (by decide +kernel) [⟨0, 6, 7, 38⟩] ⟨0, 6, 11, 13⟩ [] (by rw [ht]; rfl) (fun z hz => by obtain rfl := List.mem_singleton.mp hz; exact Or.inr ⟨by decide, _, hts _ mL_tryPinned_38, hN.1⟩) (by decide) (by decide) (hts _ mL_tryPinned_13) hce hcv hcl ?_
    refine lv_astore_n hx hb dL_tryPinned_11 rfl hl (by decide) rfl (fun ls hl => ?_)
    refine lv_ldc hx hb hown (hts _ mL_tryPinned_c15) dL_tryPinned_12 ?_
    exact zw_i hx hb hr hlocks hP1 hS1 dL_tryPinned_14
def fL_trySetting (v : zXS) (p1 : Int32) : Option (Int32 × zXS) :=
  match v with
  | (ch, nu, le, ta, lt, (b, pF, pL, st, tm, qt, cm, ds, dr), (bC, pFC, pLC, stC, tmC, qtC, cmC, dsC, drC), ol, pz, dvs, us, (bS, pFS, pLS, stS, tmS, qtS, cmS, dsS, drS), (bT, pFT, pLT, stT, tmT, qtT, cmT, dsT, drT)) => ob2 (fX3_setting st p1) fun k r => if k = 0 then some (r, (ch, nu, le, ta, lt, (b, pF, pL, st, tm, qt, cm, ds, dr), (bC, pFC, pLC, stC, tmC, qtC, cmC, dsC, drC), ol, pz, dvs, us, (bS, pFS, pLS, stS, tmS, qtS, cmS, dsS, drS), (bT, pFT, pLT, stT, tmT, qtT, cmT, dsT, drT))) else if k = 2 then some ((-9999002), (ch, nu, le, ta, lt, (b, pF, pL, st, tm, qt, cm, ds, dr), (bC, pFC, pLC, stC, tmC, qtC, cmC, dsC, drC), ol, pz, dvs, us, (bS, pFS, pLS, stS, tmS, qtS, cmS, dsS, drS), (bT, pFT, pLT, stT, tmT, qtT, cmT, dsT, drT))) else none
theorem hdV_X3_setting : yX3_setting.cls = RX3 ∧ yX3_setting.cls ≠ "java/lang/invoke/MethodHandle" ∧ yX3_setting.cls ≠ "java/lang/invoke/VarHandle" ∧ (parseMethodDescriptor yX3_setting.desc).map (fun d => d.parameters.length) = some 1 := by decide +kernel
theorem mL_trySetting_13 : Cond.classLink RL 13 (zE 2) ∈ wsL_trySetting := by decide +kernel
theorem mL_trySetting_c15 : Cond.constant RL 15 (-9999002) ∈ wsL_trySetting := by decide +kernel
set_option maxRecDepth 100000 in
set_option maxHeartbeats 4000000 in
theorem kL_trySetting (l : Launch) (g : zG) (h0 : Nat) (u : zAd) (v : zXS) (p1 : Int32) (htr : l.stackTraces = false) {r' : Int32} {v' : zXS} (h : fL_trySetting v p1 = some (r', v')) : Mn l g yL_trySetting wsL_trySetting { frames := 7, cells := 1, slots := 6, locals := 103 } [.ref h0, .int p1] (zXW g h0 u v) (zWi g (zXW g h0 u v') r') 1 6 := by
  obtain ⟨ch, nu, le, ta, lt, ⟨b, pF, pL, st, tm, qt, cm, ds, dr⟩, ⟨bC, pFC, pLC, stC, tmC, qtC, cmC, dsC, drC⟩, ol, pz, dvs, us, ⟨bS, pFS, pLS, stS, tmS, qtS, cmS, dsS, drS⟩, ⟨bT, pFT, pLT, stT, tmT, qtT, cmT, dsT, drT⟩⟩ := v
  replace h : ob2 (fX3_setting st p1) (fun k r => if k = 0 then some (r, (ch, nu, le, ta, lt, (b, pF, pL, st, tm, qt, cm, ds, dr), (bC, pFC, pLC, stC, tmC, qtC, cmC, dsC, drC), ol, pz, dvs, us, (bS, pFS, pLS, stS, tmS, qtS, cmS, dsS, drS), (bT, pFT, pLT, stT, tmT, qtT, cmT, dsT, drT))) else if k = 2 then some ((-9999002), (ch, nu, le, ta, lt, (b, pF, pL, st, tm, qt, cm, ds, dr), (bC, pFC, pLC, stC, tmC, qtC, cmC, dsC, drC), ol, pz, dvs, us, (bS, pFS, pLS, stS, tmS, qtS, cmS, dsS, drS), (bT, pFT, pLT, stT, tmT, qtT, cmT, dsT, drT))) else none) = some (r', v') := h
  obtain ⟨k, r, e1, h⟩ := zb2 h
  have hv : v' = (ch, nu, le, ta, lt, (b, pF, pL, st, tm, qt, cm, ds, dr), (bC, pFC, pLC, stC, tmC, qtC, cmC, dsC, drC), ol, pz, dvs, us, (bS, pFS, pLS, stS, tmS, qtS, cmS, dsS, drS), (bT, pFT, pLT, stT, tmT, qtT, cmT, dsT, drT)) ∧ (k = 0 → r = r') ∧ (k = 0 ∨ (k = 2 ∧ (-9999002 : Int32) = r')) := by
    by_cases c0 : k = 0
    · replace h := zt c0 h
      cases h
      exact ⟨rfl, fun _ => rfl, Or.inl c0⟩
    replace h := zf c0 h
    by_cases c1 : k = 2
    · replace h := zt c1 h
      cases h
      exact ⟨rfl, fun q => absurd q c0, Or.inr (⟨c1, rfl⟩)⟩
    replace h := zf c1 h
    exact zn h
  clear h
  obtain ⟨rfl, hv0, hv⟩ := hv
  refine zn_in (cc := cL_trySetting) (maxL := 3) (ret := some .int) (hh := [(0, 5, 6, 13)]) (by decide) rfl (Nat.le_of_ble_eq_true rfl) ?_
  intro p e s m below meth c hx hb hr hml hts hown hlocks hK ht hN A hA hP hD hS hAm ls hl
  replace hl : lv_has ls 3 [(0, .ref h0), (1, .int p1)] := hl
  refine lv_aload_n hx hb dL_trySetting_0 rfl (lv_at hl 0 rfl) ?_
  refine lv_iload_n hx hb dL_trySetting_1 rfl (lv_at hl 1 rfl) ?_
  refine zT_mid (As := [.int p1]) ⟨hx, hb, hml, hown, hts⟩ hr hlocks (kX3_setting l g h0 u.1.1 u.1.2.1 u.1.2.2 (u.2.1 0) (u.2.1 1) (u.2.1 2) (u.2.1 3) (u.2.1 4) (u.2.2.1 0) (u.2.2.1 1) (u.2.2.1 2) (u.2.2.1 3) (u.2.2.1 4) u.2.2.2.1.1 u.2.2.2.1.2 u.2.2.2.2.1.1 u.2.2.2.2.1.2 (u.2.2.2.2.2.1 0) (u.2.2.2.2.2.1 1) (u.2.2.2.2.2.1 2) (u.2.2.2.2.2.1 3) (u.2.2.2.2.2.1 4) (u.2.2.2.2.2.2.1 0) (u.2.2.2.2.2.2.1 1) (u.2.2.2.2.2.2.1 2) (u.2.2.2.2.2.2.1 3) (u.2.2.2.2.2.2.1 4) u.2.2.2.2.2.2.2 ch nu le ta lt b pF pL st tm qt cm ds dr bC pFC pLC stC tmC qtC cmC dsC drC ol pz dvs us bS pFS pLS stS tmS qtS cmS dsS drS bT pFT pLT stT tmT qtT cmT dsT drT p1 htr e1) (cwV 1 hts gL_trySetting_X3_setting rfl rfl rfl hdV_X3_setting ⟨Nat.le_of_ble_eq_true rfl, Nat.le_of_ble_eq_true rfl⟩) hK hP hD hS hA hAm (zXW_fst g h0 u (ch, nu, le, ta, lt, (b, pF, pL, st, tm, qt, cm, ds, dr), (bC, pFC, pLC, stC, tmC, qtC, cmC, dsC, drC), ol, pz, dvs, us, (bS, pFS, pLS, stS, tmS, qtS, cmS, dsS, drS), (bT, pFT, pLT, stT, tmT, qtT, cmT, dsT, drT)) (ch, nu, le, ta, lt, (b, pF, pL, st, tm, qt, cm, ds, dr), (bC, pFC, pLC, stC, tmC, qtC, cmC, dsC, drC), ol, pz, dvs, us, (bS, pFS, pLS, stS, tmS, qtS, cmS, dsS, drS), (bT, pFT, pLT, stT, tmT, qtT, cmT, dsT, drT))) rfl rfl hl.1 rfl ⟨Nat.le_of_ble_eq_true rfl, Nat.le_of_ble_eq_true rfl⟩ dL_trySetting_2 dL_trySetting_5 hv0 (fun hk H1 locs1 q ce hP1 hS1 hce hcv hcl => ?_)
  rcases hv with h1 | ⟨rfl, rfl⟩
  · exact absurd h1 hk
  · refine zL_hit (k := 2) hown hAm (by decide +kernel) [] ⟨0, 5, 6, 13⟩ [] (by rw [ht]; rfl) (fun _ h => absurd h List.not_mem_nil) (by decide) (by decide) (hts _ mL_trySetting_13) hce hcv hcl ?_
    refine lv_astore_n hx hb dL_trySetting_6 rfl hl (by decide) rfl (fun ls hl => ?_)
    refine lv_ldc hx hb hown (hts _ mL_trySetting_c15) dL_trySetting_7 ?_
    exact zw_i hx hb hr hlocks hP1 hS1 dL_trySetting_9
def fL_tryWrite (v : zXS) (p1 : Int32) (p2 : Int32) : Option (Int32 × zXS) :=
  match v with
  | (ch, nu, le, ta, lt, (b, pF, pL, st, tm, qt, cm, ds, dr), (bC, pFC, pLC, stC, tmC, qtC, cmC, dsC, drC), ol, pz, dvs, us, (bS, pFS, pLS, stS, tmS, qtS, cmS, dsS, drS), (bT, pFT, pLT, stT, tmT, qtT, cmT, dsT, drT)) => ob8 (fX3_write b pF pL st tm qt cm ds dr ol pz dvs p1 p2) fun k r b2 qt2 dr2 ol2 pz2 dvs2 => if k = 0 then some (r, (ch, nu, le, ta, lt, (b2, pF, pL, st, tm, qt2, cm, ds, dr2), (bC, pFC, pLC, stC, tmC, qtC, cmC, dsC, drC), ol2, pz2, dvs2, us, (bS, pFS, pLS, stS, tmS, qtS, cmS, dsS, drS), (bT, pFT, pLT, stT, tmT, qtT, cmT, dsT, drT))) else if k = 1 then some ((-9999001), (ch, nu, le, ta, lt, (b2, pF, pL, st, tm, qt2, cm, ds, dr2), (bC, pFC, pLC, stC, tmC, qtC, cmC, dsC, drC), ol2, pz2, dvs2, us, (bS, pFS, pLS, stS, tmS, qtS, cmS, dsS, drS), (bT, pFT, pLT, stT, tmT, qtT, cmT, dsT, drT))) else if k = 2 then some ((-9999002), (ch, nu, le, ta, lt, (b2, pF, pL, st, tm, qt2, cm, ds, dr2), (bC, pFC, pLC, stC, tmC, qtC, cmC, dsC, drC), ol2, pz2, dvs2, us, (bS, pFS, pLS, stS, tmS, qtS, cmS, dsS, drS), (bT, pFT, pLT, stT, tmT, qtT, cmT, dsT, drT))) else if k = 3 then some ((-9999003), (ch, nu, le, ta, lt, (b2, pF, pL, st, tm, qt2, cm, ds, dr2), (bC, pFC, pLC, stC, tmC, qtC, cmC, dsC, drC), ol2, pz2, dvs2, us, (bS, pFS, pLS, stS, tmS, qtS, cmS, dsS, drS), (bT, pFT, pLT, stT, tmT, qtT, cmT, dsT, drT))) else none
theorem hdV_X3_write : yX3_write.cls = RX3 ∧ yX3_write.cls ≠ "java/lang/invoke/MethodHandle" ∧ yX3_write.cls ≠ "java/lang/invoke/VarHandle" ∧ (parseMethodDescriptor yX3_write.desc).map (fun d => d.parameters.length) = some 2 := by decide +kernel
theorem mL_tryWrite_38 : Cond.classLink RL 38 (zE 1) ∈ wsL_tryWrite := by decide +kernel
theorem mL_tryWrite_c40 : Cond.constant RL 40 (-9999001) ∈ wsL_tryWrite := by decide +kernel
theorem mL_tryWrite_13 : Cond.classLink RL 13 (zE 2) ∈ wsL_tryWrite := by decide +kernel
theorem mL_tryWrite_c15 : Cond.constant RL 15 (-9999002) ∈ wsL_tryWrite := by decide +kernel
theorem mL_tryWrite_24 : Cond.classLink RL 24 (zE 3) ∈ wsL_tryWrite := by decide +kernel
theorem mL_tryWrite_c26 : Cond.constant RL 26 (-9999003) ∈ wsL_tryWrite := by decide +kernel
set_option maxRecDepth 100000 in
set_option maxHeartbeats 4000000 in
theorem kL_tryWrite (l : Launch) (g : zG) (h0 : Nat) (u : zAd) (v : zXS) (p1 : Int32) (p2 : Int32) (htr : l.stackTraces = false) {r' : Int32} {v' : zXS} (h : fL_tryWrite v p1 p2 = some (r', v')) : Mn l g yL_tryWrite wsL_tryWrite { frames := 9, cells := 2, slots := 12, locals := 145 } [.ref h0, .int p1, .int p2] (zXW g h0 u v) (zWi g (zXW g h0 u v') r') 2 12 := by
  obtain ⟨ch, nu, le, ta, lt, ⟨b, pF, pL, st, tm, qt, cm, ds, dr⟩, ⟨bC, pFC, pLC, stC, tmC, qtC, cmC, dsC, drC⟩, ol, pz, dvs, us, ⟨bS, pFS, pLS, stS, tmS, qtS, cmS, dsS, drS⟩, ⟨bT, pFT, pLT, stT, tmT, qtT, cmT, dsT, drT⟩⟩ := v
  replace h : ob8 (fX3_write b pF pL st tm qt cm ds dr ol pz dvs p1 p2) (fun k r b2 qt2 dr2 ol2 pz2 dvs2 => if k = 0 then some (r, (ch, nu, le, ta, lt, (b2, pF, pL, st, tm, qt2, cm, ds, dr2), (bC, pFC, pLC, stC, tmC, qtC, cmC, dsC, drC), ol2, pz2, dvs2, us, (bS, pFS, pLS, stS, tmS, qtS, cmS, dsS, drS), (bT, pFT, pLT, stT, tmT, qtT, cmT, dsT, drT))) else if k = 1 then some ((-9999001), (ch, nu, le, ta, lt, (b2, pF, pL, st, tm, qt2, cm, ds, dr2), (bC, pFC, pLC, stC, tmC, qtC, cmC, dsC, drC), ol2, pz2, dvs2, us, (bS, pFS, pLS, stS, tmS, qtS, cmS, dsS, drS), (bT, pFT, pLT, stT, tmT, qtT, cmT, dsT, drT))) else if k = 2 then some ((-9999002), (ch, nu, le, ta, lt, (b2, pF, pL, st, tm, qt2, cm, ds, dr2), (bC, pFC, pLC, stC, tmC, qtC, cmC, dsC, drC), ol2, pz2, dvs2, us, (bS, pFS, pLS, stS, tmS, qtS, cmS, dsS, drS), (bT, pFT, pLT, stT, tmT, qtT, cmT, dsT, drT))) else if k = 3 then some ((-9999003), (ch, nu, le, ta, lt, (b2, pF, pL, st, tm, qt2, cm, ds, dr2), (bC, pFC, pLC, stC, tmC, qtC, cmC, dsC, drC), ol2, pz2, dvs2, us, (bS, pFS, pLS, stS, tmS, qtS, cmS, dsS, drS), (bT, pFT, pLT, stT, tmT, qtT, cmT, dsT, drT))) else none) = some (r', v') := h
  obtain ⟨k, r, b2, qt2, dr2, ol2, pz2, dvs2, e1, h⟩ := zb8 h
  have hv : v' = (ch, nu, le, ta, lt, (b2, pF, pL, st, tm, qt2, cm, ds, dr2), (bC, pFC, pLC, stC, tmC, qtC, cmC, dsC, drC), ol2, pz2, dvs2, us, (bS, pFS, pLS, stS, tmS, qtS, cmS, dsS, drS), (bT, pFT, pLT, stT, tmT, qtT, cmT, dsT, drT)) ∧ (k = 0 → r = r') ∧ (k = 0 ∨ (k = 1 ∧ (-9999001 : Int32) = r') ∨ (k = 2 ∧ (-9999002 : Int32) = r') ∨ (k = 3 ∧ (-9999003 : Int32) = r')) := by
    by_cases c0 : k = 0
    · replace h := zt c0 h
      cases h
      exact ⟨rfl, fun _ => rfl, Or.inl c0⟩
    replace h := zf c0 h
    by_cases c1 : k = 1
    · replace h := zt c1 h
      cases h
      exact ⟨rfl, fun q => absurd q c0, Or.inr (Or.inl ⟨c1, rfl⟩)⟩
    replace h := zf c1 h
    by_cases c2 : k = 2
    · replace h := zt c2 h
      cases h
      exact ⟨rfl, fun q => absurd q c0, Or.inr (Or.inr (Or.inl ⟨c2, rfl⟩))⟩
    replace h := zf c2 h
    by_cases c3 : k = 3
    · replace h := zt c3 h
      cases h
      exact ⟨rfl, fun q => absurd q c0, Or.inr (Or.inr (Or.inr (⟨c3, rfl⟩)))⟩
    replace h := zf c3 h
    exact zn h
  clear h
  obtain ⟨rfl, hv0, hv⟩ := hv
  refine zn_in (cc := cL_tryWrite) (maxL := 4) (ret := some .int) (hh := [(0, 6, 7, 38), (0, 6, 11, 13), (0, 6, 15, 24)]) (by decide) rfl (Nat.le_of_ble_eq_true rfl) ?_
  intro p e s m below meth c hx hb hr hml hts hown hlocks hK ht hN A hA hP hD hS hAm ls hl
  replace hl : lv_has ls 4 [(0, .ref h0), (1, .int p1), (2, .int p2)] := hl
  refine lv_aload_n hx hb dL_tryWrite_0 rfl (lv_at hl 0 rfl) ?_
  refine lv_iload_n hx hb dL_tryWrite_1 rfl (lv_at hl 1 rfl) ?_
  refine lv_iload_n hx hb dL_tryWrite_2 rfl (lv_at hl 2 rfl) ?_
  refine zT_mid (As := [.int p1, .int p2]) ⟨hx, hb, hml, hown, hts⟩ hr hlocks (kX3_write l g h0 u.1.1 u.1.2.1 u.1.2.2 (u.2.1 0) (u.2.1 1) (u.2.1 2) (u.2.1 3) (u.2.1 4) (u.2.2.1 0) (u.2.2.1 1) (u.2.2.1 2) (u.2.2.1 3) (u.2.2.1 4) u.2.2.2.1.1 u.2.2.2.1.2 u.2.2.2.2.1.1 u.2.2.2.2.1.2 (u.2.2.2.2.2.1 0) (u.2.2.2.2.2.1 1) (u.2.2.2.2.2.1 2) (u.2.2.2.2.2.1 3) (u.2.2.2.2.2.1 4) (u.2.2.2.2.2.2.1 0) (u.2.2.2.2.2.2.1 1) (u.2.2.2.2.2.2.1 2) (u.2.2.2.2.2.2.1 3) (u.2.2.2.2.2.2.1 4) u.2.2.2.2.2.2.2 ch nu le ta lt b pF pL st tm qt cm ds dr bC pFC pLC stC tmC qtC cmC dsC drC ol pz dvs us bS pFS pLS stS tmS qtS cmS dsS drS bT pFT pLT stT tmT qtT cmT dsT drT p1 p2 htr e1) (cwV 2 hts gL_tryWrite_X3_write rfl rfl rfl hdV_X3_write ⟨Nat.le_of_ble_eq_true rfl, Nat.le_of_ble_eq_true rfl⟩) hK hP hD hS hA hAm (zXW_fst g h0 u (ch, nu, le, ta, lt, (b, pF, pL, st, tm, qt, cm, ds, dr), (bC, pFC, pLC, stC, tmC, qtC, cmC, dsC, drC), ol, pz, dvs, us, (bS, pFS, pLS, stS, tmS, qtS, cmS, dsS, drS), (bT, pFT, pLT, stT, tmT, qtT, cmT, dsT, drT)) (ch, nu, le, ta, lt, (b2, pF, pL, st, tm, qt2, cm, ds, dr2), (bC, pFC, pLC, stC, tmC, qtC, cmC, dsC, drC), ol2, pz2, dvs2, us, (bS, pFS, pLS, stS, tmS, qtS, cmS, dsS, drS), (bT, pFT, pLT, stT, tmT, qtT, cmT, dsT, drT))) rfl rfl hl.1 rfl ⟨Nat.le_of_ble_eq_true rfl, Nat.le_of_ble_eq_true rfl⟩ dL_tryWrite_3 dL_tryWrite_6 hv0 (fun hk H1 locs1 q ce hP1 hS1 hce hcv hcl => ?_)
  rcases hv with h1 | ⟨rfl, rfl⟩ | ⟨rfl, rfl⟩ | ⟨rfl, rfl⟩
  · exact absurd h1 hk
  · refine zL_hit (k := 1) hown hAm (by decide +kernel) [] ⟨0, 6, 7, 38⟩ [⟨0, 6, 11, 13⟩, ⟨0, 6, 15, 24⟩] (by rw [ht]; rfl) (fun _ h => absurd h List.not_mem_nil) (by decide) (by decide) (hts _ mL_tryWrite_38) hce hcv hcl ?_
    refine lv_astore_n hx hb dL_tryWrite_7 rfl hl (by decide) rfl (fun ls hl => ?_)
    refine lv_ldc hx hb hown (hts _ mL_tryWrite_c40) dL_tryWrite_8 ?_
    exact zw_i hx hb hr hlocks hP1 hS1 dL_tryWrite_10
  · refine zL_hit (k := 2) hown hAm (by decide +kernel) [⟨0, 6, 7, 38⟩] ⟨0, 6, 11, 13⟩ [⟨0, 6, 15, 24⟩] (by rw [ht]; rfl) (fun z hz => by obtain rfl := List.mem_singleton.mp hz; exact Or.inr ⟨by decide, _, hts _ mL_tryWrite_38, hN.1⟩) (by decide) (by decide) (hts _ mL_tryWrite_13) hce hcv hcl ?_
    refine lv_astore_n hx hb dL_tryWrite_11 rfl hl (by decide) rfl (fun ls hl => ?_)
    refine lv_ldc hx hb hown (hts _ mL_tryWrite_c15) dL_tryWrite_12 ?_
    exact zw_i hx hb hr hlocks hP1 hS1 dL_tryWrite_14
  · refine zL_hit (k := 3) hown hAm (by decide +kernel) [⟨0, 6, 7, 38⟩, ⟨0, 6, 11, 13⟩] ⟨0, 6, 15, 24⟩ [] (by rw [ht]; rfl) (fun z hz => by rcases List.mem_cons.mp hz with rfl | hz; exact Or.inr ⟨by decide, _, hts _ mL_tryWrite_38, hN.2.1⟩; obtain rfl := List.mem_singleton.mp hz; exact Or.inr ⟨by decide, _, hts _ mL_tryWrite_13, hN.2.2⟩) (by decide) (by decide) (hts _ mL_tryWrite_24) hce hcv hcl ?_
    refine lv_astore_n hx hb dL_tryWrite_15 rfl hl (by decide) rfl (fun ls hl => ?_)
    refine lv_ldc hx hb hown (hts _ mL_tryWrite_c26) dL_tryWrite_16 ?_
    exact zw_i hx hb hr hlocks hP1 hS1 dL_tryWrite_18
def fL_tryFree (v : zXS) (p1 : Int32) (p2 : Int32) : Option (Int32 × zXS) :=
  match v with
  | (ch, nu, le, ta, lt, (b, pF, pL, st, tm, qt, cm, ds, dr), (bC, pFC, pLC, stC, tmC, qtC, cmC, dsC, drC), ol, pz, dvs, us, (bS, pFS, pLS, stS, tmS, qtS, cmS, dsS, drS), (bT, pFT, pLT, stT, tmT, qtT, cmT, dsT, drT)) => ob8 (fX3_free b pF pL st tm qt cm ds dr ol pz dvs p1 p2) fun k r b2 qt2 dr2 ol2 pz2 dvs2 => if k = 0 then some (r, (ch, nu, le, ta, lt, (b2, pF, pL, st, tm, qt2, cm, ds, dr2), (bC, pFC, pLC, stC, tmC, qtC, cmC, dsC, drC), ol2, pz2, dvs2, us, (bS, pFS, pLS, stS, tmS, qtS, cmS, dsS, drS), (bT, pFT, pLT, stT, tmT, qtT, cmT, dsT, drT))) else if k = 1 then some ((-9999001), (ch, nu, le, ta, lt, (b2, pF, pL, st, tm, qt2, cm, ds, dr2), (bC, pFC, pLC, stC, tmC, qtC, cmC, dsC, drC), ol2, pz2, dvs2, us, (bS, pFS, pLS, stS, tmS, qtS, cmS, dsS, drS), (bT, pFT, pLT, stT, tmT, qtT, cmT, dsT, drT))) else if k = 2 then some ((-9999002), (ch, nu, le, ta, lt, (b2, pF, pL, st, tm, qt2, cm, ds, dr2), (bC, pFC, pLC, stC, tmC, qtC, cmC, dsC, drC), ol2, pz2, dvs2, us, (bS, pFS, pLS, stS, tmS, qtS, cmS, dsS, drS), (bT, pFT, pLT, stT, tmT, qtT, cmT, dsT, drT))) else if k = 3 then some ((-9999003), (ch, nu, le, ta, lt, (b2, pF, pL, st, tm, qt2, cm, ds, dr2), (bC, pFC, pLC, stC, tmC, qtC, cmC, dsC, drC), ol2, pz2, dvs2, us, (bS, pFS, pLS, stS, tmS, qtS, cmS, dsS, drS), (bT, pFT, pLT, stT, tmT, qtT, cmT, dsT, drT))) else none
theorem hdV_X3_free : yX3_free.cls = RX3 ∧ yX3_free.cls ≠ "java/lang/invoke/MethodHandle" ∧ yX3_free.cls ≠ "java/lang/invoke/VarHandle" ∧ (parseMethodDescriptor yX3_free.desc).map (fun d => d.parameters.length) = some 2 := by decide +kernel
theorem mL_tryFree_38 : Cond.classLink RL 38 (zE 1) ∈ wsL_tryFree := by decide +kernel
theorem mL_tryFree_c40 : Cond.constant RL 40 (-9999001) ∈ wsL_tryFree := by decide +kernel
theorem mL_tryFree_13 : Cond.classLink RL 13 (zE 2) ∈ wsL_tryFree := by decide +kernel
theorem mL_tryFree_c15 : Cond.constant RL 15 (-9999002) ∈ wsL_tryFree := by decide +kernel
theorem mL_tryFree_24 : Cond.classLink RL 24 (zE 3) ∈ wsL_tryFree := by decide +kernel
theorem mL_tryFree_c26 : Cond.constant RL 26 (-9999003) ∈ wsL_tryFree := by decide +kernel
set_option maxRecDepth 100000 in
set_option maxHeartbeats 4000000 in
theorem kL_tryFree (l : Launch) (g : zG) (h0 : Nat) (u : zAd) (v : zXS) (p1 : Int32) (p2 : Int32) (htr : l.stackTraces = false) {r' : Int32} {v' : zXS} (h : fL_tryFree v p1 p2 = some (r', v')) : Mn l g yL_tryFree wsL_tryFree { frames := 9, cells := 2, slots := 12, locals := 145 } [.ref h0, .int p1, .int p2] (zXW g h0 u v) (zWi g (zXW g h0 u v') r') 2 12 := by
  obtain ⟨ch, nu, le, ta, lt, ⟨b, pF, pL, st, tm, qt, cm, ds, dr⟩, ⟨bC, pFC, pLC, stC, tmC, qtC, cmC, dsC, drC⟩, ol, pz, dvs, us, ⟨bS, pFS, pLS, stS, tmS, qtS, cmS, dsS, drS⟩, ⟨bT, pFT, pLT, stT, tmT, qtT, cmT, dsT, drT⟩⟩ := v
  replace h : ob8 (fX3_free b pF pL st tm qt cm ds dr ol pz dvs p1 p2) (fun k r b2 qt2 dr2 ol2 pz2 dvs2 => if k = 0 then some (r, (ch, nu, le, ta, lt, (b2, pF, pL, st, tm, qt2, cm, ds, dr2), (bC, pFC, pLC, stC, tmC, qtC, cmC, dsC, drC), ol2, pz2, dvs2, us, (bS, pFS, pLS, stS, tmS, qtS, cmS, dsS, drS), (bT, pFT, pLT, stT, tmT, qtT, cmT, dsT, drT))) else if k = 1 then some ((-9999001), (ch, nu, le, ta, lt, (b2, pF, pL, st, tm, qt2, cm, ds, dr2), (bC, pFC, pLC, stC, tmC, qtC, cmC, dsC, drC), ol2, pz2, dvs2, us, (bS, pFS, pLS, stS, tmS, qtS, cmS, dsS, drS), (bT, pFT, pLT, stT, tmT, qtT, cmT, dsT, drT))) else if k = 2 then some ((-9999002), (ch, nu, le, ta, lt, (b2, pF, pL, st, tm, qt2, cm, ds, dr2), (bC, pFC, pLC, stC, tmC, qtC, cmC, dsC, drC), ol2, pz2, dvs2, us, (bS, pFS, pLS, stS, tmS, qtS, cmS, dsS, drS), (bT, pFT, pLT, stT, tmT, qtT, cmT, dsT, drT))) else if k = 3 then some ((-9999003), (ch, nu, le, ta, lt, (b2, pF, pL, st, tm, qt2, cm, ds, dr2), (bC, pFC, pLC, stC, tmC, qtC, cmC, dsC, drC), ol2, pz2, dvs2, us, (bS, pFS, pLS, stS, tmS, qtS, cmS, dsS, drS), (bT, pFT, pLT, stT, tmT, qtT, cmT, dsT, drT))) else none) = some (r', v') := h
  obtain ⟨k, r, b2, qt2, dr2, ol2, pz2, dvs2, e1, h⟩ := zb8 h
  have hv : v' = (ch, nu, le, ta, lt, (b2, pF, pL, st, tm, qt2, cm, ds, dr2), (bC, pFC, pLC, stC, tmC, qtC, cmC, dsC, drC), ol2, pz2, dvs2, us, (bS, pFS, pLS, stS, tmS, qtS, cmS, dsS, drS), (bT, pFT, pLT, stT, tmT, qtT, cmT, dsT, drT)) ∧ (k = 0 → r = r') ∧ (k = 0 ∨ (k = 1 ∧ (-9999001 : Int32) = r') ∨ (k = 2 ∧ (-9999002 : Int32) = r') ∨ (k = 3 ∧ (-9999003 : Int32) = r')) := by
    by_cases c0 : k = 0
    · replace h := zt c0 h
      cases h
      exact ⟨rfl, fun _ => rfl, Or.inl c0⟩
    replace h := zf c0 h
    by_cases c1 : k = 1
    · replace h := zt c1 h
      cases h
      exact ⟨rfl, fun q => absurd q c0, Or.inr (Or.inl ⟨c1, rfl⟩)⟩
    replace h := zf c1 h
    by_cases c2 : k = 2
    · replace h := zt c2 h
      cases h
      exact ⟨rfl, fun q => absurd q c0, Or.inr (Or.inr (Or.inl ⟨c2, rfl⟩))⟩
    replace h := zf c2 h
    by_cases c3 : k = 3
    · replace h := zt c3 h
      cases h
      exact ⟨rfl, fun q => absurd q c0, Or.inr (Or.inr (Or.inr (⟨c3, rfl⟩)))⟩
    replace h := zf c3 h
    exact zn h
  clear h
  obtain ⟨rfl, hv0, hv⟩ := hv
  refine zn_in (cc := cL_tryFree) (maxL := 4) (ret := some .int) (hh := [(0, 6, 7, 38), (0, 6, 11, 13), (0, 6, 15, 24)]) (by decide) rfl (Nat.le_of_ble_eq_true rfl) ?_
  intro p e s m below meth c hx hb hr hml hts hown hlocks hK ht hN A hA hP hD hS hAm ls hl
  replace hl : lv_has ls 4 [(0, .ref h0), (1, .int p1), (2, .int p2)] := hl
  refine lv_aload_n hx hb dL_tryFree_0 rfl (lv_at hl 0 rfl) ?_
  refine lv_iload_n hx hb dL_tryFree_1 rfl (lv_at hl 1 rfl) ?_
  refine lv_iload_n hx hb dL_tryFree_2 rfl (lv_at hl 2 rfl) ?_
  refine zT_mid (As := [.int p1, .int p2]) ⟨hx, hb, hml, hown, hts⟩ hr hlocks (kX3_free l g h0 u.1.1 u.1.2.1 u.1.2.2 (u.2.1 0) (u.2.1 1) (u.2.1 2) (u.2.1 3) (u.2.1 4) (u.2.2.1 0) (u.2.2.1 1) (u.2.2.1 2) (u.2.2.1 3) (u.2.2.1 4) u.2.2.2.1.1 u.2.2.2.1.2 u.2.2.2.2.1.1 u.2.2.2.2.1.2 (u.2.2.2.2.2.1 0) (u.2.2.2.2.2.1 1) (u.2.2.2.2.2.1 2) (u.2.2.2.2.2.1 3) (u.2.2.2.2.2.1 4) (u.2.2.2.2.2.2.1 0) (u.2.2.2.2.2.2.1 1) (u.2.2.2.2.2.2.1 2) (u.2.2.2.2.2.2.1 3) (u.2.2.2.2.2.2.1 4) u.2.2.2.2.2.2.2 ch nu le ta lt b pF pL st tm qt cm ds dr bC pFC pLC stC tmC qtC cmC dsC drC ol pz dvs us bS pFS pLS stS tmS qtS cmS dsS drS bT pFT pLT stT tmT qtT cmT dsT drT p1 p2 htr e1) (cwV 2 hts gL_tryFree_X3_free rfl rfl rfl hdV_X3_free ⟨Nat.le_of_ble_eq_true rfl, Nat.le_of_ble_eq_true rfl⟩) hK hP hD hS hA hAm (zXW_fst g h0 u (ch, nu, le, ta, lt, (b, pF, pL, st, tm, qt, cm, ds, dr), (bC, pFC, pLC, stC, tmC, qtC, cmC, dsC, drC), ol, pz, dvs, us, (bS, pFS, pLS, stS, tmS, qtS, cmS, dsS, drS), (bT, pFT, pLT, stT, tmT, qtT, cmT, dsT, drT)) (ch, nu, le, ta, lt, (b2, pF, pL, st, tm, qt2, cm, ds, dr2), (bC, pFC, pLC, stC, tmC, qtC, cmC, dsC, drC), ol2, pz2, dvs2, us, (bS, pFS, pLS, stS, tmS, qtS, cmS, dsS, drS), (bT, pFT, pLT, stT, tmT, qtT, cmT, dsT, drT))) rfl rfl hl.1 rfl ⟨Nat.le_of_ble_eq_true rfl, Nat.le_of_ble_eq_true rfl⟩ dL_tryFree_3 dL_tryFree_6 hv0 (fun hk H1 locs1 q ce hP1 hS1 hce hcv hcl => ?_)
  rcases hv with h1 | ⟨rfl, rfl⟩ | ⟨rfl, rfl⟩ | ⟨rfl, rfl⟩
  · exact absurd h1 hk
  · refine zL_hit (k := 1) hown hAm (by decide +kernel) [] ⟨0, 6, 7, 38⟩ [⟨0, 6, 11, 13⟩, ⟨0, 6, 15, 24⟩] (by rw [ht]; rfl) (fun _ h => absurd h List.not_mem_nil) (by decide) (by decide) (hts _ mL_tryFree_38) hce hcv hcl ?_
    refine lv_astore_n hx hb dL_tryFree_7 rfl hl (by decide) rfl (fun ls hl => ?_)
    refine lv_ldc hx hb hown (hts _ mL_tryFree_c40) dL_tryFree_8 ?_
    exact zw_i hx hb hr hlocks hP1 hS1 dL_tryFree_10
  · refine zL_hit (k := 2) hown hAm (by decide +kernel) [⟨0, 6, 7, 38⟩] ⟨0, 6, 11, 13⟩ [⟨0, 6, 15, 24⟩] (by rw [ht]; rfl) (fun z hz => by obtain rfl := List.mem_singleton.mp hz; exact Or.inr ⟨by decide, _, hts _ mL_tryFree_38, hN.1⟩) (by decide) (by decide) (hts _ mL_tryFree_13) hce hcv hcl ?_
    refine lv_astore_n hx hb dL_tryFree_11 rfl hl (by decide) rfl (fun ls hl => ?_)
    refine lv_ldc hx hb hown (hts _ mL_tryFree_c15) dL_tryFree_12 ?_
    exact zw_i hx hb hr hlocks hP1 hS1 dL_tryFree_14
  · refine zL_hit (k := 3) hown hAm (by decide +kernel) [⟨0, 6, 7, 38⟩, ⟨0, 6, 11, 13⟩] ⟨0, 6, 15, 24⟩ [] (by rw [ht]; rfl) (fun z hz => by rcases List.mem_cons.mp hz with rfl | hz; exact Or.inr ⟨by decide, _, hts _ mL_tryFree_38, hN.2.1⟩; obtain rfl := List.mem_singleton.mp hz; exact Or.inr ⟨by decide, _, hts _ mL_tryFree_13, hN.2.2⟩) (by decide) (by decide) (hts _ mL_tryFree_24) hce hcv hcl ?_
    refine lv_astore_n hx hb dL_tryFree_15 rfl hl (by decide) rfl (fun ls hl => ?_)
    refine lv_ldc hx hb hown (hts _ mL_tryFree_c26) dL_tryFree_16 ?_
    exact zw_i hx hb hr hlocks hP1 hS1 dL_tryFree_18
def fL_tryPin (v : zXS) (p1 : Int32) (p2 : Int32) (p3 : Int32) : Option (Int32 × zXS) :=
  match v with
  | (ch, nu, le, ta, lt, (b, pF, pL, st, tm, qt, cm, ds, dr), (bC, pFC, pLC, stC, tmC, qtC, cmC, dsC, drC), ol, pz, dvs, us, (bS, pFS, pLS, stS, tmS, qtS, cmS, dsS, drS), (bT, pFT, pLT, stT, tmT, qtT, cmT, dsT, drT)) => ob7 (fX3_pin b pF pL st tm qt cm ds dr ol pz dvs p1 p2 p3) fun k r pF2 pL2 ol2 pz2 dvs2 => if k = 0 then some (r, (ch, nu, le, ta, lt, (b, pF2, pL2, st, tm, qt, cm, ds, dr), (bC, pFC, pLC, stC, tmC, qtC, cmC, dsC, drC), ol2, pz2, dvs2, us, (bS, pFS, pLS, stS, tmS, qtS, cmS, dsS, drS), (bT, pFT, pLT, stT, tmT, qtT, cmT, dsT, drT))) else if k = 1 then some ((-9999001), (ch, nu, le, ta, lt, (b, pF2, pL2, st, tm, qt, cm, ds, dr), (bC, pFC, pLC, stC, tmC, qtC, cmC, dsC, drC), ol2, pz2, dvs2, us, (bS, pFS, pLS, stS, tmS, qtS, cmS, dsS, drS), (bT, pFT, pLT, stT, tmT, qtT, cmT, dsT, drT))) else if k = 2 then some ((-9999002), (ch, nu, le, ta, lt, (b, pF2, pL2, st, tm, qt, cm, ds, dr), (bC, pFC, pLC, stC, tmC, qtC, cmC, dsC, drC), ol2, pz2, dvs2, us, (bS, pFS, pLS, stS, tmS, qtS, cmS, dsS, drS), (bT, pFT, pLT, stT, tmT, qtT, cmT, dsT, drT))) else if k = 3 then some ((-9999003), (ch, nu, le, ta, lt, (b, pF2, pL2, st, tm, qt, cm, ds, dr), (bC, pFC, pLC, stC, tmC, qtC, cmC, dsC, drC), ol2, pz2, dvs2, us, (bS, pFS, pLS, stS, tmS, qtS, cmS, dsS, drS), (bT, pFT, pLT, stT, tmT, qtT, cmT, dsT, drT))) else none
theorem hdV_X3_pin : yX3_pin.cls = RX3 ∧ yX3_pin.cls ≠ "java/lang/invoke/MethodHandle" ∧ yX3_pin.cls ≠ "java/lang/invoke/VarHandle" ∧ (parseMethodDescriptor yX3_pin.desc).map (fun d => d.parameters.length) = some 3 := by decide +kernel
theorem mL_tryPin_38 : Cond.classLink RL 38 (zE 1) ∈ wsL_tryPin := by decide +kernel
theorem mL_tryPin_c40 : Cond.constant RL 40 (-9999001) ∈ wsL_tryPin := by decide +kernel
theorem mL_tryPin_13 : Cond.classLink RL 13 (zE 2) ∈ wsL_tryPin := by decide +kernel
theorem mL_tryPin_c15 : Cond.constant RL 15 (-9999002) ∈ wsL_tryPin := by decide +kernel
theorem mL_tryPin_24 : Cond.classLink RL 24 (zE 3) ∈ wsL_tryPin := by decide +kernel
theorem mL_tryPin_c26 : Cond.constant RL 26 (-9999003) ∈ wsL_tryPin := by decide +kernel
set_option maxRecDepth 100000 in
set_option maxHeartbeats 4000000 in
theorem kL_tryPin (l : Launch) (g : zG) (h0 : Nat) (u : zAd) (v : zXS) (p1 : Int32) (p2 : Int32) (p3 : Int32) (htr : l.stackTraces = false) {r' : Int32} {v' : zXS} (h : fL_tryPin v p1 p2 p3 = some (r', v')) : Mn l g yL_tryPin wsL_tryPin { frames := 9, cells := 3, slots := 18, locals := 146 } [.ref h0, .int p1, .int p2, .int p3] (zXW g h0 u v) (zWi g (zXW g h0 u v') r') 3 18 := by
  obtain ⟨ch, nu, le, ta, lt, ⟨b, pF, pL, st, tm, qt, cm, ds, dr⟩, ⟨bC, pFC, pLC, stC, tmC, qtC, cmC, dsC, drC⟩, ol, pz, dvs, us, ⟨bS, pFS, pLS, stS, tmS, qtS, cmS, dsS, drS⟩, ⟨bT, pFT, pLT, stT, tmT, qtT, cmT, dsT, drT⟩⟩ := v
  replace h : ob7 (fX3_pin b pF pL st tm qt cm ds dr ol pz dvs p1 p2 p3) (fun k r pF2 pL2 ol2 pz2 dvs2 => if k = 0 then some (r, (ch, nu, le, ta, lt, (b, pF2, pL2, st, tm, qt, cm, ds, dr), (bC, pFC, pLC, stC, tmC, qtC, cmC, dsC, drC), ol2, pz2, dvs2, us, (bS, pFS, pLS, stS, tmS, qtS, cmS, dsS, drS), (bT, pFT, pLT, stT, tmT, qtT, cmT, dsT, drT))) else if k = 1 then some ((-9999001), (ch, nu, le, ta, lt, (b, pF2, pL2, st, tm, qt, cm, ds, dr), (bC, pFC, pLC, stC, tmC, qtC, cmC, dsC, drC), ol2, pz2, dvs2, us, (bS, pFS, pLS, stS, tmS, qtS, cmS, dsS, drS), (bT, pFT, pLT, stT, tmT, qtT, cmT, dsT, drT))) else if k = 2 then some ((-9999002), (ch, nu, le, ta, lt, (b, pF2, pL2, st, tm, qt, cm, ds, dr), (bC, pFC, pLC, stC, tmC, qtC, cmC, dsC, drC), ol2, pz2, dvs2, us, (bS, pFS, pLS, stS, tmS, qtS, cmS, dsS, drS), (bT, pFT, pLT, stT, tmT, qtT, cmT, dsT, drT))) else if k = 3 then some ((-9999003), (ch, nu, le, ta, lt, (b, pF2, pL2, st, tm, qt, cm, ds, dr), (bC, pFC, pLC, stC, tmC, qtC, cmC, dsC, drC), ol2, pz2, dvs2, us, (bS, pFS, pLS, stS, tmS, qtS, cmS, dsS, drS), (bT, pFT, pLT, stT, tmT, qtT, cmT, dsT, drT))) else none) = some (r', v') := h
  obtain ⟨k, r, pF2, pL2, ol2, pz2, dvs2, e1, h⟩ := zb7 h
  have hv : v' = (ch, nu, le, ta, lt, (b, pF2, pL2, st, tm, qt, cm, ds, dr), (bC, pFC, pLC, stC, tmC, qtC, cmC, dsC, drC), ol2, pz2, dvs2, us, (bS, pFS, pLS, stS, tmS, qtS, cmS, dsS, drS), (bT, pFT, pLT, stT, tmT, qtT, cmT, dsT, drT)) ∧ (k = 0 → r = r') ∧ (k = 0 ∨ (k = 1 ∧ (-9999001 : Int32) = r') ∨ (k = 2 ∧ (-9999002 : Int32) = r') ∨ (k = 3 ∧ (-9999003 : Int32) = r')) := by
    by_cases c0 : k = 0
    · replace h := zt c0 h
      cases h
      exact ⟨rfl, fun _ => rfl, Or.inl c0⟩
    replace h := zf c0 h
    by_cases c1 : k = 1
    · replace h := zt c1 h
      cases h
      exact ⟨rfl, fun q => absurd q c0, Or.inr (Or.inl ⟨c1, rfl⟩)⟩
    replace h := zf c1 h
    by_cases c2 : k = 2
    · replace h := zt c2 h
      cases h
      exact ⟨rfl, fun q => absurd q c0, Or.inr (Or.inr (Or.inl ⟨c2, rfl⟩))⟩
    replace h := zf c2 h
    by_cases c3 : k = 3
    · replace h := zt c3 h
      cases h
      exact ⟨rfl, fun q => absurd q c0, Or.inr (Or.inr (Or.inr (⟨c3, rfl⟩)))⟩
    replace h := zf c3 h
    exact zn h
  clear h
  obtain ⟨rfl, hv0, hv⟩ := hv
  refine zn_in (cc := cL_tryPin) (maxL := 5) (ret := some .int) (hh := [(0, 7, 8, 38), (0, 7, 13, 13), (0, 7, 18, 24)]) (by decide) rfl (Nat.le_of_ble_eq_true rfl) ?_
  intro p e s m below meth c hx hb hr hml hts hown hlocks hK ht hN A hA hP hD hS hAm ls hl
  replace hl : lv_has ls 5 [(0, .ref h0), (1, .int p1), (2, .int p2), (3, .int p3)] := hl
  refine lv_aload_n hx hb dL_tryPin_0 rfl (lv_at hl 0 rfl) ?_
  refine lv_iload_n hx hb dL_tryPin_1 rfl (lv_at hl 1 rfl) ?_
  refine lv_iload_n hx hb dL_tryPin_2 rfl (lv_at hl 2 rfl) ?_
  refine lv_iload_n hx hb dL_tryPin_3 rfl (lv_at hl 3 rfl) ?_
  refine zT_mid (As := [.int p1, .int p2, .int p3]) ⟨hx, hb, hml, hown, hts⟩ hr hlocks (kX3_pin l g h0 u.1.1 u.1.2.1 u.1.2.2 (u.2.1 0) (u.2.1 1) (u.2.1 2) (u.2.1 3) (u.2.1 4) (u.2.2.1 0) (u.2.2.1 1) (u.2.2.1 2) (u.2.2.1 3) (u.2.2.1 4) u.2.2.2.1.1 u.2.2.2.1.2 u.2.2.2.2.1.1 u.2.2.2.2.1.2 (u.2.2.2.2.2.1 0) (u.2.2.2.2.2.1 1) (u.2.2.2.2.2.1 2) (u.2.2.2.2.2.1 3) (u.2.2.2.2.2.1 4) (u.2.2.2.2.2.2.1 0) (u.2.2.2.2.2.2.1 1) (u.2.2.2.2.2.2.1 2) (u.2.2.2.2.2.2.1 3) (u.2.2.2.2.2.2.1 4) u.2.2.2.2.2.2.2 ch nu le ta lt b pF pL st tm qt cm ds dr bC pFC pLC stC tmC qtC cmC dsC drC ol pz dvs us bS pFS pLS stS tmS qtS cmS dsS drS bT pFT pLT stT tmT qtT cmT dsT drT p1 p2 p3 htr e1) (cwV 3 hts gL_tryPin_X3_pin rfl rfl rfl hdV_X3_pin ⟨Nat.le_of_ble_eq_true rfl, Nat.le_of_ble_eq_true rfl⟩) hK hP hD hS hA hAm (zXW_fst g h0 u (ch, nu, le, ta, lt, (b, pF, pL, st, tm, qt, cm, ds, dr), (bC, pFC, pLC, stC, tmC, qtC, cmC, dsC, drC), ol, pz, dvs, us, (bS, pFS, pLS, stS, tmS, qtS, cmS, dsS, drS), (bT, pFT, pLT, stT, tmT, qtT, cmT, dsT, drT)) (ch, nu, le, ta, lt, (b, pF2, pL2, st, tm, qt, cm, ds, dr), (bC, pFC, pLC, stC, tmC, qtC, cmC, dsC, drC), ol2, pz2, dvs2, us, (bS, pFS, pLS, stS, tmS, qtS, cmS, dsS, drS), (bT, pFT, pLT, stT, tmT, qtT, cmT, dsT, drT))) rfl rfl hl.1 rfl ⟨Nat.le_of_ble_eq_true rfl, Nat.le_of_ble_eq_true rfl⟩ dL_tryPin_4 dL_tryPin_7 hv0 (fun hk H1 locs1 q ce hP1 hS1 hce hcv hcl => ?_)
  rcases hv with h1 | ⟨rfl, rfl⟩ | ⟨rfl, rfl⟩ | ⟨rfl, rfl⟩
  · exact absurd h1 hk
  · refine zL_hit (k := 1) hown hAm (by decide +kernel) [] ⟨0, 7, 8, 38⟩ [⟨0, 7, 13, 13⟩, ⟨0, 7, 18, 24⟩] (by rw [ht]; rfl) (fun _ h => absurd h List.not_mem_nil) (by decide) (by decide) (hts _ mL_tryPin_38) hce hcv hcl ?_
    refine lv_astore hx hb dL_tryPin_8 hl (by decide) rfl (fun ls hl => ?_)
    refine lv_ldc hx hb hown (hts _ mL_tryPin_c40) dL_tryPin_10 ?_
    exact zw_i hx hb hr hlocks hP1 hS1 dL_tryPin_12
  · refine zL_hit (k := 2) hown hAm (by decide +kernel) [⟨0, 7, 8, 38⟩] ⟨0, 7, 13, 13⟩ [⟨0, 7, 18, 24⟩] (by rw [ht]; rfl) (fun z hz => by obtain rfl := List.mem_singleton.mp hz; exact Or.inr ⟨by decide, _, hts _ mL_tryPin_38, hN.1⟩) (by decide) (by decide) (hts _ mL_tryPin_13) hce hcv hcl ?_
    refine lv_astore hx hb dL_tryPin_13 hl (by decide) rfl (fun ls hl => ?_)
    refine lv_ldc hx hb hown (hts _ mL_tryPin_c15) dL_tryPin_15 ?_
    exact zw_i hx hb hr hlocks hP1 hS1 dL_tryPin_17
  · refine zL_hit (k := 3) hown hAm (by decide +kernel) [⟨0, 7, 8, 38⟩, ⟨0, 7, 13, 13⟩] ⟨0, 7, 18, 24⟩ [] (by rw [ht]; rfl) (fun z hz => by rcases List.mem_cons.mp hz with rfl | hz; exact Or.inr ⟨by decide, _, hts _ mL_tryPin_38, hN.2.1⟩; obtain rfl := List.mem_singleton.mp hz; exact Or.inr ⟨by decide, _, hts _ mL_tryPin_13, hN.2.2⟩) (by decide) (by decide) (hts _ mL_tryPin_24) hce hcv hcl ?_
    refine lv_astore hx hb dL_tryPin_18 hl (by decide) rfl (fun ls hl => ?_)
    refine lv_ldc hx hb hown (hts _ mL_tryPin_c26) dL_tryPin_20 ?_
    exact zw_i hx hb hr hlocks hP1 hS1 dL_tryPin_22
def fL_tryUnpin (v : zXS) (p1 : Int32) : Option (Int32 × zXS) :=
  match v with
  | (ch, nu, le, ta, lt, (b, pF, pL, st, tm, qt, cm, ds, dr), (bC, pFC, pLC, stC, tmC, qtC, cmC, dsC, drC), ol, pz, dvs, us, (bS, pFS, pLS, stS, tmS, qtS, cmS, dsS, drS), (bT, pFT, pLT, stT, tmT, qtT, cmT, dsT, drT)) => ob7 (fX3_unpin b pF pL st tm qt cm ds dr ol pz dvs p1) fun k r pF2 pL2 ol2 pz2 dvs2 => if k = 0 then some (r, (ch, nu, le, ta, lt, (b, pF2, pL2, st, tm, qt, cm, ds, dr), (bC, pFC, pLC, stC, tmC, qtC, cmC, dsC, drC), ol2, pz2, dvs2, us, (bS, pFS, pLS, stS, tmS, qtS, cmS, dsS, drS), (bT, pFT, pLT, stT, tmT, qtT, cmT, dsT, drT))) else if k = 1 then some ((-9999001), (ch, nu, le, ta, lt, (b, pF2, pL2, st, tm, qt, cm, ds, dr), (bC, pFC, pLC, stC, tmC, qtC, cmC, dsC, drC), ol2, pz2, dvs2, us, (bS, pFS, pLS, stS, tmS, qtS, cmS, dsS, drS), (bT, pFT, pLT, stT, tmT, qtT, cmT, dsT, drT))) else if k = 3 then some ((-9999003), (ch, nu, le, ta, lt, (b, pF2, pL2, st, tm, qt, cm, ds, dr), (bC, pFC, pLC, stC, tmC, qtC, cmC, dsC, drC), ol2, pz2, dvs2, us, (bS, pFS, pLS, stS, tmS, qtS, cmS, dsS, drS), (bT, pFT, pLT, stT, tmT, qtT, cmT, dsT, drT))) else none
theorem hdV_X3_unpin : yX3_unpin.cls = RX3 ∧ yX3_unpin.cls ≠ "java/lang/invoke/MethodHandle" ∧ yX3_unpin.cls ≠ "java/lang/invoke/VarHandle" ∧ (parseMethodDescriptor yX3_unpin.desc).map (fun d => d.parameters.length) = some 1 := by decide +kernel
theorem mL_tryUnpin_38 : Cond.classLink RL 38 (zE 1) ∈ wsL_tryUnpin := by decide +kernel
theorem mL_tryUnpin_c40 : Cond.constant RL 40 (-9999001) ∈ wsL_tryUnpin := by decide +kernel
theorem mL_tryUnpin_24 : Cond.classLink RL 24 (zE 3) ∈ wsL_tryUnpin := by decide +kernel
theorem mL_tryUnpin_c26 : Cond.constant RL 26 (-9999003) ∈ wsL_tryUnpin := by decide +kernel
set_option maxRecDepth 100000 in
set_option maxHeartbeats 4000000 in
theorem kL_tryUnpin (l : Launch) (g : zG) (h0 : Nat) (u : zAd) (v : zXS) (p1 : Int32) (htr : l.stackTraces = false) {r' : Int32} {v' : zXS} (h : fL_tryUnpin v p1 = some (r', v')) : Mn l g yL_tryUnpin wsL_tryUnpin { frames := 8, cells := 2, slots := 12, locals := 123 } [.ref h0, .int p1] (zXW g h0 u v) (zWi g (zXW g h0 u v') r') 2 12 := by
  obtain ⟨ch, nu, le, ta, lt, ⟨b, pF, pL, st, tm, qt, cm, ds, dr⟩, ⟨bC, pFC, pLC, stC, tmC, qtC, cmC, dsC, drC⟩, ol, pz, dvs, us, ⟨bS, pFS, pLS, stS, tmS, qtS, cmS, dsS, drS⟩, ⟨bT, pFT, pLT, stT, tmT, qtT, cmT, dsT, drT⟩⟩ := v
  replace h : ob7 (fX3_unpin b pF pL st tm qt cm ds dr ol pz dvs p1) (fun k r pF2 pL2 ol2 pz2 dvs2 => if k = 0 then some (r, (ch, nu, le, ta, lt, (b, pF2, pL2, st, tm, qt, cm, ds, dr), (bC, pFC, pLC, stC, tmC, qtC, cmC, dsC, drC), ol2, pz2, dvs2, us, (bS, pFS, pLS, stS, tmS, qtS, cmS, dsS, drS), (bT, pFT, pLT, stT, tmT, qtT, cmT, dsT, drT))) else if k = 1 then some ((-9999001), (ch, nu, le, ta, lt, (b, pF2, pL2, st, tm, qt, cm, ds, dr), (bC, pFC, pLC, stC, tmC, qtC, cmC, dsC, drC), ol2, pz2, dvs2, us, (bS, pFS, pLS, stS, tmS, qtS, cmS, dsS, drS), (bT, pFT, pLT, stT, tmT, qtT, cmT, dsT, drT))) else if k = 3 then some ((-9999003), (ch, nu, le, ta, lt, (b, pF2, pL2, st, tm, qt, cm, ds, dr), (bC, pFC, pLC, stC, tmC, qtC, cmC, dsC, drC), ol2, pz2, dvs2, us, (bS, pFS, pLS, stS, tmS, qtS, cmS, dsS, drS), (bT, pFT, pLT, stT, tmT, qtT, cmT, dsT, drT))) else none) = some (r', v') := h
  obtain ⟨k, r, pF2, pL2, ol2, pz2, dvs2, e1, h⟩ := zb7 h
  have hv : v' = (ch, nu, le, ta, lt, (b, pF2, pL2, st, tm, qt, cm, ds, dr), (bC, pFC, pLC, stC, tmC, qtC, cmC, dsC, drC), ol2, pz2, dvs2, us, (bS, pFS, pLS, stS, tmS, qtS, cmS, dsS, drS), (bT, pFT, pLT, stT, tmT, qtT, cmT, dsT, drT)) ∧ (k = 0 → r = r') ∧ (k = 0 ∨ (k = 1 ∧ (-9999001 : Int32) = r') ∨ (k = 3 ∧ (-9999003 : Int32) = r')) := by
    by_cases c0 : k = 0
    · replace h := zt c0 h
      cases h
      exact ⟨rfl, fun _ => rfl, Or.inl c0⟩
    replace h := zf c0 h
    by_cases c1 : k = 1
    · replace h := zt c1 h
      cases h
      exact ⟨rfl, fun q => absurd q c0, Or.inr (Or.inl ⟨c1, rfl⟩)⟩
    replace h := zf c1 h
    by_cases c2 : k = 3
    · replace h := zt c2 h
      cases h
      exact ⟨rfl, fun q => absurd q c0, Or.inr (Or.inr (⟨c2, rfl⟩))⟩
    replace h := zf c2 h
    exact zn h
  clear h
  obtain ⟨rfl, hv0, hv⟩ := hv
  refine zn_in (cc := cL_tryUnpin) (maxL := 3) (ret := some .int) (hh := [(0, 5, 6, 38), (0, 5, 10, 24)]) (by decide) rfl (Nat.le_of_ble_eq_true rfl) ?_
  intro p e s m below meth c hx hb hr hml hts hown hlocks hK ht hN A hA hP hD hS hAm ls hl
  replace hl : lv_has ls 3 [(0, .ref h0), (1, .int p1)] := hl
  refine lv_aload_n hx hb dL_tryUnpin_0 rfl (lv_at hl 0 rfl) ?_
  refine lv_iload_n hx hb dL_tryUnpin_1 rfl (lv_at hl 1 rfl) ?_
  refine zT_mid (As := [.int p1]) ⟨hx, hb, hml, hown, hts⟩ hr hlocks (kX3_unpin l g h0 u.1.1 u.1.2.1 u.1.2.2 (u.2.1 0) (u.2.1 1) (u.2.1 2) (u.2.1 3) (u.2.1 4) (u.2.2.1 0) (u.2.2.1 1) (u.2.2.1 2) (u.2.2.1 3) (u.2.2.1 4) u.2.2.2.1.1 u.2.2.2.1.2 u.2.2.2.2.1.1 u.2.2.2.2.1.2 (u.2.2.2.2.2.1 0) (u.2.2.2.2.2.1 1) (u.2.2.2.2.2.1 2) (u.2.2.2.2.2.1 3) (u.2.2.2.2.2.1 4) (u.2.2.2.2.2.2.1 0) (u.2.2.2.2.2.2.1 1) (u.2.2.2.2.2.2.1 2) (u.2.2.2.2.2.2.1 3) (u.2.2.2.2.2.2.1 4) u.2.2.2.2.2.2.2 ch nu le ta lt b pF pL st tm qt cm ds dr bC pFC pLC stC tmC qtC cmC dsC drC ol pz dvs us bS pFS pLS stS tmS qtS cmS dsS drS bT pFT pLT stT tmT qtT cmT dsT drT p1 htr e1) (cwV 1 hts gL_tryUnpin_X3_unpin rfl rfl rfl hdV_X3_unpin ⟨Nat.le_of_ble_eq_true rfl, Nat.le_of_ble_eq_true rfl⟩) hK hP hD hS hA hAm (zXW_fst g h0 u (ch, nu, le, ta, lt, (b, pF, pL, st, tm, qt, cm, ds, dr), (bC, pFC, pLC, stC, tmC, qtC, cmC, dsC, drC), ol, pz, dvs, us, (bS, pFS, pLS, stS, tmS, qtS, cmS, dsS, drS), (bT, pFT, pLT, stT, tmT, qtT, cmT, dsT, drT)) (ch, nu, le, ta, lt, (b, pF2, pL2, st, tm, qt, cm, ds, dr), (bC, pFC, pLC, stC, tmC, qtC, cmC, dsC, drC), ol2, pz2, dvs2, us, (bS, pFS, pLS, stS, tmS, qtS, cmS, dsS, drS), (bT, pFT, pLT, stT, tmT, qtT, cmT, dsT, drT))) rfl rfl hl.1 rfl ⟨Nat.le_of_ble_eq_true rfl, Nat.le_of_ble_eq_true rfl⟩ dL_tryUnpin_2 dL_tryUnpin_5 hv0 (fun hk H1 locs1 q ce hP1 hS1 hce hcv hcl => ?_)
  rcases hv with h1 | ⟨rfl, rfl⟩ | ⟨rfl, rfl⟩
  · exact absurd h1 hk
  · refine zL_hit (k := 1) hown hAm (by decide +kernel) [] ⟨0, 5, 6, 38⟩ [⟨0, 5, 10, 24⟩] (by rw [ht]; rfl) (fun _ h => absurd h List.not_mem_nil) (by decide) (by decide) (hts _ mL_tryUnpin_38) hce hcv hcl ?_
    refine lv_astore_n hx hb dL_tryUnpin_6 rfl hl (by decide) rfl (fun ls hl => ?_)
    refine lv_ldc hx hb hown (hts _ mL_tryUnpin_c40) dL_tryUnpin_7 ?_
    exact zw_i hx hb hr hlocks hP1 hS1 dL_tryUnpin_9
  · refine zL_hit (k := 3) hown hAm (by decide +kernel) [⟨0, 5, 6, 38⟩] ⟨0, 5, 10, 24⟩ [] (by rw [ht]; rfl) (fun z hz => by obtain rfl := List.mem_singleton.mp hz; exact Or.inr ⟨by decide, _, hts _ mL_tryUnpin_38, hN.2.1⟩) (by decide) (by decide) (hts _ mL_tryUnpin_24) hce hcv hcl ?_
    refine lv_astore_n hx hb dL_tryUnpin_10 rfl hl (by decide) rfl (fun ls hl => ?_)
    refine lv_ldc hx hb hown (hts _ mL_tryUnpin_c26) dL_tryUnpin_11 ?_
    exact zw_i hx hb hr hlocks hP1 hS1 dL_tryUnpin_13
def fL_tryRun (v : zXS) (p1 : Int32) : Option (Int32 × zXS) :=
  match v with
  | (ch, nu, le, ta, lt, (b, pF, pL, st, tm, qt, cm, ds, dr), (bC, pFC, pLC, stC, tmC, qtC, cmC, dsC, drC), ol, pz, dvs, us, (bS, pFS, pLS, stS, tmS, qtS, cmS, dsS, drS), (bT, pFT, pLT, stT, tmT, qtT, cmT, dsT, drT)) => ob11 (fX3_run b pF pL st tm qt cm ds dr ol pz dvs p1) fun k r b2 tm2 qt2 cm2 ds2 dr2 ol2 pz2 dvs2 => if k = 0 then some (r, (ch, nu, le, ta, lt, (b2, pF, pL, st, tm2, qt2, cm2, ds2, dr2), (bC, pFC, pLC, stC, tmC, qtC, cmC, dsC, drC), ol2, pz2, dvs2, us, (bS, pFS, pLS, stS, tmS, qtS, cmS, dsS, drS), (bT, pFT, pLT, stT, tmT, qtT, cmT, dsT, drT))) else if k = 2 then some ((-9999002), (ch, nu, le, ta, lt, (b2, pF, pL, st, tm2, qt2, cm2, ds2, dr2), (bC, pFC, pLC, stC, tmC, qtC, cmC, dsC, drC), ol2, pz2, dvs2, us, (bS, pFS, pLS, stS, tmS, qtS, cmS, dsS, drS), (bT, pFT, pLT, stT, tmT, qtT, cmT, dsT, drT))) else none
theorem hdV_X3_run : yX3_run.cls = RX3 ∧ yX3_run.cls ≠ "java/lang/invoke/MethodHandle" ∧ yX3_run.cls ≠ "java/lang/invoke/VarHandle" ∧ (parseMethodDescriptor yX3_run.desc).map (fun d => d.parameters.length) = some 1 := by decide +kernel
theorem mL_tryRun_13 : Cond.classLink RL 13 (zE 2) ∈ wsL_tryRun := by decide +kernel
theorem mL_tryRun_c15 : Cond.constant RL 15 (-9999002) ∈ wsL_tryRun := by decide +kernel
set_option maxRecDepth 100000 in
set_option maxHeartbeats 4000000 in
theorem kL_tryRun (l : Launch) (g : zG) (h0 : Nat) (u : zAd) (v : zXS) (p1 : Int32) (htr : l.stackTraces = false) {r' : Int32} {v' : zXS} (h : fL_tryRun v p1 = some (r', v')) : Mn l g yL_tryRun wsL_tryRun { frames := 8, cells := 1, slots := 6, locals := 144 } [.ref h0, .int p1] (zXW g h0 u v) (zWi g (zXW g h0 u v') r') 1 6 := by
  obtain ⟨ch, nu, le, ta, lt, ⟨b, pF, pL, st, tm, qt, cm, ds, dr⟩, ⟨bC, pFC, pLC, stC, tmC, qtC, cmC, dsC, drC⟩, ol, pz, dvs, us, ⟨bS, pFS, pLS, stS, tmS, qtS, cmS, dsS, drS⟩, ⟨bT, pFT, pLT, stT, tmT, qtT, cmT, dsT, drT⟩⟩ := v
  replace h : ob11 (fX3_run b pF pL st tm qt cm ds dr ol pz dvs p1) (fun k r b2 tm2 qt2 cm2 ds2 dr2 ol2 pz2 dvs2 => if k = 0 then some (r, (ch, nu, le, ta, lt, (b2, pF, pL, st, tm2, qt2, cm2, ds2, dr2), (bC, pFC, pLC, stC, tmC, qtC, cmC, dsC, drC), ol2, pz2, dvs2, us, (bS, pFS, pLS, stS, tmS, qtS, cmS, dsS, drS), (bT, pFT, pLT, stT, tmT, qtT, cmT, dsT, drT))) else if k = 2 then some ((-9999002), (ch, nu, le, ta, lt, (b2, pF, pL, st, tm2, qt2, cm2, ds2, dr2), (bC, pFC, pLC, stC, tmC, qtC, cmC, dsC, drC), ol2, pz2, dvs2, us, (bS, pFS, pLS, stS, tmS, qtS, cmS, dsS, drS), (bT, pFT, pLT, stT, tmT, qtT, cmT, dsT, drT))) else none) = some (r', v') := h
  obtain ⟨k, r, b2, tm2, qt2, cm2, ds2, dr2, ol2, pz2, dvs2, e1, h⟩ := zb11 h
  have hv : v' = (ch, nu, le, ta, lt, (b2, pF, pL, st, tm2, qt2, cm2, ds2, dr2), (bC, pFC, pLC, stC, tmC, qtC, cmC, dsC, drC), ol2, pz2, dvs2, us, (bS, pFS, pLS, stS, tmS, qtS, cmS, dsS, drS), (bT, pFT, pLT, stT, tmT, qtT, cmT, dsT, drT)) ∧ (k = 0 → r = r') ∧ (k = 0 ∨ (k = 2 ∧ (-9999002 : Int32) = r')) := by
    by_cases c0 : k = 0
    · replace h := zt c0 h
      cases h
      exact ⟨rfl, fun _ => rfl, Or.inl c0⟩
    replace h := zf c0 h
    by_cases c1 : k = 2
    · replace h := zt c1 h
      cases h
      exact ⟨rfl, fun q => absurd q c0, Or.inr (⟨c1, rfl⟩)⟩
    replace h := zf c1 h
    exact zn h
  clear h
  obtain ⟨rfl, hv0, hv⟩ := hv
  refine zn_in (cc := cL_tryRun) (maxL := 3) (ret := some .int) (hh := [(0, 5, 6, 13)]) (by decide) rfl (Nat.le_of_ble_eq_true rfl) ?_
  intro p e s m below meth c hx hb hr hml hts hown hlocks hK ht hN A hA hP hD hS hAm ls hl
  replace hl : lv_has ls 3 [(0, .ref h0), (1, .int p1)] := hl
  refine lv_aload_n hx hb dL_tryRun_0 rfl (lv_at hl 0 rfl) ?_
  refine lv_iload_n hx hb dL_tryRun_1 rfl (lv_at hl 1 rfl) ?_
  refine zT_mid (As := [.int p1]) ⟨hx, hb, hml, hown, hts⟩ hr hlocks (kX3_run l g h0 u.1.1 u.1.2.1 u.1.2.2 (u.2.1 0) (u.2.1 1) (u.2.1 2) (u.2.1 3) (u.2.1 4) (u.2.2.1 0) (u.2.2.1 1) (u.2.2.1 2) (u.2.2.1 3) (u.2.2.1 4) u.2.2.2.1.1 u.2.2.2.1.2 u.2.2.2.2.1.1 u.2.2.2.2.1.2 (u.2.2.2.2.2.1 0) (u.2.2.2.2.2.1 1) (u.2.2.2.2.2.1 2) (u.2.2.2.2.2.1 3) (u.2.2.2.2.2.1 4) (u.2.2.2.2.2.2.1 0) (u.2.2.2.2.2.2.1 1) (u.2.2.2.2.2.2.1 2) (u.2.2.2.2.2.2.1 3) (u.2.2.2.2.2.2.1 4) u.2.2.2.2.2.2.2 ch nu le ta lt b pF pL st tm qt cm ds dr bC pFC pLC stC tmC qtC cmC dsC drC ol pz dvs us bS pFS pLS stS tmS qtS cmS dsS drS bT pFT pLT stT tmT qtT cmT dsT drT p1 htr e1) (cwV 1 hts gL_tryRun_X3_run rfl rfl rfl hdV_X3_run ⟨Nat.le_of_ble_eq_true rfl, Nat.le_of_ble_eq_true rfl⟩) hK hP hD hS hA hAm (zXW_fst g h0 u (ch, nu, le, ta, lt, (b, pF, pL, st, tm, qt, cm, ds, dr), (bC, pFC, pLC, stC, tmC, qtC, cmC, dsC, drC), ol, pz, dvs, us, (bS, pFS, pLS, stS, tmS, qtS, cmS, dsS, drS), (bT, pFT, pLT, stT, tmT, qtT, cmT, dsT, drT)) (ch, nu, le, ta, lt, (b2, pF, pL, st, tm2, qt2, cm2, ds2, dr2), (bC, pFC, pLC, stC, tmC, qtC, cmC, dsC, drC), ol2, pz2, dvs2, us, (bS, pFS, pLS, stS, tmS, qtS, cmS, dsS, drS), (bT, pFT, pLT, stT, tmT, qtT, cmT, dsT, drT))) rfl rfl hl.1 rfl ⟨Nat.le_of_ble_eq_true rfl, Nat.le_of_ble_eq_true rfl⟩ dL_tryRun_2 dL_tryRun_5 hv0 (fun hk H1 locs1 q ce hP1 hS1 hce hcv hcl => ?_)
  rcases hv with h1 | ⟨rfl, rfl⟩
  · exact absurd h1 hk
  · refine zL_hit (k := 2) hown hAm (by decide +kernel) [] ⟨0, 5, 6, 13⟩ [] (by rw [ht]; rfl) (fun _ h => absurd h List.not_mem_nil) (by decide) (by decide) (hts _ mL_tryRun_13) hce hcv hcl ?_
    refine lv_astore_n hx hb dL_tryRun_6 rfl hl (by decide) rfl (fun ls hl => ?_)
    refine lv_ldc hx hb hown (hts _ mL_tryRun_c15) dL_tryRun_7 ?_
    exact zw_i hx hb hr hlocks hP1 hS1 dL_tryRun_9
def fL_tryLay (v : zXS) (p1 : Int32) (p2 : Int32) : Option (Int32 × zXS) :=
  match v with
  | (ch, nu, le, ta, lt, (b, pF, pL, st, tm, qt, cm, ds, dr), (bC, pFC, pLC, stC, tmC, qtC, cmC, dsC, drC), ol, pz, dvs, us, (bS, pFS, pLS, stS, tmS, qtS, cmS, dsS, drS), (bT, pFT, pLT, stT, tmT, qtT, cmT, dsT, drT)) => ob6 (fX3_set b pF pL st tm qt cm ds dr ol pz dvs p1 p2) fun k r st2 ol2 pz2 dvs2 => if k = 0 then some (r, (ch, nu, le, ta, lt, (b, pF, pL, st2, tm, qt, cm, ds, dr), (bC, pFC, pLC, stC, tmC, qtC, cmC, dsC, drC), ol2, pz2, dvs2, us, (bS, pFS, pLS, stS, tmS, qtS, cmS, dsS, drS), (bT, pFT, pLT, stT, tmT, qtT, cmT, dsT, drT))) else if k = 2 then some ((-9999002), (ch, nu, le, ta, lt, (b, pF, pL, st2, tm, qt, cm, ds, dr), (bC, pFC, pLC, stC, tmC, qtC, cmC, dsC, drC), ol2, pz2, dvs2, us, (bS, pFS, pLS, stS, tmS, qtS, cmS, dsS, drS), (bT, pFT, pLT, stT, tmT, qtT, cmT, dsT, drT))) else none
theorem hdV_X3_set : yX3_set.cls = RX3 ∧ yX3_set.cls ≠ "java/lang/invoke/MethodHandle" ∧ yX3_set.cls ≠ "java/lang/invoke/VarHandle" ∧ (parseMethodDescriptor yX3_set.desc).map (fun d => d.parameters.length) = some 2 := by decide +kernel
theorem mL_tryLay_13 : Cond.classLink RL 13 (zE 2) ∈ wsL_tryLay := by decide +kernel
theorem mL_tryLay_c15 : Cond.constant RL 15 (-9999002) ∈ wsL_tryLay := by decide +kernel
set_option maxRecDepth 100000 in
set_option maxHeartbeats 4000000 in
theorem kL_tryLay (l : Launch) (g : zG) (h0 : Nat) (u : zAd) (v : zXS) (p1 : Int32) (p2 : Int32) (htr : l.stackTraces = false) {r' : Int32} {v' : zXS} (h : fL_tryLay v p1 p2 = some (r', v')) : Mn l g yL_tryLay wsL_tryLay { frames := 7, cells := 1, slots := 6, locals := 105 } [.ref h0, .int p1, .int p2] (zXW g h0 u v) (zWi g (zXW g h0 u v') r') 1 6 := by
  obtain ⟨ch, nu, le, ta, lt, ⟨b, pF, pL, st, tm, qt, cm, ds, dr⟩, ⟨bC, pFC, pLC, stC, tmC, qtC, cmC, dsC, drC⟩, ol, pz, dvs, us, ⟨bS, pFS, pLS, stS, tmS, qtS, cmS, dsS, drS⟩, ⟨bT, pFT, pLT, stT, tmT, qtT, cmT, dsT, drT⟩⟩ := v
  replace h : ob6 (fX3_set b pF pL st tm qt cm ds dr ol pz dvs p1 p2) (fun k r st2 ol2 pz2 dvs2 => if k = 0 then some (r, (ch, nu, le, ta, lt, (b, pF, pL, st2, tm, qt, cm, ds, dr), (bC, pFC, pLC, stC, tmC, qtC, cmC, dsC, drC), ol2, pz2, dvs2, us, (bS, pFS, pLS, stS, tmS, qtS, cmS, dsS, drS), (bT, pFT, pLT, stT, tmT, qtT, cmT, dsT, drT))) else if k = 2 then some ((-9999002), (ch, nu, le, ta, lt, (b, pF, pL, st2, tm, qt, cm, ds, dr), (bC, pFC, pLC, stC, tmC, qtC, cmC, dsC, drC), ol2, pz2, dvs2, us, (bS, pFS, pLS, stS, tmS, qtS, cmS, dsS, drS), (bT, pFT, pLT, stT, tmT, qtT, cmT, dsT, drT))) else none) = some (r', v') := h
  obtain ⟨k, r, st2, ol2, pz2, dvs2, e1, h⟩ := zb6 h
  have hv : v' = (ch, nu, le, ta, lt, (b, pF, pL, st2, tm, qt, cm, ds, dr), (bC, pFC, pLC, stC, tmC, qtC, cmC, dsC, drC), ol2, pz2, dvs2, us, (bS, pFS, pLS, stS, tmS, qtS, cmS, dsS, drS), (bT, pFT, pLT, stT, tmT, qtT, cmT, dsT, drT)) ∧ (k = 0 → r = r') ∧ (k = 0 ∨ (k = 2 ∧ (-9999002 : Int32) = r')) := by
    by_cases c0 : k = 0
    · replace h := zt c0 h
      cases h
      exact ⟨rfl, fun _ => rfl, Or.inl c0⟩
    replace h := zf c0 h
    by_cases c1 : k = 2
    · replace h := zt c1 h
      cases h
      exact ⟨rfl, fun q => absurd q c0, Or.inr (⟨c1, rfl⟩)⟩
    replace h := zf c1 h
    exact zn h
  clear h
  obtain ⟨rfl, hv0, hv⟩ := hv
  refine zn_in (cc := cL_tryLay) (maxL := 4) (ret := some .int) (hh := [(0, 6, 7, 13)]) (by decide) rfl (Nat.le_of_ble_eq_true rfl) ?_
  intro p e s m below meth c hx hb hr hml hts hown hlocks hK ht hN A hA hP hD hS hAm ls hl
  replace hl : lv_has ls 4 [(0, .ref h0), (1, .int p1), (2, .int p2)] := hl
  refine lv_aload_n hx hb dL_tryLay_0 rfl (lv_at hl 0 rfl) ?_
  refine lv_iload_n hx hb dL_tryLay_1 rfl (lv_at hl 1 rfl) ?_
  refine lv_iload_n hx hb dL_tryLay_2 rfl (lv_at hl 2 rfl) ?_
  refine zT_mid (As := [.int p1, .int p2]) ⟨hx, hb, hml, hown, hts⟩ hr hlocks (kX3_set l g h0 u.1.1 u.1.2.1 u.1.2.2 (u.2.1 0) (u.2.1 1) (u.2.1 2) (u.2.1 3) (u.2.1 4) (u.2.2.1 0) (u.2.2.1 1) (u.2.2.1 2) (u.2.2.1 3) (u.2.2.1 4) u.2.2.2.1.1 u.2.2.2.1.2 u.2.2.2.2.1.1 u.2.2.2.2.1.2 (u.2.2.2.2.2.1 0) (u.2.2.2.2.2.1 1) (u.2.2.2.2.2.1 2) (u.2.2.2.2.2.1 3) (u.2.2.2.2.2.1 4) (u.2.2.2.2.2.2.1 0) (u.2.2.2.2.2.2.1 1) (u.2.2.2.2.2.2.1 2) (u.2.2.2.2.2.2.1 3) (u.2.2.2.2.2.2.1 4) u.2.2.2.2.2.2.2 ch nu le ta lt b pF pL st tm qt cm ds dr bC pFC pLC stC tmC qtC cmC dsC drC ol pz dvs us bS pFS pLS stS tmS qtS cmS dsS drS bT pFT pLT stT tmT qtT cmT dsT drT p1 p2 htr e1) (cwV 2 hts gL_tryLay_X3_set rfl rfl rfl hdV_X3_set ⟨Nat.le_of_ble_eq_true rfl, Nat.le_of_ble_eq_true rfl⟩) hK hP hD hS hA hAm (zXW_fst g h0 u (ch, nu, le, ta, lt, (b, pF, pL, st, tm, qt, cm, ds, dr), (bC, pFC, pLC, stC, tmC, qtC, cmC, dsC, drC), ol, pz, dvs, us, (bS, pFS, pLS, stS, tmS, qtS, cmS, dsS, drS), (bT, pFT, pLT, stT, tmT, qtT, cmT, dsT, drT)) (ch, nu, le, ta, lt, (b, pF, pL, st2, tm, qt, cm, ds, dr), (bC, pFC, pLC, stC, tmC, qtC, cmC, dsC, drC), ol2, pz2, dvs2, us, (bS, pFS, pLS, stS, tmS, qtS, cmS, dsS, drS), (bT, pFT, pLT, stT, tmT, qtT, cmT, dsT, drT))) rfl rfl hl.1 rfl ⟨Nat.le_of_ble_eq_true rfl, Nat.le_of_ble_eq_true rfl⟩ dL_tryLay_3 dL_tryLay_6 hv0 (fun hk H1 locs1 q ce hP1 hS1 hce hcv hcl => ?_)
  rcases hv with h1 | ⟨rfl, rfl⟩
  · exact absurd h1 hk
  · refine zL_hit (k := 2) hown hAm (by decide +kernel) [] ⟨0, 6, 7, 13⟩ [] (by rw [ht]; rfl) (fun _ h => absurd h List.not_mem_nil) (by decide) (by decide) (hts _ mL_tryLay_13) hce hcv hcl ?_
    refine lv_astore_n hx hb dL_tryLay_7 rfl hl (by decide) rfl (fun ls hl => ?_)
    refine lv_ldc hx hb hown (hts _ mL_tryLay_c15) dL_tryLay_8 ?_
    exact zw_i hx hb hr hlocks hP1 hS1 dL_tryLay_10
def fL_tryUndo (v : zXS) : Option (Int32 × zXS) :=
  match v with
  | (ch, nu, le, ta, lt, (b, pF, pL, st, tm, qt, cm, ds, dr), (bC, pFC, pLC, stC, tmC, qtC, cmC, dsC, drC), ol, pz, dvs, us, (bS, pFS, pLS, stS, tmS, qtS, cmS, dsS, drS), (bT, pFT, pLT, stT, tmT, qtT, cmT, dsT, drT)) => ob12 (fX3_undo b pF pL st tm qt cm ds dr ol pz dvs) fun k r b2 pF2 pL2 st2 tm2 qt2 cm2 ds2 dr2 pz2 => if k = 0 then some (r, (ch, nu, le, ta, lt, (b2, pF2, pL2, st2, tm2, qt2, cm2, ds2, dr2), (bC, pFC, pLC, stC, tmC, qtC, cmC, dsC, drC), ol, pz2, dvs, us, (bS, pFS, pLS, stS, tmS, qtS, cmS, dsS, drS), (bT, pFT, pLT, stT, tmT, qtT, cmT, dsT, drT))) else if k = 3 then some ((-9999003), (ch, nu, le, ta, lt, (b2, pF2, pL2, st2, tm2, qt2, cm2, ds2, dr2), (bC, pFC, pLC, stC, tmC, qtC, cmC, dsC, drC), ol, pz2, dvs, us, (bS, pFS, pLS, stS, tmS, qtS, cmS, dsS, drS), (bT, pFT, pLT, stT, tmT, qtT, cmT, dsT, drT))) else none
theorem hdV_X3_undo : yX3_undo.cls = RX3 ∧ yX3_undo.cls ≠ "java/lang/invoke/MethodHandle" ∧ yX3_undo.cls ≠ "java/lang/invoke/VarHandle" ∧ (parseMethodDescriptor yX3_undo.desc).map (fun d => d.parameters.length) = some 0 := by decide +kernel
theorem mL_tryUndo_24 : Cond.classLink RL 24 (zE 3) ∈ wsL_tryUndo := by decide +kernel
theorem mL_tryUndo_c26 : Cond.constant RL 26 (-9999003) ∈ wsL_tryUndo := by decide +kernel
set_option maxRecDepth 100000 in
set_option maxHeartbeats 4000000 in
theorem kL_tryUndo (l : Launch) (g : zG) (h0 : Nat) (u : zAd) (v : zXS) (htr : l.stackTraces = false) {r' : Int32} {v' : zXS} (h : fL_tryUndo v = some (r', v')) : Mn l g yL_tryUndo wsL_tryUndo { frames := 7, cells := 1, slots := 6, locals := 102 } [.ref h0] (zXW g h0 u v) (zWi g (zXW g h0 u v') r') 1 6 := by
  obtain ⟨ch, nu, le, ta, lt, ⟨b, pF, pL, st, tm, qt, cm, ds, dr⟩, ⟨bC, pFC, pLC, stC, tmC, qtC, cmC, dsC, drC⟩, ol, pz, dvs, us, ⟨bS, pFS, pLS, stS, tmS, qtS, cmS, dsS, drS⟩, ⟨bT, pFT, pLT, stT, tmT, qtT, cmT, dsT, drT⟩⟩ := v
  replace h : ob12 (fX3_undo b pF pL st tm qt cm ds dr ol pz dvs) (fun k r b2 pF2 pL2 st2 tm2 qt2 cm2 ds2 dr2 pz2 => if k = 0 then some (r, (ch, nu, le, ta, lt, (b2, pF2, pL2, st2, tm2, qt2, cm2, ds2, dr2), (bC, pFC, pLC, stC, tmC, qtC, cmC, dsC, drC), ol, pz2, dvs, us, (bS, pFS, pLS, stS, tmS, qtS, cmS, dsS, drS), (bT, pFT, pLT, stT, tmT, qtT, cmT, dsT, drT))) else if k = 3 then some ((-9999003), (ch, nu, le, ta, lt, (b2, pF2, pL2, st2, tm2, qt2, cm2, ds2, dr2), (bC, pFC, pLC, stC, tmC, qtC, cmC, dsC, drC), ol, pz2, dvs, us, (bS, pFS, pLS, stS, tmS, qtS, cmS, dsS, drS), (bT, pFT, pLT, stT, tmT, qtT, cmT, dsT, drT))) else none) = some (r', v') := h
  obtain ⟨k, r, b2, pF2, pL2, st2, tm2, qt2, cm2, ds2, dr2, pz2, e1, h⟩ := zb12 h
  have hv : v' = (ch, nu, le, ta, lt, (b2, pF2, pL2, st2, tm2, qt2, cm2, ds2, dr2), (bC, pFC, pLC, stC, tmC, qtC, cmC, dsC, drC), ol, pz2, dvs, us, (bS, pFS, pLS, stS, tmS, qtS, cmS, dsS, drS), (bT, pFT, pLT, stT, tmT, qtT, cmT, dsT, drT)) ∧ (k = 0 → r = r') ∧ (k = 0 ∨ (k = 3 ∧ (-9999003 : Int32) = r')) := by
    by_cases c0 : k = 0
    · replace h := zt c0 h
      cases h
      exact ⟨rfl, fun _ => rfl, Or.inl c0⟩
    replace h := zf c0 h
    by_cases c1 : k = 3
    · replace h := zt c1 h
      cases h
      exact ⟨rfl, fun q => absurd q c0, Or.inr (⟨c1, rfl⟩)⟩
    replace h := zf c1 h
    exact zn h
  clear h
  obtain ⟨rfl, hv0, hv⟩ := hv
  refine zn_in (cc := cL_tryUndo) (maxL := 2) (ret := some .int) (hh := [(0, 4, 5, 24)]) (by decide) rfl (Nat.le_of_ble_eq_true rfl) ?_
  intro p e s m below meth c hx hb hr hml hts hown hlocks hK ht hN A hA hP hD hS hAm ls hl
  replace hl : lv_has ls 2 [(0, .ref h0)] := hl
  refine lv_aload_n hx hb dL_tryUndo_0 rfl (lv_at hl 0 rfl) ?_
  refine zT_mid (As := []) ⟨hx, hb, hml, hown, hts⟩ hr hlocks (kX3_undo l g h0 u.1.1 u.1.2.1 u.1.2.2 (u.2.1 0) (u.2.1 1) (u.2.1 2) (u.2.1 3) (u.2.1 4) (u.2.2.1 0) (u.2.2.1 1) (u.2.2.1 2) (u.2.2.1 3) (u.2.2.1 4) u.2.2.2.1.1 u.2.2.2.1.2 u.2.2.2.2.1.1 u.2.2.2.2.1.2 (u.2.2.2.2.2.1 0) (u.2.2.2.2.2.1 1) (u.2.2.2.2.2.1 2) (u.2.2.2.2.2.1 3) (u.2.2.2.2.2.1 4) (u.2.2.2.2.2.2.1 0) (u.2.2.2.2.2.2.1 1) (u.2.2.2.2.2.2.1 2) (u.2.2.2.2.2.2.1 3) (u.2.2.2.2.2.2.1 4) u.2.2.2.2.2.2.2 ch nu le ta lt b pF pL st tm qt cm ds dr bC pFC pLC stC tmC qtC cmC dsC drC ol pz dvs us bS pFS pLS stS tmS qtS cmS dsS drS bT pFT pLT stT tmT qtT cmT dsT drT  htr e1) (cwV 0 hts gL_tryUndo_X3_undo rfl rfl rfl hdV_X3_undo ⟨Nat.le_of_ble_eq_true rfl, Nat.le_of_ble_eq_true rfl⟩) hK hP hD hS hA hAm (zXW_fst g h0 u (ch, nu, le, ta, lt, (b, pF, pL, st, tm, qt, cm, ds, dr), (bC, pFC, pLC, stC, tmC, qtC, cmC, dsC, drC), ol, pz, dvs, us, (bS, pFS, pLS, stS, tmS, qtS, cmS, dsS, drS), (bT, pFT, pLT, stT, tmT, qtT, cmT, dsT, drT)) (ch, nu, le, ta, lt, (b2, pF2, pL2, st2, tm2, qt2, cm2, ds2, dr2), (bC, pFC, pLC, stC, tmC, qtC, cmC, dsC, drC), ol, pz2, dvs, us, (bS, pFS, pLS, stS, tmS, qtS, cmS, dsS, drS), (bT, pFT, pLT, stT, tmT, qtT, cmT, dsT, drT))) rfl rfl hl.1 rfl ⟨Nat.le_of_ble_eq_true rfl, Nat.le_of_ble_eq_true rfl⟩ dL_tryUndo_1 dL_tryUndo_4 hv0 (fun hk H1 locs1 q ce hP1 hS1 hce hcv hcl => ?_)
  rcases hv with h1 | ⟨rfl, rfl⟩
  · exact absurd h1 hk
  · refine zL_hit (k := 3) hown hAm (by decide +kernel) [] ⟨0, 4, 5, 24⟩ [] (by rw [ht]; rfl) (fun _ h => absurd h List.not_mem_nil) (by decide) (by decide) (hts _ mL_tryUndo_24) hce hcv hcl ?_
    refine lv_astore_n hx hb dL_tryUndo_5 rfl hl (by decide) rfl (fun ls hl => ?_)
    refine lv_ldc hx hb hown (hts _ mL_tryUndo_c26) dL_tryUndo_6 ?_
    exact zw_i hx hb hr hlocks hP1 hS1 dL_tryUndo_8
def fL_tryNext (v : zXS) (p1 : Int32) : Option (Int32 × zXS) :=
  match v with
  | (ch, nu, le, ta, lt, (b, pF, pL, st, tm, qt, cm, ds, dr), (bC, pFC, pLC, stC, tmC, qtC, cmC, dsC, drC), ol, pz, dvs, us, (bS, pFS, pLS, stS, tmS, qtS, cmS, dsS, drS), (bT, pFT, pLT, stT, tmT, qtT, cmT, dsT, drT)) => ob11 (fX3_next b pF pL st tm qt cm ds dr bC pFC pLC stC tmC qtC cmC dsC drC p1) fun k r bC2 pFC2 pLC2 stC2 tmC2 qtC2 cmC2 dsC2 drC2 => if k = 0 then some (r, (ch, nu, le, ta, lt, (b, pF, pL, st, tm, qt, cm, ds, dr), (bC2, pFC2, pLC2, stC2, tmC2, qtC2, cmC2, dsC2, drC2), ol, pz, dvs, us, (bS, pFS, pLS, stS, tmS, qtS, cmS, dsS, drS), (bT, pFT, pLT, stT, tmT, qtT, cmT, dsT, drT))) else if k = 2 then some ((-9999002), (ch, nu, le, ta, lt, (b, pF, pL, st, tm, qt, cm, ds, dr), (bC2, pFC2, pLC2, stC2, tmC2, qtC2, cmC2, dsC2, drC2), ol, pz, dvs, us, (bS, pFS, pLS, stS, tmS, qtS, cmS, dsS, drS), (bT, pFT, pLT, stT, tmT, qtT, cmT, dsT, drT))) else none
theorem hdV_X3_next : yX3_next.cls = RX3 ∧ yX3_next.cls ≠ "java/lang/invoke/MethodHandle" ∧ yX3_next.cls ≠ "java/lang/invoke/VarHandle" ∧ (parseMethodDescriptor yX3_next.desc).map (fun d => d.parameters.length) = some 1 := by decide +kernel
theorem mL_tryNext_13 : Cond.classLink RL 13 (zE 2) ∈ wsL_tryNext := by decide +kernel
theorem mL_tryNext_c15 : Cond.constant RL 15 (-9999002) ∈ wsL_tryNext := by decide +kernel
set_option maxRecDepth 100000 in
set_option maxHeartbeats 4000000 in
theorem kL_tryNext (l : Launch) (g : zG) (h0 : Nat) (u : zAd) (v : zXS) (p1 : Int32) (htr : l.stackTraces = false) {r' : Int32} {v' : zXS} (h : fL_tryNext v p1 = some (r', v')) : Mn l g yL_tryNext wsL_tryNext { frames := 7, cells := 1, slots := 6, locals := 136 } [.ref h0, .int p1] (zXW g h0 u v) (zWi g (zXW g h0 u v') r') 1 6 := by
  obtain ⟨ch, nu, le, ta, lt, ⟨b, pF, pL, st, tm, qt, cm, ds, dr⟩, ⟨bC, pFC, pLC, stC, tmC, qtC, cmC, dsC, drC⟩, ol, pz, dvs, us, ⟨bS, pFS, pLS, stS, tmS, qtS, cmS, dsS, drS⟩, ⟨bT, pFT, pLT, stT, tmT, qtT, cmT, dsT, drT⟩⟩ := v
  replace h : ob11 (fX3_next b pF pL st tm qt cm ds dr bC pFC pLC stC tmC qtC cmC dsC drC p1) (fun k r bC2 pFC2 pLC2 stC2 tmC2 qtC2 cmC2 dsC2 drC2 => if k = 0 then some (r, (ch, nu, le, ta, lt, (b, pF, pL, st, tm, qt, cm, ds, dr), (bC2, pFC2, pLC2, stC2, tmC2, qtC2, cmC2, dsC2, drC2), ol, pz, dvs, us, (bS, pFS, pLS, stS, tmS, qtS, cmS, dsS, drS), (bT, pFT, pLT, stT, tmT, qtT, cmT, dsT, drT))) else if k = 2 then some ((-9999002), (ch, nu, le, ta, lt, (b, pF, pL, st, tm, qt, cm, ds, dr), (bC2, pFC2, pLC2, stC2, tmC2, qtC2, cmC2, dsC2, drC2), ol, pz, dvs, us, (bS, pFS, pLS, stS, tmS, qtS, cmS, dsS, drS), (bT, pFT, pLT, stT, tmT, qtT, cmT, dsT, drT))) else none) = some (r', v') := h
  obtain ⟨k, r, bC2, pFC2, pLC2, stC2, tmC2, qtC2, cmC2, dsC2, drC2, e1, h⟩ := zb11 h
  have hv : v' = (ch, nu, le, ta, lt, (b, pF, pL, st, tm, qt, cm, ds, dr), (bC2, pFC2, pLC2, stC2, tmC2, qtC2, cmC2, dsC2, drC2), ol, pz, dvs, us, (bS, pFS, pLS, stS, tmS, qtS, cmS, dsS, drS), (bT, pFT, pLT, stT, tmT, qtT, cmT, dsT, drT)) ∧ (k = 0 → r = r') ∧ (k = 0 ∨ (k = 2 ∧ (-9999002 : Int32) = r')) := by
    by_cases c0 : k = 0
    · replace h := zt c0 h
      cases h
      exact ⟨rfl, fun _ => rfl, Or.inl c0⟩
    replace h := zf c0 h
    by_cases c1 : k = 2
    · replace h := zt c1 h
      cases h
      exact ⟨rfl, fun q => absurd q c0, Or.inr (⟨c1, rfl⟩)⟩
    replace h := zf c1 h
    exact zn h
  clear h
  obtain ⟨rfl, hv0, hv⟩ := hv
  refine zn_in (cc := cL_tryNext) (maxL := 3) (ret := some .int) (hh := [(0, 5, 6, 13)]) (by decide) rfl (Nat.le_of_ble_eq_true rfl) ?_
  intro p e s m below meth c hx hb hr hml hts hown hlocks hK ht hN A hA hP hD hS hAm ls hl
  replace hl : lv_has ls 3 [(0, .ref h0), (1, .int p1)] := hl
  refine lv_aload_n hx hb dL_tryNext_0 rfl (lv_at hl 0 rfl) ?_
  refine lv_iload_n hx hb dL_tryNext_1 rfl (lv_at hl 1 rfl) ?_
  refine zT_mid (As := [.int p1]) ⟨hx, hb, hml, hown, hts⟩ hr hlocks (kX3_next l g h0 u.1.1 u.1.2.1 u.1.2.2 (u.2.1 0) (u.2.1 1) (u.2.1 2) (u.2.1 3) (u.2.1 4) (u.2.2.1 0) (u.2.2.1 1) (u.2.2.1 2) (u.2.2.1 3) (u.2.2.1 4) u.2.2.2.1.1 u.2.2.2.1.2 u.2.2.2.2.1.1 u.2.2.2.2.1.2 (u.2.2.2.2.2.1 0) (u.2.2.2.2.2.1 1) (u.2.2.2.2.2.1 2) (u.2.2.2.2.2.1 3) (u.2.2.2.2.2.1 4) (u.2.2.2.2.2.2.1 0) (u.2.2.2.2.2.2.1 1) (u.2.2.2.2.2.2.1 2) (u.2.2.2.2.2.2.1 3) (u.2.2.2.2.2.2.1 4) u.2.2.2.2.2.2.2 ch nu le ta lt b pF pL st tm qt cm ds dr bC pFC pLC stC tmC qtC cmC dsC drC ol pz dvs us bS pFS pLS stS tmS qtS cmS dsS drS bT pFT pLT stT tmT qtT cmT dsT drT p1 htr e1) (cwV 1 hts gL_tryNext_X3_next rfl rfl rfl hdV_X3_next ⟨Nat.le_of_ble_eq_true rfl, Nat.le_of_ble_eq_true rfl⟩) hK hP hD hS hA hAm (zXW_fst g h0 u (ch, nu, le, ta, lt, (b, pF, pL, st, tm, qt, cm, ds, dr), (bC, pFC, pLC, stC, tmC, qtC, cmC, dsC, drC), ol, pz, dvs, us, (bS, pFS, pLS, stS, tmS, qtS, cmS, dsS, drS), (bT, pFT, pLT, stT, tmT, qtT, cmT, dsT, drT)) (ch, nu, le, ta, lt, (b, pF, pL, st, tm, qt, cm, ds, dr), (bC2, pFC2, pLC2, stC2, tmC2, qtC2, cmC2, dsC2, drC2), ol, pz, dvs, us, (bS, pFS, pLS, stS, tmS, qtS, cmS, dsS, drS), (bT, pFT, pLT, stT, tmT, qtT, cmT, dsT, drT))) rfl rfl hl.1 rfl ⟨Nat.le_of_ble_eq_true rfl, Nat.le_of_ble_eq_true rfl⟩ dL_tryNext_2 dL_tryNext_5 hv0 (fun hk H1 locs1 q ce hP1 hS1 hce hcv hcl => ?_)
  rcases hv with h1 | ⟨rfl, rfl⟩
  · exact absurd h1 hk
  · refine zL_hit (k := 2) hown hAm (by decide +kernel) [] ⟨0, 5, 6, 13⟩ [] (by rw [ht]; rfl) (fun _ h => absurd h List.not_mem_nil) (by decide) (by decide) (hts _ mL_tryNext_13) hce hcv hcl ?_
    refine lv_astore_n hx hb dL_tryNext_6 rfl hl (by decide) rfl (fun ls hl => ?_)
    refine lv_ldc hx hb hown (hts _ mL_tryNext_c15) dL_tryNext_7 ?_
    exact zw_i hx hb hr hlocks hP1 hS1 dL_tryNext_9
def fL_tryGone (v : zXS) (p1 : Int32) : Option (Int32 × zXS) :=
  match v with
  | (ch, nu, le, ta, lt, (b, pF, pL, st, tm, qt, cm, ds, dr), (bC, pFC, pLC, stC, tmC, qtC, cmC, dsC, drC), ol, pz, dvs, us, (bS, pFS, pLS, stS, tmS, qtS, cmS, dsS, drS), (bT, pFT, pLT, stT, tmT, qtT, cmT, dsT, drT)) => ob11 (fX3_goneIn b pF pL st tm qt cm ds dr bC pFC pLC stC tmC qtC cmC dsC drC p1) fun k r bC2 pFC2 pLC2 stC2 tmC2 qtC2 cmC2 dsC2 drC2 => if k = 0 then some (r, (ch, nu, le, ta, lt, (b, pF, pL, st, tm, qt, cm, ds, dr), (bC2, pFC2, pLC2, stC2, tmC2, qtC2, cmC2, dsC2, drC2), ol, pz, dvs, us, (bS, pFS, pLS, stS, tmS, qtS, cmS, dsS, drS), (bT, pFT, pLT, stT, tmT, qtT, cmT, dsT, drT))) else if k = 1 then some ((-9999001), (ch, nu, le, ta, lt, (b, pF, pL, st, tm, qt, cm, ds, dr), (bC2, pFC2, pLC2, stC2, tmC2, qtC2, cmC2, dsC2, drC2), ol, pz, dvs, us, (bS, pFS, pLS, stS, tmS, qtS, cmS, dsS, drS), (bT, pFT, pLT, stT, tmT, qtT, cmT, dsT, drT))) else none
theorem hdV_X3_goneIn : yX3_goneIn.cls = RX3 ∧ yX3_goneIn.cls ≠ "java/lang/invoke/MethodHandle" ∧ yX3_goneIn.cls ≠ "java/lang/invoke/VarHandle" ∧ (parseMethodDescriptor yX3_goneIn.desc).map (fun d => d.parameters.length) = some 1 := by decide +kernel
theorem mL_tryGone_38 : Cond.classLink RL 38 (zE 1) ∈ wsL_tryGone := by decide +kernel
theorem mL_tryGone_c40 : Cond.constant RL 40 (-9999001) ∈ wsL_tryGone := by decide +kernel
set_option maxRecDepth 100000 in
set_option maxHeartbeats 4000000 in
theorem kL_tryGone (l : Launch) (g : zG) (h0 : Nat) (u : zAd) (v : zXS) (p1 : Int32) (htr : l.stackTraces = false) {r' : Int32} {v' : zXS} (h : fL_tryGone v p1 = some (r', v')) : Mn l g yL_tryGone wsL_tryGone { frames := 8, cells := 1, slots := 6, locals := 124 } [.ref h0, .int p1] (zXW g h0 u v) (zWi g (zXW g h0 u v') r') 1 6 := by
  obtain ⟨ch, nu, le, ta, lt, ⟨b, pF, pL, st, tm, qt, cm, ds, dr⟩, ⟨bC, pFC, pLC, stC, tmC, qtC, cmC, dsC, drC⟩, ol, pz, dvs, us, ⟨bS, pFS, pLS, stS, tmS, qtS, cmS, dsS, drS⟩, ⟨bT, pFT, pLT, stT, tmT, qtT, cmT, dsT, drT⟩⟩ := v
  replace h : ob11 (fX3_goneIn b pF pL st tm qt cm ds dr bC pFC pLC stC tmC qtC cmC dsC drC p1) (fun k r bC2 pFC2 pLC2 stC2 tmC2 qtC2 cmC2 dsC2 drC2 => if k = 0 then some (r, (ch, nu, le, ta, lt, (b, pF, pL, st, tm, qt, cm, ds, dr), (bC2, pFC2, pLC2, stC2, tmC2, qtC2, cmC2, dsC2, drC2), ol, pz, dvs, us, (bS, pFS, pLS, stS, tmS, qtS, cmS, dsS, drS), (bT, pFT, pLT, stT, tmT, qtT, cmT, dsT, drT))) else if k = 1 then some ((-9999001), (ch, nu, le, ta, lt, (b, pF, pL, st, tm, qt, cm, ds, dr), (bC2, pFC2, pLC2, stC2, tmC2, qtC2, cmC2, dsC2, drC2), ol, pz, dvs, us, (bS, pFS, pLS, stS, tmS, qtS, cmS, dsS, drS), (bT, pFT, pLT, stT, tmT, qtT, cmT, dsT, drT))) else none) = some (r', v') := h
  obtain ⟨k, r, bC2, pFC2, pLC2, stC2, tmC2, qtC2, cmC2, dsC2, drC2, e1, h⟩ := zb11 h
  have hv : v' = (ch, nu, le, ta, lt, (b, pF, pL, st, tm, qt, cm, ds, dr), (bC2, pFC2, pLC2, stC2, tmC2, qtC2, cmC2, dsC2, drC2), ol, pz, dvs, us, (bS, pFS, pLS, stS, tmS, qtS, cmS, dsS, drS), (bT, pFT, pLT, stT, tmT, qtT, cmT, dsT, drT)) ∧ (k = 0 → r = r') ∧ (k = 0 ∨ (k = 1 ∧ (-9999001 : Int32) = r')) := by
    by_cases c0 : k = 0
    · replace h := zt c0 h
      cases h
      exact ⟨rfl, fun _ => rfl, Or.inl c0⟩
    replace h := zf c0 h
    by_cases c1 : k = 1
    · replace h := zt c1 h
      cases h
      exact ⟨rfl, fun q => absurd q c0, Or.inr (⟨c1, rfl⟩)⟩
    replace h := zf c1 h
    exact zn h
  clear h
  obtain ⟨rfl, hv0, hv⟩ := hv
  refine zn_in (cc := cL_tryGone) (maxL := 3) (ret := some .int) (hh := [(0, 5, 6, 38)]) (by decide) rfl (Nat.le_of_ble_eq_true rfl) ?_
  intro p e s m below meth c hx hb hr hml hts hown hlocks hK ht hN A hA hP hD hS hAm ls hl
  replace hl : lv_has ls 3 [(0, .ref h0), (1, .int p1)] := hl
  refine lv_aload_n hx hb dL_tryGone_0 rfl (lv_at hl 0 rfl) ?_
  refine lv_iload_n hx hb dL_tryGone_1 rfl (lv_at hl 1 rfl) ?_
  refine zT_mid (As := [.int p1]) ⟨hx, hb, hml, hown, hts⟩ hr hlocks (kX3_goneIn l g h0 u.1.1 u.1.2.1 u.1.2.2 (u.2.1 0) (u.2.1 1) (u.2.1 2) (u.2.1 3) (u.2.1 4) (u.2.2.1 0) (u.2.2.1 1) (u.2.2.1 2) (u.2.2.1 3) (u.2.2.1 4) u.2.2.2.1.1 u.2.2.2.1.2 u.2.2.2.2.1.1 u.2.2.2.2.1.2 (u.2.2.2.2.2.1 0) (u.2.2.2.2.2.1 1) (u.2.2.2.2.2.1 2) (u.2.2.2.2.2.1 3) (u.2.2.2.2.2.1 4) (u.2.2.2.2.2.2.1 0) (u.2.2.2.2.2.2.1 1) (u.2.2.2.2.2.2.1 2) (u.2.2.2.2.2.2.1 3) (u.2.2.2.2.2.2.1 4) u.2.2.2.2.2.2.2 ch nu le ta lt b pF pL st tm qt cm ds dr bC pFC pLC stC tmC qtC cmC dsC drC ol pz dvs us bS pFS pLS stS tmS qtS cmS dsS drS bT pFT pLT stT tmT qtT cmT dsT drT p1 htr e1) (cwV 1 hts gL_tryGone_X3_goneIn rfl rfl rfl hdV_X3_goneIn ⟨Nat.le_of_ble_eq_true rfl, Nat.le_of_ble_eq_true rfl⟩) hK hP hD hS hA hAm (zXW_fst g h0 u (ch, nu, le, ta, lt, (b, pF, pL, st, tm, qt, cm, ds, dr), (bC, pFC, pLC, stC, tmC, qtC, cmC, dsC, drC), ol, pz, dvs, us, (bS, pFS, pLS, stS, tmS, qtS, cmS, dsS, drS), (bT, pFT, pLT, stT, tmT, qtT, cmT, dsT, drT)) (ch, nu, le, ta, lt, (b, pF, pL, st, tm, qt, cm, ds, dr), (bC2, pFC2, pLC2, stC2, tmC2, qtC2, cmC2, dsC2, drC2), ol, pz, dvs, us, (bS, pFS, pLS, stS, tmS, qtS, cmS, dsS, drS), (bT, pFT, pLT, stT, tmT, qtT, cmT, dsT, drT))) rfl rfl hl.1 rfl ⟨Nat.le_of_ble_eq_true rfl, Nat.le_of_ble_eq_true rfl⟩ dL_tryGone_2 dL_tryGone_5 hv0 (fun hk H1 locs1 q ce hP1 hS1 hce hcv hcl => ?_)
  rcases hv with h1 | ⟨rfl, rfl⟩
  · exact absurd h1 hk
  · refine zL_hit (k := 1) hown hAm (by decide +kernel) [] ⟨0, 5, 6, 38⟩ [] (by rw [ht]; rfl) (fun _ h => absurd h List.not_mem_nil) (by decide) (by decide) (hts _ mL_tryGone_38) hce hcv hcl ?_
    refine lv_astore_n hx hb dL_tryGone_6 rfl hl (by decide) rfl (fun ls hl => ?_)
    refine lv_ldc hx hb hown (hts _ mL_tryGone_c40) dL_tryGone_7 ?_
    exact zw_i hx hb hr hlocks hP1 hS1 dL_tryGone_9
def fL_tryComing (v : zXS) (p1 : Int32) (p2 : Int32) : Option (Int32 × zXS) :=
  match v with
  | (ch, nu, le, ta, lt, (b, pF, pL, st, tm, qt, cm, ds, dr), (bC, pFC, pLC, stC, tmC, qtC, cmC, dsC, drC), ol, pz, dvs, us, (bS, pFS, pLS, stS, tmS, qtS, cmS, dsS, drS), (bT, pFT, pLT, stT, tmT, qtT, cmT, dsT, drT)) => ob11 (fX3_coming b pF pL st tm qt cm ds dr bC pFC pLC stC tmC qtC cmC dsC drC p1 p2) fun k r bC2 pFC2 pLC2 stC2 tmC2 qtC2 cmC2 dsC2 drC2 => if k = 0 then some (r, (ch, nu, le, ta, lt, (b, pF, pL, st, tm, qt, cm, ds, dr), (bC2, pFC2, pLC2, stC2, tmC2, qtC2, cmC2, dsC2, drC2), ol, pz, dvs, us, (bS, pFS, pLS, stS, tmS, qtS, cmS, dsS, drS), (bT, pFT, pLT, stT, tmT, qtT, cmT, dsT, drT))) else if k = 2 then some ((-9999002), (ch, nu, le, ta, lt, (b, pF, pL, st, tm, qt, cm, ds, dr), (bC2, pFC2, pLC2, stC2, tmC2, qtC2, cmC2, dsC2, drC2), ol, pz, dvs, us, (bS, pFS, pLS, stS, tmS, qtS, cmS, dsS, drS), (bT, pFT, pLT, stT, tmT, qtT, cmT, dsT, drT))) else none
theorem hdV_X3_coming : yX3_coming.cls = RX3 ∧ yX3_coming.cls ≠ "java/lang/invoke/MethodHandle" ∧ yX3_coming.cls ≠ "java/lang/invoke/VarHandle" ∧ (parseMethodDescriptor yX3_coming.desc).map (fun d => d.parameters.length) = some 2 := by decide +kernel
theorem mL_tryComing_13 : Cond.classLink RL 13 (zE 2) ∈ wsL_tryComing := by decide +kernel
theorem mL_tryComing_c15 : Cond.constant RL 15 (-9999002) ∈ wsL_tryComing := by decide +kernel
set_option maxRecDepth 100000 in
set_option maxHeartbeats 4000000 in
theorem kL_tryComing (l : Launch) (g : zG) (h0 : Nat) (u : zAd) (v : zXS) (p1 : Int32) (p2 : Int32) (htr : l.stackTraces = false) {r' : Int32} {v' : zXS} (h : fL_tryComing v p1 p2 = some (r', v')) : Mn l g yL_tryComing wsL_tryComing { frames := 8, cells := 2, slots := 12, locals := 146 } [.ref h0, .int p1, .int p2] (zXW g h0 u v) (zWi g (zXW g h0 u v') r') 2 12 := by
  obtain ⟨ch, nu, le, ta, lt, ⟨b, pF, pL, st, tm, qt, cm, ds, dr⟩, ⟨bC, pFC, pLC, stC, tmC, qtC, cmC, dsC, drC⟩, ol, pz, dvs, us, ⟨bS, pFS, pLS, stS, tmS, qtS, cmS, dsS, drS⟩, ⟨bT, pFT, pLT, stT, tmT, qtT, cmT, dsT, drT⟩⟩ := v
  replace h : ob11 (fX3_coming b pF pL st tm qt cm ds dr bC pFC pLC stC tmC qtC cmC dsC drC p1 p2) (fun k r bC2 pFC2 pLC2 stC2 tmC2 qtC2 cmC2 dsC2 drC2 => if k = 0 then some (r, (ch, nu, le, ta, lt, (b, pF, pL, st, tm, qt, cm, ds, dr), (bC2, pFC2, pLC2, stC2, tmC2, qtC2, cmC2, dsC2, drC2), ol, pz, dvs, us, (bS, pFS, pLS, stS, tmS, qtS, cmS, dsS, drS), (bT, pFT, pLT, stT, tmT, qtT, cmT, dsT, drT))) else if k = 2 then some ((-9999002), (ch, nu, le, ta, lt, (b, pF, pL, st, tm, qt, cm, ds, dr), (bC2, pFC2, pLC2, stC2, tmC2, qtC2, cmC2, dsC2, drC2), ol, pz, dvs, us, (bS, pFS, pLS, stS, tmS, qtS, cmS, dsS, drS), (bT, pFT, pLT, stT, tmT, qtT, cmT, dsT, drT))) else none) = some (r', v') := h
  obtain ⟨k, r, bC2, pFC2, pLC2, stC2, tmC2, qtC2, cmC2, dsC2, drC2, e1, h⟩ := zb11 h
  have hv : v' = (ch, nu, le, ta, lt, (b, pF, pL, st, tm, qt, cm, ds, dr), (bC2, pFC2, pLC2, stC2, tmC2, qtC2, cmC2, dsC2, drC2), ol, pz, dvs, us, (bS, pFS, pLS, stS, tmS, qtS, cmS, dsS, drS), (bT, pFT, pLT, stT, tmT, qtT, cmT, dsT, drT)) ∧ (k = 0 → r = r') ∧ (k = 0 ∨ (k = 2 ∧ (-9999002 : Int32) = r')) := by
    by_cases c0 : k = 0
    · replace h := zt c0 h
      cases h
      exact ⟨rfl, fun _ => rfl, Or.inl c0⟩
    replace h := zf c0 h
    by_cases c1 : k = 2
    · replace h := zt c1 h
      cases h
      exact ⟨rfl, fun q => absurd q c0, Or.inr (⟨c1, rfl⟩)⟩
    replace h := zf c1 h
    exact zn h
  clear h
  obtain ⟨rfl, hv0, hv⟩ := hv
  refine zn_in (cc := cL_tryComing) (maxL := 4) (ret := some .int) (hh := [(0, 6, 7, 13)]) (by decide) rfl (Nat.le_of_ble_eq_true rfl) ?_
  intro p e s m below meth c hx hb hr hml hts hown hlocks hK ht hN A hA hP hD hS hAm ls hl
  replace hl : lv_has ls 4 [(0, .ref h0), (1, .int p1), (2, .int p2)] := hl
  refine lv_aload_n hx hb dL_tryComing_0 rfl (lv_at hl 0 rfl) ?_
  refine lv_iload_n hx hb dL_tryComing_1 rfl (lv_at hl 1 rfl) ?_
  refine lv_iload_n hx hb dL_tryComing_2 rfl (lv_at hl 2 rfl) ?_
  refine zT_mid (As := [.int p1, .int p2]) ⟨hx, hb, hml, hown, hts⟩ hr hlocks (kX3_coming l g h0 u.1.1 u.1.2.1 u.1.2.2 (u.2.1 0) (u.2.1 1) (u.2.1 2) (u.2.1 3) (u.2.1 4) (u.2.2.1 0) (u.2.2.1 1) (u.2.2.1 2) (u.2.2.1 3) (u.2.2.1 4) u.2.2.2.1.1 u.2.2.2.1.2 u.2.2.2.2.1.1 u.2.2.2.2.1.2 (u.2.2.2.2.2.1 0) (u.2.2.2.2.2.1 1) (u.2.2.2.2.2.1 2) (u.2.2.2.2.2.1 3) (u.2.2.2.2.2.1 4) (u.2.2.2.2.2.2.1 0) (u.2.2.2.2.2.2.1 1) (u.2.2.2.2.2.2.1 2) (u.2.2.2.2.2.2.1 3) (u.2.2.2.2.2.2.1 4) u.2.2.2.2.2.2.2 ch nu le ta lt b pF pL st tm qt cm ds dr bC pFC pLC stC tmC qtC cmC dsC drC ol pz dvs us bS pFS pLS stS tmS qtS cmS dsS drS bT pFT pLT stT tmT qtT cmT dsT drT p1 p2 htr e1) (cwV 2 hts gL_tryComing_X3_coming rfl rfl rfl hdV_X3_coming ⟨Nat.le_of_ble_eq_true rfl, Nat.le_of_ble_eq_true rfl⟩) hK hP hD hS hA hAm (zXW_fst g h0 u (ch, nu, le, ta, lt, (b, pF, pL, st, tm, qt, cm, ds, dr), (bC, pFC, pLC, stC, tmC, qtC, cmC, dsC, drC), ol, pz, dvs, us, (bS, pFS, pLS, stS, tmS, qtS, cmS, dsS, drS), (bT, pFT, pLT, stT, tmT, qtT, cmT, dsT, drT)) (ch, nu, le, ta, lt, (b, pF, pL, st, tm, qt, cm, ds, dr), (bC2, pFC2, pLC2, stC2, tmC2, qtC2, cmC2, dsC2, drC2), ol, pz, dvs, us, (bS, pFS, pLS, stS, tmS, qtS, cmS, dsS, drS), (bT, pFT, pLT, stT, tmT, qtT, cmT, dsT, drT))) rfl rfl hl.1 rfl ⟨Nat.le_of_ble_eq_true rfl, Nat.le_of_ble_eq_true rfl⟩ dL_tryComing_3 dL_tryComing_6 hv0 (fun hk H1 locs1 q ce hP1 hS1 hce hcv hcl => ?_)
  rcases hv with h1 | ⟨rfl, rfl⟩
  · exact absurd h1 hk
  · refine zL_hit (k := 2) hown hAm (by decide +kernel) [] ⟨0, 6, 7, 13⟩ [] (by rw [ht]; rfl) (fun _ h => absurd h List.not_mem_nil) (by decide) (by decide) (hts _ mL_tryComing_13) hce hcv hcl ?_
    refine lv_astore_n hx hb dL_tryComing_7 rfl hl (by decide) rfl (fun ls hl => ?_)
    refine lv_ldc hx hb hown (hts _ mL_tryComing_c15) dL_tryComing_8 ?_
    exact zw_i hx hb hr hlocks hP1 hS1 dL_tryComing_10
def fL_tryBest (v : zXS) (p1 : Int32) : Option (Int32 × zXS) :=
  match v with
  | (ch, nu, le, ta, lt, (b, pF, pL, st, tm, qt, cm, ds, dr), (bC, pFC, pLC, stC, tmC, qtC, cmC, dsC, drC), ol, pz, dvs, us, (bS, pFS, pLS, stS, tmS, qtS, cmS, dsS, drS), (bT, pFT, pLT, stT, tmT, qtT, cmT, dsT, drT)) => ob11 (fX3_bestGranule b pF pL st tm qt cm ds dr bC pFC pLC stC tmC qtC cmC dsC drC p1) fun k r bC2 pFC2 pLC2 stC2 tmC2 qtC2 cmC2 dsC2 drC2 => if k = 0 then some (r, (ch, nu, le, ta, lt, (b, pF, pL, st, tm, qt, cm, ds, dr), (bC2, pFC2, pLC2, stC2, tmC2, qtC2, cmC2, dsC2, drC2), ol, pz, dvs, us, (bS, pFS, pLS, stS, tmS, qtS, cmS, dsS, drS), (bT, pFT, pLT, stT, tmT, qtT, cmT, dsT, drT))) else if k = 2 then some ((-9999002), (ch, nu, le, ta, lt, (b, pF, pL, st, tm, qt, cm, ds, dr), (bC2, pFC2, pLC2, stC2, tmC2, qtC2, cmC2, dsC2, drC2), ol, pz, dvs, us, (bS, pFS, pLS, stS, tmS, qtS, cmS, dsS, drS), (bT, pFT, pLT, stT, tmT, qtT, cmT, dsT, drT))) else none
theorem hdV_X3_bestGranule : yX3_bestGranule.cls = RX3 ∧ yX3_bestGranule.cls ≠ "java/lang/invoke/MethodHandle" ∧ yX3_bestGranule.cls ≠ "java/lang/invoke/VarHandle" ∧ (parseMethodDescriptor yX3_bestGranule.desc).map (fun d => d.parameters.length) = some 1 := by decide +kernel
theorem mL_tryBest_13 : Cond.classLink RL 13 (zE 2) ∈ wsL_tryBest := by decide +kernel
theorem mL_tryBest_c15 : Cond.constant RL 15 (-9999002) ∈ wsL_tryBest := by decide +kernel
set_option maxRecDepth 100000 in
set_option maxHeartbeats 4000000 in
theorem kL_tryBest (l : Launch) (g : zG) (h0 : Nat) (u : zAd) (v : zXS) (p1 : Int32) (htr : l.stackTraces = false) {r' : Int32} {v' : zXS} (h : fL_tryBest v p1 = some (r', v')) : Mn l g yL_tryBest wsL_tryBest { frames := 8, cells := 1, slots := 6, locals := 148 } [.ref h0, .int p1] (zXW g h0 u v) (zWi g (zXW g h0 u v') r') 1 6 := by
  obtain ⟨ch, nu, le, ta, lt, ⟨b, pF, pL, st, tm, qt, cm, ds, dr⟩, ⟨bC, pFC, pLC, stC, tmC, qtC, cmC, dsC, drC⟩, ol, pz, dvs, us, ⟨bS, pFS, pLS, stS, tmS, qtS, cmS, dsS, drS⟩, ⟨bT, pFT, pLT, stT, tmT, qtT, cmT, dsT, drT⟩⟩ := v
  replace h : ob11 (fX3_bestGranule b pF pL st tm qt cm ds dr bC pFC pLC stC tmC qtC cmC dsC drC p1) (fun k r bC2 pFC2 pLC2 stC2 tmC2 qtC2 cmC2 dsC2 drC2 => if k = 0 then some (r, (ch, nu, le, ta, lt, (b, pF, pL, st, tm, qt, cm, ds, dr), (bC2, pFC2, pLC2, stC2, tmC2, qtC2, cmC2, dsC2, drC2), ol, pz, dvs, us, (bS, pFS, pLS, stS, tmS, qtS, cmS, dsS, drS), (bT, pFT, pLT, stT, tmT, qtT, cmT, dsT, drT))) else if k = 2 then some ((-9999002), (ch, nu, le, ta, lt, (b, pF, pL, st, tm, qt, cm, ds, dr), (bC2, pFC2, pLC2, stC2, tmC2, qtC2, cmC2, dsC2, drC2), ol, pz, dvs, us, (bS, pFS, pLS, stS, tmS, qtS, cmS, dsS, drS), (bT, pFT, pLT, stT, tmT, qtT, cmT, dsT, drT))) else none) = some (r', v') := h
  obtain ⟨k, r, bC2, pFC2, pLC2, stC2, tmC2, qtC2, cmC2, dsC2, drC2, e1, h⟩ := zb11 h
  have hv : v' = (ch, nu, le, ta, lt, (b, pF, pL, st, tm, qt, cm, ds, dr), (bC2, pFC2, pLC2, stC2, tmC2, qtC2, cmC2, dsC2, drC2), ol, pz, dvs, us, (bS, pFS, pLS, stS, tmS, qtS, cmS, dsS, drS), (bT, pFT, pLT, stT, tmT, qtT, cmT, dsT, drT)) ∧ (k = 0 → r = r') ∧ (k = 0 ∨ (k = 2 ∧ (-9999002 : Int32) = r')) := by
    by_cases c0 : k = 0
    · replace h := zt c0 h
      cases h
      exact ⟨rfl, fun _ => rfl, Or.inl c0⟩
    replace h := zf c0 h
    by_cases c1 : k = 2
    · replace h := zt c1 h
      cases h
      exact ⟨rfl, fun q => absurd q c0, Or.inr (⟨c1, rfl⟩)⟩
    replace h := zf c1 h
    exact zn h
  clear h
  obtain ⟨rfl, hv0, hv⟩ := hv
  refine zn_in (cc := cL_tryBest) (maxL := 3) (ret := some .int) (hh := [(0, 5, 6, 13)]) (by decide) rfl (Nat.le_of_ble_eq_true rfl) ?_
  intro p e s m below meth c hx hb hr hml hts hown hlocks hK ht hN A hA hP hD hS hAm ls hl
  replace hl : lv_has ls 3 [(0, .ref h0), (1, .int p1)] := hl
  refine lv_aload_n hx hb dL_tryBest_0 rfl (lv_at hl 0 rfl) ?_
  refine lv_iload_n hx hb dL_tryBest_1 rfl (lv_at hl 1 rfl) ?_
  refine zT_mid (As := [.int p1]) ⟨hx, hb, hml, hown, hts⟩ hr hlocks (kX3_bestGranule l g h0 u.1.1 u.1.2.1 u.1.2.2 (u.2.1 0) (u.2.1 1) (u.2.1 2) (u.2.1 3) (u.2.1 4) (u.2.2.1 0) (u.2.2.1 1) (u.2.2.1 2) (u.2.2.1 3) (u.2.2.1 4) u.2.2.2.1.1 u.2.2.2.1.2 u.2.2.2.2.1.1 u.2.2.2.2.1.2 (u.2.2.2.2.2.1 0) (u.2.2.2.2.2.1 1) (u.2.2.2.2.2.1 2) (u.2.2.2.2.2.1 3) (u.2.2.2.2.2.1 4) (u.2.2.2.2.2.2.1 0) (u.2.2.2.2.2.2.1 1) (u.2.2.2.2.2.2.1 2) (u.2.2.2.2.2.2.1 3) (u.2.2.2.2.2.2.1 4) u.2.2.2.2.2.2.2 ch nu le ta lt b pF pL st tm qt cm ds dr bC pFC pLC stC tmC qtC cmC dsC drC ol pz dvs us bS pFS pLS stS tmS qtS cmS dsS drS bT pFT pLT stT tmT qtT cmT dsT drT p1 htr e1) (cwV 1 hts gL_tryBest_X3_bestGranule rfl rfl rfl hdV_X3_bestGranule ⟨Nat.le_of_ble_eq_true rfl, Nat.le_of_ble_eq_true rfl⟩) hK hP hD hS hA hAm (zXW_fst g h0 u (ch, nu, le, ta, lt, (b, pF, pL, st, tm, qt, cm, ds, dr), (bC, pFC, pLC, stC, tmC, qtC, cmC, dsC, drC), ol, pz, dvs, us, (bS, pFS, pLS, stS, tmS, qtS, cmS, dsS, drS), (bT, pFT, pLT, stT, tmT, qtT, cmT, dsT, drT)) (ch, nu, le, ta, lt, (b, pF, pL, st, tm, qt, cm, ds, dr), (bC2, pFC2, pLC2, stC2, tmC2, qtC2, cmC2, dsC2, drC2), ol, pz, dvs, us, (bS, pFS, pLS, stS, tmS, qtS, cmS, dsS, drS), (bT, pFT, pLT, stT, tmT, qtT, cmT, dsT, drT))) rfl rfl hl.1 rfl ⟨Nat.le_of_ble_eq_true rfl, Nat.le_of_ble_eq_true rfl⟩ dL_tryBest_2 dL_tryBest_5 hv0 (fun hk H1 locs1 q ce hP1 hS1 hce hcv hcl => ?_)
  rcases hv with h1 | ⟨rfl, rfl⟩
  · exact absurd h1 hk
  · refine zL_hit (k := 2) hown hAm (by decide +kernel) [] ⟨0, 5, 6, 13⟩ [] (by rw [ht]; rfl) (fun _ h => absurd h List.not_mem_nil) (by decide) (by decide) (hts _ mL_tryBest_13) hce hcv hcl ?_
    refine lv_astore_n hx hb dL_tryBest_6 rfl hl (by decide) rfl (fun ls hl => ?_)
    refine lv_ldc hx hb hown (hts _ mL_tryBest_c15) dL_tryBest_7 ?_
    exact zw_i hx hb hr hlocks hP1 hS1 dL_tryBest_9
def fL_tryWould (v : zXS) (p1 : Int32) (p2 : Int32) : Option (Int32 × zXS) :=
  match v with
  | (ch, nu, le, ta, lt, (b, pF, pL, st, tm, qt, cm, ds, dr), (bC, pFC, pLC, stC, tmC, qtC, cmC, dsC, drC), ol, pz, dvs, us, (bS, pFS, pLS, stS, tmS, qtS, cmS, dsS, drS), (bT, pFT, pLT, stT, tmT, qtT, cmT, dsT, drT)) => ob11 (fX3_ifWritten b pF pL st tm qt cm ds dr bC pFC pLC stC tmC qtC cmC dsC drC p1 p2) fun k r bC2 pFC2 pLC2 stC2 tmC2 qtC2 cmC2 dsC2 drC2 => if k = 0 then some (r, (ch, nu, le, ta, lt, (b, pF, pL, st, tm, qt, cm, ds, dr), (bC2, pFC2, pLC2, stC2, tmC2, qtC2, cmC2, dsC2, drC2), ol, pz, dvs, us, (bS, pFS, pLS, stS, tmS, qtS, cmS, dsS, drS), (bT, pFT, pLT, stT, tmT, qtT, cmT, dsT, drT))) else if k = 1 then some ((-9999001), (ch, nu, le, ta, lt, (b, pF, pL, st, tm, qt, cm, ds, dr), (bC2, pFC2, pLC2, stC2, tmC2, qtC2, cmC2, dsC2, drC2), ol, pz, dvs, us, (bS, pFS, pLS, stS, tmS, qtS, cmS, dsS, drS), (bT, pFT, pLT, stT, tmT, qtT, cmT, dsT, drT))) else if k = 2 then some ((-9999002), (ch, nu, le, ta, lt, (b, pF, pL, st, tm, qt, cm, ds, dr), (bC2, pFC2, pLC2, stC2, tmC2, qtC2, cmC2, dsC2, drC2), ol, pz, dvs, us, (bS, pFS, pLS, stS, tmS, qtS, cmS, dsS, drS), (bT, pFT, pLT, stT, tmT, qtT, cmT, dsT, drT))) else if k = 3 then some ((-9999003), (ch, nu, le, ta, lt, (b, pF, pL, st, tm, qt, cm, ds, dr), (bC2, pFC2, pLC2, stC2, tmC2, qtC2, cmC2, dsC2, drC2), ol, pz, dvs, us, (bS, pFS, pLS, stS, tmS, qtS, cmS, dsS, drS), (bT, pFT, pLT, stT, tmT, qtT, cmT, dsT, drT))) else none
theorem hdV_X3_ifWritten : yX3_ifWritten.cls = RX3 ∧ yX3_ifWritten.cls ≠ "java/lang/invoke/MethodHandle" ∧ yX3_ifWritten.cls ≠ "java/lang/invoke/VarHandle" ∧ (parseMethodDescriptor yX3_ifWritten.desc).map (fun d => d.parameters.length) = some 2 := by decide +kernel
theorem mL_tryWould_38 : Cond.classLink RL 38 (zE 1) ∈ wsL_tryWould := by decide +kernel
theorem mL_tryWould_c40 : Cond.constant RL 40 (-9999001) ∈ wsL_tryWould := by decide +kernel
theorem mL_tryWould_13 : Cond.classLink RL 13 (zE 2) ∈ wsL_tryWould := by decide +kernel
theorem mL_tryWould_c15 : Cond.constant RL 15 (-9999002) ∈ wsL_tryWould := by decide +kernel
theorem mL_tryWould_24 : Cond.classLink RL 24 (zE 3) ∈ wsL_tryWould := by decide +kernel
theorem mL_tryWould_c26 : Cond.constant RL 26 (-9999003) ∈ wsL_tryWould := by decide +kernel
set_option maxRecDepth 100000 in
set_option maxHeartbeats 4000000 in
theorem kL_tryWould (l : Launch) (g : zG) (h0 : Nat) (u : zAd) (v : zXS) (p1 : Int32) (p2 : Int32) (htr : l.stackTraces = false) {r' : Int32} {v' : zXS} (h : fL_tryWould v p1 p2 = some (r', v')) : Mn l g yL_tryWould wsL_tryWould { frames := 9, cells := 2, slots := 12, locals := 145 } [.ref h0, .int p1, .int p2] (zXW g h0 u v) (zWi g (zXW g h0 u v') r') 2 12 := by
  obtain ⟨ch, nu, le, ta, lt, ⟨b, pF, pL, st, tm, qt, cm, ds, dr⟩, ⟨bC, pFC, pLC, stC, tmC, qtC, cmC, dsC, drC⟩, ol, pz, dvs, us, ⟨bS, pFS, pLS, stS, tmS, qtS, cmS, dsS, drS⟩, ⟨bT, pFT, pLT, stT, tmT, qtT, cmT, dsT, drT⟩⟩ := v
  replace h : ob11 (fX3_ifWritten b pF pL st tm qt cm ds dr bC pFC pLC stC tmC qtC cmC dsC drC p1 p2) (fun k r bC2 pFC2 pLC2 stC2 tmC2 qtC2 cmC2 dsC2 drC2 => if k = 0 then some (r, (ch, nu, le, ta, lt, (b, pF, pL, st, tm, qt, cm, ds, dr), (bC2, pFC2, pLC2, stC2, tmC2, qtC2, cmC2, dsC2, drC2), ol, pz, dvs, us, (bS, pFS, pLS, stS, tmS, qtS, cmS, dsS, drS), (bT, pFT, pLT, stT, tmT, qtT, cmT, dsT, drT))) else if k = 1 then some ((-9999001), (ch, nu, le, ta, lt, (b, pF, pL, st, tm, qt, cm, ds, dr), (bC2, pFC2, pLC2, stC2, tmC2, qtC2, cmC2, dsC2, drC2), ol, pz, dvs, us, (bS, pFS, pLS, stS, tmS, qtS, cmS, dsS, drS), (bT, pFT, pLT, stT, tmT, qtT, cmT, dsT, drT))) else if k = 2 then some ((-9999002), (ch, nu, le, ta, lt, (b, pF, pL, st, tm, qt, cm, ds, dr), (bC2, pFC2, pLC2, stC2, tmC2, qtC2, cmC2, dsC2, drC2), ol, pz, dvs, us, (bS, pFS, pLS, stS, tmS, qtS, cmS, dsS, drS), (bT, pFT, pLT, stT, tmT, qtT, cmT, dsT, drT))) else if k = 3 then some ((-9999003), (ch, nu, le, ta, lt, (b, pF, pL, st, tm, qt, cm, ds, dr), (bC2, pFC2, pLC2, stC2, tmC2, qtC2, cmC2, dsC2, drC2), ol, pz, dvs, us, (bS, pFS, pLS, stS, tmS, qtS, cmS, dsS, drS), (bT, pFT, pLT, stT, tmT, qtT, cmT, dsT, drT))) else none) = some (r', v') := h
  obtain ⟨k, r, bC2, pFC2, pLC2, stC2, tmC2, qtC2, cmC2, dsC2, drC2, e1, h⟩ := zb11 h
  have hv : v' = (ch, nu, le, ta, lt, (b, pF, pL, st, tm, qt, cm, ds, dr), (bC2, pFC2, pLC2, stC2, tmC2, qtC2, cmC2, dsC2, drC2), ol, pz, dvs, us, (bS, pFS, pLS, stS, tmS, qtS, cmS, dsS, drS), (bT, pFT, pLT, stT, tmT, qtT, cmT, dsT, drT)) ∧ (k = 0 → r = r') ∧ (k = 0 ∨ (k = 1 ∧ (-9999001 : Int32) = r') ∨ (k = 2 ∧ (-9999002 : Int32) = r') ∨ (k = 3 ∧ (-9999003 : Int32) = r')) := by
    by_cases c0 : k = 0
    · replace h := zt c0 h
      cases h
      exact ⟨rfl, fun _ => rfl, Or.inl c0⟩
    replace h := zf c0 h
    by_cases c1 : k = 1
    · replace h := zt c1 h
      cases h
      exact ⟨rfl, fun q => absurd q c0, Or.inr (Or.inl ⟨c1, rfl⟩)⟩
    replace h := zf c1 h
    by_cases c2 : k = 2
    · replace h := zt c2 h
      cases h
      exact ⟨rfl, fun q => absurd q c0, Or.inr (Or.inr (Or.inl ⟨c2, rfl⟩))⟩
    replace h := zf c2 h
    by_cases c3 : k = 3
    · replace h := zt c3 h
      cases h
      exact ⟨rfl, fun q => absurd q c0, Or.inr (Or.inr (Or.inr (⟨c3, rfl⟩)))⟩
    replace h := zf c3 h
    exact zn h
  clear h
  obtain ⟨rfl, hv0, hv⟩ := hv
  refine zn_in (cc := cL_tryWould) (maxL := 4) (ret := some .int) (hh := [(0, 6, 7, 38), (0, 6, 11, 13), (0, 6, 15, 24)]) (by decide) rfl (Nat.le_of_ble_eq_true rfl) ?_
  intro p e s m below meth c hx hb hr hml hts hown hlocks hK ht hN A hA hP hD hS hAm ls hl
  replace hl : lv_has ls 4 [(0, .ref h0), (1, .int p1), (2, .int p2)] := hl
  refine lv_aload_n hx hb dL_tryWould_0 rfl (lv_at hl 0 rfl) ?_
  refine lv_iload_n hx hb dL_tryWould_1 rfl (lv_at hl 1 rfl) ?_
  refine lv_iload_n hx hb dL_tryWould_2 rfl (lv_at hl 2 rfl) ?_
  refine zT_mid (As := [.int p1, .int p2]) ⟨hx, hb, hml, hown, hts⟩ hr hlocks (kX3_ifWritten l g h0 u.1.1 u.1.2.1 u.1.2.2 (u.2.1 0) (u.2.1 1) (u.2.1 2) (u.2.1 3) (u.2.1 4) (u.2.2.1 0) (u.2.2.1 1) (u.2.2.1 2) (u.2.2.1 3) (u.2.2.1 4) u.2.2.2.1.1 u.2.2.2.1.2 u.2.2.2.2.1.1 u.2.2.2.2.1.2 (u.2.2.2.2.2.1 0) (u.2.2.2.2.2.1 1) (u.2.2.2.2.2.1 2) (u.2.2.2.2.2.1 3) (u.2.2.2.2.2.1 4) (u.2.2.2.2.2.2.1 0) (u.2.2.2.2.2.2.1 1) (u.2.2.2.2.2.2.1 2) (u.2.2.2.2.2.2.1 3) (u.2.2.2.2.2.2.1 4) u.2.2.2.2.2.2.2 ch nu le ta lt b pF pL st tm qt cm ds dr bC pFC pLC stC tmC qtC cmC dsC drC ol pz dvs us bS pFS pLS stS tmS qtS cmS dsS drS bT pFT pLT stT tmT qtT cmT dsT drT p1 p2 htr e1) (cwV 2 hts gL_tryWould_X3_ifWritten rfl rfl rfl hdV_X3_ifWritten ⟨Nat.le_of_ble_eq_true rfl, Nat.le_of_ble_eq_true rfl⟩) hK hP hD hS hA hAm (zXW_fst g h0 u (ch, nu, le, ta, lt, (b, pF, pL, st, tm, qt, cm, ds, dr), (bC, pFC, pLC, stC, tmC, qtC, cmC, dsC, drC), ol, pz, dvs, us, (bS, pFS, pLS, stS, tmS, qtS, cmS, dsS, drS), (bT, pFT, pLT, stT, tmT, qtT, cmT, dsT, drT)) (ch, nu, le, ta, lt, (b, pF, pL, st, tm, qt, cm, ds, dr), (bC2, pFC2, pLC2, stC2, tmC2, qtC2, cmC2, dsC2, drC2), ol, pz, dvs, us, (bS, pFS, pLS, stS, tmS, qtS, cmS, dsS, drS), (bT, pFT, pLT, stT, tmT, qtT, cmT, dsT, drT))) rfl rfl hl.1 rfl ⟨Nat.le_of_ble_eq_true rfl, Nat.le_of_ble_eq_true rfl⟩ dL_tryWould_3 dL_tryWould_6 hv0 (fun hk H1 locs1 q ce hP1 hS1 hce hcv hcl => ?_)
  rcases hv with h1 | ⟨rfl, rfl⟩ | ⟨rfl, rfl⟩ | ⟨rfl, rfl⟩
  · exact absurd h1 hk
  · refine zL_hit (k := 1) hown hAm (by decide +kernel) [] ⟨0, 6, 7, 38⟩ [⟨0, 6, 11, 13⟩, ⟨0, 6, 15, 24⟩] (by rw [ht]; rfl) (fun _ h => absurd h List.not_mem_nil) (by decide) (by decide) (hts _ mL_tryWould_38) hce hcv hcl ?_
    refine lv_astore_n hx hb dL_tryWould_7 rfl hl (by decide) rfl (fun ls hl => ?_)
    refine lv_ldc hx hb hown (hts _ mL_tryWould_c40) dL_tryWould_8 ?_
    exact zw_i hx hb hr hlocks hP1 hS1 dL_tryWould_10
  · refine zL_hit (k := 2) hown hAm (by decide +kernel) [⟨0, 6, 7, 38⟩] ⟨0, 6, 11, 13⟩ [⟨0, 6, 15, 24⟩] (by rw [ht]; rfl) (fun z hz => by obtain rfl := List.mem_singleton.mp hz; exact Or.inr ⟨by decide, _, hts _ mL_tryWould_38, hN.1⟩) (by decide) (by decide) (hts _ mL_tryWould_13) hce hcv hcl ?_
    refine lv_astore_n hx hb dL_tryWould_11 rfl hl (by decide) rfl (fun ls hl => ?_)
    refine lv_ldc hx hb hown (hts _ mL_tryWould_c15) dL_tryWould_12 ?_
    exact zw_i hx hb hr hlocks hP1 hS1 dL_tryWould_14
  · refine zL_hit (k := 3) hown hAm (by decide +kernel) [⟨0, 6, 7, 38⟩, ⟨0, 6, 11, 13⟩] ⟨0, 6, 15, 24⟩ [] (by rw [ht]; rfl) (fun z hz => by rcases List.mem_cons.mp hz with rfl | hz; exact Or.inr ⟨by decide, _, hts _ mL_tryWould_38, hN.2.1⟩; obtain rfl := List.mem_singleton.mp hz; exact Or.inr ⟨by decide, _, hts _ mL_tryWould_13, hN.2.2⟩) (by decide) (by decide) (hts _ mL_tryWould_24) hce hcv hcl ?_
    refine lv_astore_n hx hb dL_tryWould_15 rfl hl (by decide) rfl (fun ls hl => ?_)
    refine lv_ldc hx hb hown (hts _ mL_tryWould_c26) dL_tryWould_16 ?_
    exact zw_i hx hb hr hlocks hP1 hS1 dL_tryWould_18
def fL_tryKeep (v : zXS) (p1 : Int32) : Option (Int32 × zXS) :=
  match v with
  | (ch, nu, le, ta, lt, (b, pF, pL, st, tm, qt, cm, ds, dr), (bC, pFC, pLC, stC, tmC, qtC, cmC, dsC, drC), ol, pz, dvs, us, (bS, pFS, pLS, stS, tmS, qtS, cmS, dsS, drS), (bT, pFT, pLT, stT, tmT, qtT, cmT, dsT, drT)) => ob21 (fX3_save b pF pL st tm qt cm ds dr us bS pFS pLS stS tmS qtS cmS dsS drS bT pFT pLT stT tmT qtT cmT dsT drT p1) fun k r us2 bS2 pFS2 pLS2 stS2 tmS2 qtS2 cmS2 dsS2 drS2 bT2 pFT2 pLT2 stT2 tmT2 qtT2 cmT2 dsT2 drT2 => if k = 0 then some (r, (ch, nu, le, ta, lt, (b, pF, pL, st, tm, qt, cm, ds, dr), (bC, pFC, pLC, stC, tmC, qtC, cmC, dsC, drC), ol, pz, dvs, us2, (bS2, pFS2, pLS2, stS2, tmS2, qtS2, cmS2, dsS2, drS2), (bT2, pFT2, pLT2, stT2, tmT2, qtT2, cmT2, dsT2, drT2))) else if k = 1 then some ((-9999001), (ch, nu, le, ta, lt, (b, pF, pL, st, tm, qt, cm, ds, dr), (bC, pFC, pLC, stC, tmC, qtC, cmC, dsC, drC), ol, pz, dvs, us2, (bS2, pFS2, pLS2, stS2, tmS2, qtS2, cmS2, dsS2, drS2), (bT2, pFT2, pLT2, stT2, tmT2, qtT2, cmT2, dsT2, drT2))) else none
theorem hdV_X3_save : yX3_save.cls = RX3 ∧ yX3_save.cls ≠ "java/lang/invoke/MethodHandle" ∧ yX3_save.cls ≠ "java/lang/invoke/VarHandle" ∧ (parseMethodDescriptor yX3_save.desc).map (fun d => d.parameters.length) = some 1 := by decide +kernel
theorem mL_tryKeep_38 : Cond.classLink RL 38 (zE 1) ∈ wsL_tryKeep := by decide +kernel
theorem mL_tryKeep_c40 : Cond.constant RL 40 (-9999001) ∈ wsL_tryKeep := by decide +kernel
set_option maxRecDepth 100000 in
set_option maxHeartbeats 4000000 in
theorem kL_tryKeep (l : Launch) (g : zG) (h0 : Nat) (u : zAd) (v : zXS) (p1 : Int32) (htr : l.stackTraces = false) {r' : Int32} {v' : zXS} (h : fL_tryKeep v p1 = some (r', v')) : Mn l g yL_tryKeep wsL_tryKeep { frames := 8, cells := 1, slots := 6, locals := 123 } [.ref h0, .int p1] (zXW g h0 u v) (zWi g (zXW g h0 u v') r') 1 6 := by
  obtain ⟨ch, nu, le, ta, lt, ⟨b, pF, pL, st, tm, qt, cm, ds, dr⟩, ⟨bC, pFC, pLC, stC, tmC, qtC, cmC, dsC, drC⟩, ol, pz, dvs, us, ⟨bS, pFS, pLS, stS, tmS, qtS, cmS, dsS, drS⟩, ⟨bT, pFT, pLT, stT, tmT, qtT, cmT, dsT, drT⟩⟩ := v
  replace h : ob21 (fX3_save b pF pL st tm qt cm ds dr us bS pFS pLS stS tmS qtS cmS dsS drS bT pFT pLT stT tmT qtT cmT dsT drT p1) (fun k r us2 bS2 pFS2 pLS2 stS2 tmS2 qtS2 cmS2 dsS2 drS2 bT2 pFT2 pLT2 stT2 tmT2 qtT2 cmT2 dsT2 drT2 => if k = 0 then some (r, (ch, nu, le, ta, lt, (b, pF, pL, st, tm, qt, cm, ds, dr), (bC, pFC, pLC, stC, tmC, qtC, cmC, dsC, drC), ol, pz, dvs, us2, (bS2, pFS2, pLS2, stS2, tmS2, qtS2, cmS2, dsS2, drS2), (bT2, pFT2, pLT2, stT2, tmT2, qtT2, cmT2, dsT2, drT2))) else if k = 1 then some ((-9999001), (ch, nu, le, ta, lt, (b, pF, pL, st, tm, qt, cm, ds, dr), (bC, pFC, pLC, stC, tmC, qtC, cmC, dsC, drC), ol, pz, dvs, us2, (bS2, pFS2, pLS2, stS2, tmS2, qtS2, cmS2, dsS2, drS2), (bT2, pFT2, pLT2, stT2, tmT2, qtT2, cmT2, dsT2, drT2))) else none) = some (r', v') := h
  obtain ⟨k, r, us2, bS2, pFS2, pLS2, stS2, tmS2, qtS2, cmS2, dsS2, drS2, bT2, pFT2, pLT2, stT2, tmT2, qtT2, cmT2, dsT2, drT2, e1, h⟩ := zb21 h
  have hv : v' = (ch, nu, le, ta, lt, (b, pF, pL, st, tm, qt, cm, ds, dr), (bC, pFC, pLC, stC, tmC, qtC, cmC, dsC, drC), ol, pz, dvs, us2, (bS2, pFS2, pLS2, stS2, tmS2, qtS2, cmS2, dsS2, drS2), (bT2, pFT2, pLT2, stT2, tmT2, qtT2, cmT2, dsT2, drT2)) ∧ (k = 0 → r = r') ∧ (k = 0 ∨ (k = 1 ∧ (-9999001 : Int32) = r')) := by
    by_cases c0 : k = 0
    · replace h := zt c0 h
      cases h
      exact ⟨rfl, fun _ => rfl, Or.inl c0⟩
    replace h := zf c0 h
    by_cases c1 : k = 1
    · replace h := zt c1 h
      cases h
      exact ⟨rfl, fun q => absurd q c0, Or.inr (⟨c1, rfl⟩)⟩
    replace h := zf c1 h
    exact zn h
  clear h
  obtain ⟨rfl, hv0, hv⟩ := hv
  refine zn_in (cc := cL_tryKeep) (maxL := 3) (ret := some .int) (hh := [(0, 5, 6, 38)]) (by decide) rfl (Nat.le_of_ble_eq_true rfl) ?_
  intro p e s m below meth c hx hb hr hml hts hown hlocks hK ht hN A hA hP hD hS hAm ls hl
  replace hl : lv_has ls 3 [(0, .ref h0), (1, .int p1)] := hl
  refine lv_aload_n hx hb dL_tryKeep_0 rfl (lv_at hl 0 rfl) ?_
  refine lv_iload_n hx hb dL_tryKeep_1 rfl (lv_at hl 1 rfl) ?_
  refine zT_mid (As := [.int p1]) ⟨hx, hb, hml, hown, hts⟩ hr hlocks (kX3_save l g h0 u.1.1 u.1.2.1 u.1.2.2 (u.2.1 0) (u.2.1 1) (u.2.1 2) (u.2.1 3) (u.2.1 4) (u.2.2.1 0) (u.2.2.1 1) (u.2.2.1 2) (u.2.2.1 3) (u.2.2.1 4) u.2.2.2.1.1 u.2.2.2.1.2 u.2.2.2.2.1.1 u.2.2.2.2.1.2 (u.2.2.2.2.2.1 0) (u.2.2.2.2.2.1 1) (u.2.2.2.2.2.1 2) (u.2.2.2.2.2.1 3) (u.2.2.2.2.2.1 4) (u.2.2.2.2.2.2.1 0) (u.2.2.2.2.2.2.1 1) (u.2.2.2.2.2.2.1 2) (u.2.2.2.2.2.2.1 3) (u.2.2.2.2.2.2.1 4) u.2.2.2.2.2.2.2 ch nu le ta lt b pF pL st tm qt cm ds dr bC pFC pLC stC tmC qtC cmC dsC drC ol pz dvs us bS pFS pLS stS tmS qtS cmS dsS drS bT pFT pLT stT tmT qtT cmT dsT drT p1 htr e1) (cwV 1 hts gL_tryKeep_X3_save rfl rfl rfl hdV_X3_save ⟨Nat.le_of_ble_eq_true rfl, Nat.le_of_ble_eq_true rfl⟩) hK hP hD hS hA hAm (zXW_fst g h0 u (ch, nu, le, ta, lt, (b, pF, pL, st, tm, qt, cm, ds, dr), (bC, pFC, pLC, stC, tmC, qtC, cmC, dsC, drC), ol, pz, dvs, us, (bS, pFS, pLS, stS, tmS, qtS, cmS, dsS, drS), (bT, pFT, pLT, stT, tmT, qtT, cmT, dsT, drT)) (ch, nu, le, ta, lt, (b, pF, pL, st, tm, qt, cm, ds, dr), (bC, pFC, pLC, stC, tmC, qtC, cmC, dsC, drC), ol, pz, dvs, us2, (bS2, pFS2, pLS2, stS2, tmS2, qtS2, cmS2, dsS2, drS2), (bT2, pFT2, pLT2, stT2, tmT2, qtT2, cmT2, dsT2, drT2))) rfl rfl hl.1 rfl ⟨Nat.le_of_ble_eq_true rfl, Nat.le_of_ble_eq_true rfl⟩ dL_tryKeep_2 dL_tryKeep_5 hv0 (fun hk H1 locs1 q ce hP1 hS1 hce hcv hcl => ?_)
  rcases hv with h1 | ⟨rfl, rfl⟩
  · exact absurd h1 hk
  · refine zL_hit (k := 1) hown hAm (by decide +kernel) [] ⟨0, 5, 6, 38⟩ [] (by rw [ht]; rfl) (fun _ h => absurd h List.not_mem_nil) (by decide) (by decide) (hts _ mL_tryKeep_38) hce hcv hcl ?_
    refine lv_astore_n hx hb dL_tryKeep_6 rfl hl (by decide) rfl (fun ls hl => ?_)
    refine lv_ldc hx hb hown (hts _ mL_tryKeep_c40) dL_tryKeep_7 ?_
    exact zw_i hx hb hr hlocks hP1 hS1 dL_tryKeep_9
def fL_tryBack (v : zXS) (p1 : Int32) : Option (Int32 × zXS) :=
  match v with
  | (ch, nu, le, ta, lt, (b, pF, pL, st, tm, qt, cm, ds, dr), (bC, pFC, pLC, stC, tmC, qtC, cmC, dsC, drC), ol, pz, dvs, us, (bS, pFS, pLS, stS, tmS, qtS, cmS, dsS, drS), (bT, pFT, pLT, stT, tmT, qtT, cmT, dsT, drT)) => ob12 (fX3_restore b pF pL st tm qt cm ds dr pz us bS pFS pLS stS tmS qtS cmS dsS drS bT pFT pLT stT tmT qtT cmT dsT drT p1) fun k r b2 pF2 pL2 st2 tm2 qt2 cm2 ds2 dr2 pz2 => if k = 0 then some (r, (ch, nu, le, ta, lt, (b2, pF2, pL2, st2, tm2, qt2, cm2, ds2, dr2), (bC, pFC, pLC, stC, tmC, qtC, cmC, dsC, drC), ol, pz2, dvs, us, (bS, pFS, pLS, stS, tmS, qtS, cmS, dsS, drS), (bT, pFT, pLT, stT, tmT, qtT, cmT, dsT, drT))) else if k = 1 then some ((-9999001), (ch, nu, le, ta, lt, (b2, pF2, pL2, st2, tm2, qt2, cm2, ds2, dr2), (bC, pFC, pLC, stC, tmC, qtC, cmC, dsC, drC), ol, pz2, dvs, us, (bS, pFS, pLS, stS, tmS, qtS, cmS, dsS, drS), (bT, pFT, pLT, stT, tmT, qtT, cmT, dsT, drT))) else if k = 3 then some ((-9999003), (ch, nu, le, ta, lt, (b2, pF2, pL2, st2, tm2, qt2, cm2, ds2, dr2), (bC, pFC, pLC, stC, tmC, qtC, cmC, dsC, drC), ol, pz2, dvs, us, (bS, pFS, pLS, stS, tmS, qtS, cmS, dsS, drS), (bT, pFT, pLT, stT, tmT, qtT, cmT, dsT, drT))) else none
theorem hdV_X3_restore : yX3_restore.cls = RX3 ∧ yX3_restore.cls ≠ "java/lang/invoke/MethodHandle" ∧ yX3_restore.cls ≠ "java/lang/invoke/VarHandle" ∧ (parseMethodDescriptor yX3_restore.desc).map (fun d => d.parameters.length) = some 1 := by decide +kernel
theorem mL_tryBack_38 : Cond.classLink RL 38 (zE 1) ∈ wsL_tryBack := by decide +kernel
theorem mL_tryBack_c40 : Cond.constant RL 40 (-9999001) ∈ wsL_tryBack := by decide +kernel
theorem mL_tryBack_24 : Cond.classLink RL 24 (zE 3) ∈ wsL_tryBack := by decide +kernel
theorem mL_tryBack_c26 : Cond.constant RL 26 (-9999003) ∈ wsL_tryBack := by decide +kernel
set_option maxRecDepth 100000 in
set_option maxHeartbeats 4000000 in
theorem kL_tryBack (l : Launch) (g : zG) (h0 : Nat) (u : zAd) (v : zXS) (p1 : Int32) (htr : l.stackTraces = false) {r' : Int32} {v' : zXS} (h : fL_tryBack v p1 = some (r', v')) : Mn l g yL_tryBack wsL_tryBack { frames := 8, cells := 2, slots := 12, locals := 123 } [.ref h0, .int p1] (zXW g h0 u v) (zWi g (zXW g h0 u v') r') 2 12 := by
  obtain ⟨ch, nu, le, ta, lt, ⟨b, pF, pL, st, tm, qt, cm, ds, dr⟩, ⟨bC, pFC, pLC, stC, tmC, qtC, cmC, dsC, drC⟩, ol, pz, dvs, us, ⟨bS, pFS, pLS, stS, tmS, qtS, cmS, dsS, drS⟩, ⟨bT, pFT, pLT, stT, tmT, qtT, cmT, dsT, drT⟩⟩ := v
  replace h : ob12 (fX3_restore b pF pL st tm qt cm ds dr pz us bS pFS pLS stS tmS qtS cmS dsS drS bT pFT pLT stT tmT qtT cmT dsT drT p1) (fun k r b2 pF2 pL2 st2 tm2 qt2 cm2 ds2 dr2 pz2 => if k = 0 then some (r, (ch, nu, le, ta, lt, (b2, pF2, pL2, st2, tm2, qt2, cm2, ds2, dr2), (bC, pFC, pLC, stC, tmC, qtC, cmC, dsC, drC), ol, pz2, dvs, us, (bS, pFS, pLS, stS, tmS, qtS, cmS, dsS, drS), (bT, pFT, pLT, stT, tmT, qtT, cmT, dsT, drT))) else if k = 1 then some ((-9999001), (ch, nu, le, ta, lt, (b2, pF2, pL2, st2, tm2, qt2, cm2, ds2, dr2), (bC, pFC, pLC, stC, tmC, qtC, cmC, dsC, drC), ol, pz2, dvs, us, (bS, pFS, pLS, stS, tmS, qtS, cmS, dsS, drS), (bT, pFT, pLT, stT, tmT, qtT, cmT, dsT, drT))) else if k = 3 then some ((-9999003), (ch, nu, le, ta, lt, (b2, pF2, pL2, st2, tm2, qt2, cm2, ds2, dr2), (bC, pFC, pLC, stC, tmC, qtC, cmC, dsC, drC), ol, pz2, dvs, us, (bS, pFS, pLS, stS, tmS, qtS, cmS, dsS, drS), (bT, pFT, pLT, stT, tmT, qtT, cmT, dsT, drT))) else none) = some (r', v') := h
  obtain ⟨k, r, b2, pF2, pL2, st2, tm2, qt2, cm2, ds2, dr2, pz2, e1, h⟩ := zb12 h
  have hv : v' = (ch, nu, le, ta, lt, (b2, pF2, pL2, st2, tm2, qt2, cm2, ds2, dr2), (bC, pFC, pLC, stC, tmC, qtC, cmC, dsC, drC), ol, pz2, dvs, us, (bS, pFS, pLS, stS, tmS, qtS, cmS, dsS, drS), (bT, pFT, pLT, stT, tmT, qtT, cmT, dsT, drT)) ∧ (k = 0 → r = r') ∧ (k = 0 ∨ (k = 1 ∧ (-9999001 : Int32) = r') ∨ (k = 3 ∧ (-9999003 : Int32) = r')) := by
    by_cases c0 : k = 0
    · replace h := zt c0 h
      cases h
      exact ⟨rfl, fun _ => rfl, Or.inl c0⟩
    replace h := zf c0 h
    by_cases c1 : k = 1
    · replace h := zt c1 h
      cases h
      exact ⟨rfl, fun q => absurd q c0, Or.inr (Or.inl ⟨c1, rfl⟩)⟩
    replace h := zf c1 h
    by_cases c2 : k = 3
    · replace h := zt c2 h
      cases h
      exact ⟨rfl, fun q => absurd q c0, Or.inr (Or.inr (⟨c2, rfl⟩))⟩
    replace h := zf c2 h
    exact zn h
  clear h
  obtain ⟨rfl, hv0, hv⟩ := hv
  refine zn_in (cc := cL_tryBack) (maxL := 3) (ret := some .int) (hh := [(0, 5, 6, 38), (0, 5, 10, 24)]) (by decide) rfl (Nat.le_of_ble_eq_true rfl) ?_
  intro p e s m below meth c hx hb hr hml hts hown hlocks hK ht hN A hA hP hD hS hAm ls hl
  replace hl : lv_has ls 3 [(0, .ref h0), (1, .int p1)] := hl
  refine lv_aload_n hx hb dL_tryBack_0 rfl (lv_at hl 0 rfl) ?_
  refine lv_iload_n hx hb dL_tryBack_1 rfl (lv_at hl 1 rfl) ?_
  refine zT_mid (As := [.int p1]) ⟨hx, hb, hml, hown, hts⟩ hr hlocks (kX3_restore l g h0 u.1.1 u.1.2.1 u.1.2.2 (u.2.1 0) (u.2.1 1) (u.2.1 2) (u.2.1 3) (u.2.1 4) (u.2.2.1 0) (u.2.2.1 1) (u.2.2.1 2) (u.2.2.1 3) (u.2.2.1 4) u.2.2.2.1.1 u.2.2.2.1.2 u.2.2.2.2.1.1 u.2.2.2.2.1.2 (u.2.2.2.2.2.1 0) (u.2.2.2.2.2.1 1) (u.2.2.2.2.2.1 2) (u.2.2.2.2.2.1 3) (u.2.2.2.2.2.1 4) (u.2.2.2.2.2.2.1 0) (u.2.2.2.2.2.2.1 1) (u.2.2.2.2.2.2.1 2) (u.2.2.2.2.2.2.1 3) (u.2.2.2.2.2.2.1 4) u.2.2.2.2.2.2.2 ch nu le ta lt b pF pL st tm qt cm ds dr bC pFC pLC stC tmC qtC cmC dsC drC ol pz dvs us bS pFS pLS stS tmS qtS cmS dsS drS bT pFT pLT stT tmT qtT cmT dsT drT p1 htr e1) (cwV 1 hts gL_tryBack_X3_restore rfl rfl rfl hdV_X3_restore ⟨Nat.le_of_ble_eq_true rfl, Nat.le_of_ble_eq_true rfl⟩) hK hP hD hS hA hAm (zXW_fst g h0 u (ch, nu, le, ta, lt, (b, pF, pL, st, tm, qt, cm, ds, dr), (bC, pFC, pLC, stC, tmC, qtC, cmC, dsC, drC), ol, pz, dvs, us, (bS, pFS, pLS, stS, tmS, qtS, cmS, dsS, drS), (bT, pFT, pLT, stT, tmT, qtT, cmT, dsT, drT)) (ch, nu, le, ta, lt, (b2, pF2, pL2, st2, tm2, qt2, cm2, ds2, dr2), (bC, pFC, pLC, stC, tmC, qtC, cmC, dsC, drC), ol, pz2, dvs, us, (bS, pFS, pLS, stS, tmS, qtS, cmS, dsS, drS), (bT, pFT, pLT, stT, tmT, qtT, cmT, dsT, drT))) rfl rfl hl.1 rfl ⟨Nat.le_of_ble_eq_true rfl, Nat.le_of_ble_eq_true rfl⟩ dL_tryBack_2 dL_tryBack_5 hv0 (fun hk H1 locs1 q ce hP1 hS1 hce hcv hcl => ?_)
  rcases hv with h1 | ⟨rfl, rfl⟩ | ⟨rfl, rfl⟩
  · exact absurd h1 hk
  · refine zL_hit (k := 1) hown hAm (by decide +kernel) [] ⟨0, 5, 6, 38⟩ [⟨0, 5, 10, 24⟩] (by rw [ht]; rfl) (fun _ h => absurd h List.not_mem_nil) (by decide) (by decide) (hts _ mL_tryBack_38) hce hcv hcl ?_
    refine lv_astore_n hx hb dL_tryBack_6 rfl hl (by decide) rfl (fun ls hl => ?_)
    refine lv_ldc hx hb hown (hts _ mL_tryBack_c40) dL_tryBack_7 ?_
    exact zw_i hx hb hr hlocks hP1 hS1 dL_tryBack_9
  · refine zL_hit (k := 3) hown hAm (by decide +kernel) [⟨0, 5, 6, 38⟩] ⟨0, 5, 10, 24⟩ [] (by rw [ht]; rfl) (fun z hz => by obtain rfl := List.mem_singleton.mp hz; exact Or.inr ⟨by decide, _, hts _ mL_tryBack_38, hN.2.1⟩) (by decide) (by decide) (hts _ mL_tryBack_24) hce hcv hcl ?_
    refine lv_astore_n hx hb dL_tryBack_10 rfl hl (by decide) rfl (fun ls hl => ?_)
    refine lv_ldc hx hb hown (hts _ mL_tryBack_c26) dL_tryBack_11 ?_
    exact zw_i hx hb hr hlocks hP1 hS1 dL_tryBack_13
