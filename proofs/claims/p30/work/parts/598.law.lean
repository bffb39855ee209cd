/-! the law's body, walked -/
theorem hdS_L_act : yL_act.cls ≠ "java/lang/invoke/MethodHandle" ∧ yL_act.cls ≠ "java/lang/invoke/VarHandle" ∧ (parseMethodDescriptor yL_act.desc).map (fun d => d.parameters.length) = some 2 := by decide +kernel
theorem hdS_L_alike : yL_alike.cls ≠ "java/lang/invoke/MethodHandle" ∧ yL_alike.cls ≠ "java/lang/invoke/VarHandle" ∧ (parseMethodDescriptor yL_alike.desc).map (fun d => d.parameters.length) = some 3 := by decide +kernel
theorem hdS_L_cell : yL_cell.cls ≠ "java/lang/invoke/MethodHandle" ∧ yL_cell.cls ≠ "java/lang/invoke/VarHandle" ∧ (parseMethodDescriptor yL_cell.desc).map (fun d => d.parameters.length) = some 2 := by decide +kernel
theorem hdS_L_holds : yL_holds.cls ≠ "java/lang/invoke/MethodHandle" ∧ yL_holds.cls ≠ "java/lang/invoke/VarHandle" ∧ (parseMethodDescriptor yL_holds.desc).map (fun d => d.parameters.length) = some 2 := by decide +kernel
theorem hdS_L_refuses : yL_refuses.cls ≠ "java/lang/invoke/MethodHandle" ∧ yL_refuses.cls ≠ "java/lang/invoke/VarHandle" ∧ (parseMethodDescriptor yL_refuses.desc).map (fun d => d.parameters.length) = some 2 := by decide +kernel
theorem hdS_L_thrown : yL_thrown.cls ≠ "java/lang/invoke/MethodHandle" ∧ yL_thrown.cls ≠ "java/lang/invoke/VarHandle" ∧ (parseMethodDescriptor yL_thrown.desc).map (fun d => d.parameters.length) = some 1 := by decide +kernel
theorem mL_law_192 : Cond.constant RL 192 (100000) ∈ wsL_law := by decide +kernel
set_option maxRecDepth 100000 in
set_option maxHeartbeats 8000000 in
theorem kL_law {p : Program} {l : Launch} {e : Env} {s : State} {m : MethodId} {below : List Frame} {meth : Method} {c : Code} {g : zG} {b L : Nat} {xs : Nat → Int32} {h0 hq : Nat} {u uq : zAd} {A : Nat → Prop} {Q : State → Prop} (hx : p.tables.exec = Jvm.exec) (hb : c.code = cL_law) (hml : c.maxLocals = 16) (hown : s.vm.findClass RL = some m.cls) (hts : ∀ w ∈ wsL_law, w.before #[.ref b] s = true) (hK : zK g s) (hN : zNc s) (hA : ∀ q, s.heap.size ≤ q → A q) (hAm : zAm A s s.heap) (hX : va_X b L xs s s.heap) (hbl : b < s.heap.size) (hbA : ¬ A b) (htr : l.stackTraces = false)
    (fin : ∀ (H : Heap) (locs : List Loc) (ls : Array Slot) (cells slots : Nat), va_S A s.heap H locs → cells ≤ 600130 → slots ≤ 7301080 → W p l e room_1 s m #[.ref b] below meth c H locs cells slots Q (F0 m 510 ls [.int 1]))
    (vo vq : zXS) {vo' vq' : zXS} (h : fL_law L xs vo vq = some (1, vo', vq')) (cells slots : Nat) (hc : cells + 242792 ≤ 600130) (hs : slots + 6 * 242792 ≤ 7301080) (H : Heap) (locs : List Loc) (hP : zP g (zXW g hq uq vq ++ zXW g h0 u vo) H) (hD : va_D A (zXW g hq uq vq ++ zXW g h0 u vo)) (hS : va_S A s.heap H locs) (ls : Array Slot) (hl : lv_has ls 16 [(0, .ref b), (1, .ref h0), (2, .ref hq)]) : W p l e room_1 s m #[.ref b] below meth c H locs cells slots Q (F0 m 16 ls []) := by
  obtain ⟨Z, hZ⟩ : ∃ Z : Nat, Z = 242744 := ⟨_, rfl⟩
  have loop_261 : ∀ (kt : Int32 → Int32 → Int32 → zXS → zXS → Option (Int32 × zXS × zXS)) (B : Nat), (∀ (v4 : Int32) (v5 : Int32) (v6 : Int32) (vo : zXS) (vq : zXS) (cells slots : Nat), kt v4 v5 v6 vo vq = some (1, vo', vq') → cells + B ≤ 600130 → slots + 6 * B ≤ 7301080 → ∀ (H : Heap) (locs : List Loc), zP g (zXW g hq uq vq ++ zXW g h0 u vo) H → va_D A (zXW g hq uq vq ++ zXW g h0 u vo) → va_S A s.heap H locs → ∀ (ls : Array Slot), lv_has ls 16 [(0, .ref b), (1, .ref h0), (2, .ref hq), (4, .int v4), (5, .int v5), (6, .int v6)] → W p l e room_1 s m #[.ref b] below meth c H locs cells slots Q (F0 m 147 ls [])) → ∀ (v5 : Int32) (v6 : Int32) (v7 : Int32) (s0 : Int32) (vo : zXS) (vq : zXS) (cells slots : Nat), fL_law_261 L xs kt v5 v6 v7 s0 vo vq = some (1, vo', vq') → cells + (48 + B) ≤ 600130 → slots + 6 * (48 + B) ≤ 7301080 → ∀ (H : Heap) (locs : List Loc), zP g (zXW g hq uq vq ++ zXW g h0 u vo) H → va_D A (zXW g hq uq vq ++ zXW g h0 u vo) → va_S A s.heap H locs → ∀ (ls : Array Slot), lv_has ls 16 [(0, .ref b), (1, .ref h0), (2, .ref hq), (5, .int v5), (6, .int v6), (7, .int v7)] → W p l e room_1 s m #[.ref b] below meth c H locs cells slots Q (F0 m 261 ls [.int s0]) := by
    intro kt B ih v5 v6 v7 s0 vo vq cells slots h hc hs H locs hP hD hS ls hl
    unfold fL_law_261 at h
    refine lv_istore (lv' := [(4, .int s0), (0, .ref b), (1, .ref h0), (2, .ref hq), (5, .int v5), (6, .int v6), (7, .int v7)]) hx hb dL_law_261 hl (by decide) rfl (fun ls hl => ?_)
    refine lv_iconst (v := 1) hx hb dL_law_263 (by decide) ?_
    refine lv_iload hx hb dL_law_264 (lv_at hl 6 rfl) ?_
    refine lv_bipush (v := 7) hx hb dL_law_266 (by decide) ?_
    refine lv_idiv hx hb dL_law_268 (by decide) ?_
    refine lv_bipush (v := 12) hx hb dL_law_269 (by decide) ?_
    refine lv_irem hx hb dL_law_271 (by decide) ?_
    refine lv_iadd hx hb dL_law_272 ?_
    refine lv_istore (lv' := [(9, .int (1 + (irem (v7 / 7) 12))), (4, .int s0), (0, .ref b), (1, .ref h0), (2, .ref hq), (5, .int v5), (6, .int v6), (7, .int v7)]) hx hb dL_law_273 hl (by decide) rfl (fun ls hl => ?_)
    refine lv_aload_n hx hb dL_law_275 rfl (lv_at hl 3 rfl) ?_
    refine lv_bipush (v := 16) hx hb dL_law_276 (by decide) ?_
    refine lv_iload hx hb dL_law_278 (lv_at hl 0 rfl) ?_
    refine lv_iconst (v := 0) hx hb dL_law_280 (by decide) ?_
    refine lv_iconst (v := 0) hx hb dL_law_281 (by decide) ?_
    obtain ⟨r1, wo1, e1, h⟩ := zb2 h
    refine zLSc (w := (zXW g hq uq vq ++ zXW g h0 u vo)) (wr := (zXW g hq uq vq)) (wc := (zXW g h0 u vo)) (wq := (zXW g h0 u wo1)) (wp := (zXW g hq uq vq ++ zXW g h0 u wo1)) (As := [.ref h0, .int 16, .int (1 + (irem (v7 / 7) 12)), .int 0, .int 0]) (rest := []) (zWi_q g _ _) ⟨hx, hb, hml, hown, hts⟩ (kL_call l g h0 u vo 16 (1 + (irem (v7 / 7) 12)) 0 0 htr e1) (va_cwS 5 hts gL_law_L_call rfl rfl rfl hdS_L_call ⟨Nat.le_of_ble_eq_true rfl, Nat.le_of_ble_eq_true rfl⟩) hK hP hD hS hA hAm hN (zXW_fst g h0 u _ _) (List.Perm.refl _) (List.Perm.refl _) rfl hl.1 rfl (Nat.le_of_ble_eq_true rfl) ⟨by show _ ≤ 600130; omega, by show _ ≤ 7301080; omega⟩ dL_law_282 (fun H locs hP hD hS => ?_)
    replace hP : zP g (zXW g hq uq vq ++ zXW g h0 u wo1) H := hP
    replace hD : va_D A (zXW g hq uq vq ++ zXW g h0 u wo1) := hD
    refine lv_istore (lv' := [(10, .int r1), (9, .int (1 + (irem (v7 / 7) 12))), (4, .int s0), (0, .ref b), (1, .ref h0), (2, .ref hq), (5, .int v5), (6, .int v6), (7, .int v7)]) hx hb dL_law_285 hl (by decide) rfl (fun ls hl => ?_)
    refine lv_aload_n hx hb dL_law_287 rfl (lv_at hl 4 rfl) ?_
    refine lv_bipush (v := 16) hx hb dL_law_288 (by decide) ?_
    refine lv_iload hx hb dL_law_290 (lv_at hl 1 rfl) ?_
    refine lv_iconst (v := 1) hx hb dL_law_292 (by decide) ?_
    refine lv_iconst (v := 0) hx hb dL_law_293 (by decide) ?_
    obtain ⟨r2, wo2, e2, h⟩ := zb2 h
    refine zLSc (w := (zXW g hq uq vq ++ zXW g h0 u wo1)) (wr := (zXW g hq uq vq)) (wc := (zXW g h0 u wo1)) (wq := (zXW g h0 u wo2)) (wp := (zXW g hq uq vq ++ zXW g h0 u wo2)) (As := [.ref h0, .int 16, .int (1 + (irem (v7 / 7) 12)), .int 1, .int 0]) (rest := []) (zWi_q g _ _) ⟨hx, hb, hml, hown, hts⟩ (kL_call l g h0 u wo1 16 (1 + (irem (v7 / 7) 12)) 1 0 htr e2) (va_cwS 5 hts gL_law_L_call rfl rfl rfl hdS_L_call ⟨Nat.le_of_ble_eq_true rfl, Nat.le_of_ble_eq_true rfl⟩) hK hP hD hS hA hAm hN (zXW_fst g h0 u _ _) (List.Perm.refl _) (List.Perm.refl _) rfl hl.1 rfl (Nat.le_of_ble_eq_true rfl) ⟨by show _ ≤ 600130; omega, by show _ ≤ 7301080; omega⟩ dL_law_294 (fun H locs hP hD hS => ?_)
    replace hP : zP g (zXW g hq uq vq ++ zXW g h0 u wo2) H := hP
    replace hD : va_D A (zXW g hq uq vq ++ zXW g h0 u wo2) := hD
    refine lv_istore (lv' := [(11, .int r2), (10, .int r1), (9, .int (1 + (irem (v7 / 7) 12))), (4, .int s0), (0, .ref b), (1, .ref h0), (2, .ref hq), (5, .int v5), (6, .int v6), (7, .int v7)]) hx hb dL_law_297 hl (by decide) rfl (fun ls hl => ?_)
    refine lv_aload_n hx hb dL_law_299 rfl (lv_at hl 5 rfl) ?_
    refine lv_bipush (v := 16) hx hb dL_law_300 (by decide) ?_
    refine lv_iload hx hb dL_law_302 (lv_at hl 2 rfl) ?_
    refine lv_iconst (v := 2) hx hb dL_law_304 (by decide) ?_
    refine lv_iconst (v := 0) hx hb dL_law_305 (by decide) ?_
    obtain ⟨r3, wo3, e3, h⟩ := zb2 h
    refine zLSc (w := (zXW g hq uq vq ++ zXW g h0 u wo2)) (wr := (zXW g hq uq vq)) (wc := (zXW g h0 u wo2)) (wq := (zXW g h0 u wo3)) (wp := (zXW g hq uq vq ++ zXW g h0 u wo3)) (As := [.ref h0, .int 16, .int (1 + (irem (v7 / 7) 12)), .int 2, .int 0]) (rest := []) (zWi_q g _ _) ⟨hx, hb, hml, hown, hts⟩ (kL_call l g h0 u wo2 16 (1 + (irem (v7 / 7) 12)) 2 0 htr e3) (va_cwS 5 hts gL_law_L_call rfl rfl rfl hdS_L_call ⟨Nat.le_of_ble_eq_true rfl, Nat.le_of_ble_eq_true rfl⟩) hK hP hD hS hA hAm hN (zXW_fst g h0 u _ _) (List.Perm.refl _) (List.Perm.refl _) rfl hl.1 rfl (Nat.le_of_ble_eq_true rfl) ⟨by show _ ≤ 600130; omega, by show _ ≤ 7301080; omega⟩ dL_law_306 (fun H locs hP hD hS => ?_)
    replace hP : zP g (zXW g hq uq vq ++ zXW g h0 u wo3) H := hP
    replace hD : va_D A (zXW g hq uq vq ++ zXW g h0 u wo3) := hD
    refine lv_istore (lv' := [(12, .int r3), (11, .int r2), (10, .int r1), (9, .int (1 + (irem (v7 / 7) 12))), (4, .int s0), (0, .ref b), (1, .ref h0), (2, .ref hq), (5, .int v5), (6, .int v6), (7, .int v7)]) hx hb dL_law_309 hl (by decide) rfl (fun ls hl => ?_)
    refine lv_aload_n hx hb dL_law_311 rfl (lv_at hl 6 rfl) ?_
    refine lv_bipush (v := 16) hx hb dL_law_312 (by decide) ?_
    refine lv_iload hx hb dL_law_314 (lv_at hl 3 rfl) ?_
    refine lv_iconst (v := 3) hx hb dL_law_316 (by decide) ?_
    refine lv_iconst (v := 0) hx hb dL_law_317 (by decide) ?_
    obtain ⟨r4, wo4, e4, h⟩ := zb2 h
    refine zLSc (w := (zXW g hq uq vq ++ zXW g h0 u wo3)) (wr := (zXW g hq uq vq)) (wc := (zXW g h0 u wo3)) (wq := (zXW g h0 u wo4)) (wp := (zXW g hq uq vq ++ zXW g h0 u wo4)) (As := [.ref h0, .int 16, .int (1 + (irem (v7 / 7) 12)), .int 3, .int 0]) (rest := []) (zWi_q g _ _) ⟨hx, hb, hml, hown, hts⟩ (kL_call l g h0 u wo3 16 (1 + (irem (v7 / 7) 12)) 3 0 htr e4) (va_cwS 5 hts gL_law_L_call rfl rfl rfl hdS_L_call ⟨Nat.le_of_ble_eq_true rfl, Nat.le_of_ble_eq_true rfl⟩) hK hP hD hS hA hAm hN (zXW_fst g h0 u _ _) (List.Perm.refl _) (List.Perm.refl _) rfl hl.1 rfl (Nat.le_of_ble_eq_true rfl) ⟨by show _ ≤ 600130; omega, by show _ ≤ 7301080; omega⟩ dL_law_318 (fun H locs hP hD hS => ?_)
    replace hP : zP g (zXW g hq uq vq ++ zXW g h0 u wo4) H := hP
    replace hD : va_D A (zXW g hq uq vq ++ zXW g h0 u wo4) := hD
    refine lv_istore (lv' := [(13, .int r4), (12, .int r3), (11, .int r2), (10, .int r1), (9, .int (1 + (irem (v7 / 7) 12))), (4, .int s0), (0, .ref b), (1, .ref h0), (2, .ref hq), (5, .int v5), (6, .int v6), (7, .int v7)]) hx hb dL_law_321 hl (by decide) rfl (fun ls hl => ?_)
    refine lv_aload_n hx hb dL_law_323 rfl (lv_at hl 7 rfl) ?_
    refine lv_iconst (v := 2) hx hb dL_law_324 (by decide) ?_
    refine lv_bipush (v := 6) hx hb dL_law_325 (by decide) ?_
    refine lv_iconst (v := 0) hx hb dL_law_327 (by decide) ?_
    refine lv_iconst (v := 0) hx hb dL_law_328 (by decide) ?_
    obtain ⟨r5, wo5, e5, h⟩ := zb2 h
    refine zLSc (w := (zXW g hq uq vq ++ zXW g h0 u wo4)) (wr := (zXW g hq uq vq)) (wc := (zXW g h0 u wo4)) (wq := (zXW g h0 u wo5)) (wp := (zXW g hq uq vq ++ zXW g h0 u wo5)) (As := [.ref h0, .int 2, .int 6, .int 0, .int 0]) (rest := []) (zWi_q g _ _) ⟨hx, hb, hml, hown, hts⟩ (kL_call l g h0 u wo4 2 6 0 0 htr e5) (va_cwS 5 hts gL_law_L_call rfl rfl rfl hdS_L_call ⟨Nat.le_of_ble_eq_true rfl, Nat.le_of_ble_eq_true rfl⟩) hK hP hD hS hA hAm hN (zXW_fst g h0 u _ _) (List.Perm.refl _) (List.Perm.refl _) rfl hl.1 rfl (Nat.le_of_ble_eq_true rfl) ⟨by show _ ≤ 600130; omega, by show _ ≤ 7301080; omega⟩ dL_law_329 (fun H locs hP hD hS => ?_)
    replace hP : zP g (zXW g hq uq vq ++ zXW g h0 u wo5) H := hP
    replace hD : va_D A (zXW g hq uq vq ++ zXW g h0 u wo5) := hD
    refine lv_istore (lv' := [(14, .int r5), (13, .int r4), (12, .int r3), (11, .int r2), (10, .int r1), (9, .int (1 + (irem (v7 / 7) 12))), (4, .int s0), (0, .ref b), (1, .ref h0), (2, .ref hq), (5, .int v5), (6, .int v6), (7, .int v7)]) hx hb dL_law_332 hl (by decide) rfl (fun ls hl => ?_)
    refine lv_aload_n hx hb dL_law_334 rfl (lv_at hl 8 rfl) ?_
    refine lv_iconst (v := 2) hx hb dL_law_335 (by decide) ?_
    refine lv_iconst (v := 1) hx hb dL_law_336 (by decide) ?_
    refine lv_iconst (v := 0) hx hb dL_law_337 (by decide) ?_
    refine lv_iconst (v := 0) hx hb dL_law_338 (by decide) ?_
    obtain ⟨r6, wo6, e6, h⟩ := zb2 h
    refine zLSc (w := (zXW g hq uq vq ++ zXW g h0 u wo5)) (wr := (zXW g hq uq vq)) (wc := (zXW g h0 u wo5)) (wq := (zXW g h0 u wo6)) (wp := (zXW g hq uq vq ++ zXW g h0 u wo6)) (As := [.ref h0, .int 2, .int 1, .int 0, .int 0]) (rest := []) (zWi_q g _ _) ⟨hx, hb, hml, hown, hts⟩ (kL_call l g h0 u wo5 2 1 0 0 htr e6) (va_cwS 5 hts gL_law_L_call rfl rfl rfl hdS_L_call ⟨Nat.le_of_ble_eq_true rfl, Nat.le_of_ble_eq_true rfl⟩) hK hP hD hS hA hAm hN (zXW_fst g h0 u _ _) (List.Perm.refl _) (List.Perm.refl _) rfl hl.1 rfl (Nat.le_of_ble_eq_true rfl) ⟨by show _ ≤ 600130; omega, by show _ ≤ 7301080; omega⟩ dL_law_339 (fun H locs hP hD hS => ?_)
    replace hP : zP g (zXW g hq uq vq ++ zXW g h0 u wo6) H := hP
    replace hD : va_D A (zXW g hq uq vq ++ zXW g h0 u wo6) := hD
    refine lv_istore (lv' := [(15, .int r6), (14, .int r5), (13, .int r4), (12, .int r3), (11, .int r2), (10, .int r1), (9, .int (1 + (irem (v7 / 7) 12))), (4, .int s0), (0, .ref b), (1, .ref h0), (2, .ref hq), (5, .int v5), (6, .int v6), (7, .int v7)]) hx hb dL_law_342 hl (by decide) rfl (fun ls hl => ?_)
    refine lv_iload hx hb dL_law_344 (lv_at hl 7 rfl) ?_
    refine lv_if_eq (tgt := 499) hx hb dL_law_346 (by decide) (fun c7 => ?_) (fun c7 => ?_)
    · replace h := zt c7 h
      refine lv_iconst (v := 0) hx hb dL_law_499 (by decide) ?_
      refine lv_istore (lv' := [(4, .int 0), (15, .int r6), (14, .int r5), (13, .int r4), (12, .int r3), (11, .int r2), (10, .int r1), (9, .int (1 + (irem (v7 / 7) 12))), (0, .ref b), (1, .ref h0), (2, .ref hq), (5, .int v5), (6, .int v6), (7, .int v7)]) hx hb dL_law_500 hl (by decide) rfl (fun ls hl => ?_)
      refine lv_iinc (v := (v6 + 1)) (lv' := [(6, .int (v6 + 1)), (4, .int 0), (15, .int r6), (14, .int r5), (13, .int r4), (12, .int r3), (11, .int r2), (10, .int r1), (9, .int (1 + (irem (v7 / 7) 12))), (0, .ref b), (1, .ref h0), (2, .ref hq), (5, .int v5), (7, .int v7)]) hx hb dL_law_502 hl (k := 12) rfl rfl (by decide) rfl (fun ls hl => ?_)
      refine lv_goto (tgt := 147) hx hb dL_law_505 (by decide) ?_
      exact ih 0 v5 (v6 + 1) wo6 vq _ _ h (by omega) (by omega) H locs hP hD hS ls (lv_sub hl [9, 10, 11, 1, 12, 0] rfl)
    · replace h := zf c7 h
      refine lv_aload_n hx hb dL_law_349 rfl (lv_at hl 9 rfl) ?_
      refine lv_bipush (v := 11) hx hb dL_law_350 (by decide) ?_
      refine lv_iload hx hb dL_law_352 (lv_at hl 6 rfl) ?_
      refine lv_iconst (v := 0) hx hb dL_law_354 (by decide) ?_
      refine lv_iconst (v := 0) hx hb dL_law_355 (by decide) ?_
      obtain ⟨r8, wo8, e8, h⟩ := zb2 h
      refine zLSc (w := (zXW g hq uq vq ++ zXW g h0 u wo6)) (wr := (zXW g hq uq vq)) (wc := (zXW g h0 u wo6)) (wq := (zXW g h0 u wo8)) (wp := (zXW g hq uq vq ++ zXW g h0 u wo8)) (As := [.ref h0, .int 11, .int (1 + (irem (v7 / 7) 12)), .int 0, .int 0]) (rest := []) (zWi_q g _ _) ⟨hx, hb, hml, hown, hts⟩ (kL_call l g h0 u wo6 11 (1 + (irem (v7 / 7) 12)) 0 0 htr e8) (va_cwS 5 hts gL_law_L_call rfl rfl rfl hdS_L_call ⟨Nat.le_of_ble_eq_true rfl, Nat.le_of_ble_eq_true rfl⟩) hK hP hD hS hA hAm hN (zXW_fst g h0 u _ _) (List.Perm.refl _) (List.Perm.refl _) rfl hl.1 rfl (Nat.le_of_ble_eq_true rfl) ⟨by show _ ≤ 600130; omega, by show _ ≤ 7301080; omega⟩ dL_law_356 (fun H locs hP hD hS => ?_)
      replace hP : zP g (zXW g hq uq vq ++ zXW g h0 u wo8) H := hP
      replace hD : va_D A (zXW g hq uq vq ++ zXW g h0 u wo8) := hD
      refine lv_iload hx hb dL_law_359 (lv_at hl 5 rfl) ?_
      refine lv_icmp_ne (tgt := 499) hx hb dL_law_361 (by decide) (fun c9 => ?_) (fun c9 => ?_)
      · replace h := zf c9 h
        refine lv_iconst (v := 0) hx hb dL_law_499 (by decide) ?_
        refine lv_istore (lv' := [(4, .int 0), (15, .int r6), (14, .int r5), (13, .int r4), (12, .int r3), (11, .int r2), (10, .int r1), (9, .int (1 + (irem (v7 / 7) 12))), (0, .ref b), (1, .ref h0), (2, .ref hq), (5, .int v5), (6, .int v6), (7, .int v7)]) hx hb dL_law_500 hl (by decide) rfl (fun ls hl => ?_)
        refine lv_iinc (v := (v6 + 1)) (lv' := [(6, .int (v6 + 1)), (4, .int 0), (15, .int r6), (14, .int r5), (13, .int r4), (12, .int r3), (11, .int r2), (10, .int r1), (9, .int (1 + (irem (v7 / 7) 12))), (0, .ref b), (1, .ref h0), (2, .ref hq), (5, .int v5), (7, .int v7)]) hx hb dL_law_502 hl (k := 12) rfl rfl (by decide) rfl (fun ls hl => ?_)
        refine lv_goto (tgt := 147) hx hb dL_law_505 (by decide) ?_
        exact ih 0 v5 (v6 + 1) wo8 vq _ _ h (by omega) (by omega) H locs hP hD hS ls (lv_sub hl [9, 10, 11, 1, 12, 0] rfl)
      · replace h := zt c9 h
        refine lv_aload_n hx hb dL_law_364 rfl (lv_at hl 10 rfl) ?_
        refine lv_bipush (v := 11) hx hb dL_law_365 (by decide) ?_
        refine lv_iload hx hb dL_law_367 (lv_at hl 6 rfl) ?_
        refine lv_iconst (v := 0) hx hb dL_law_369 (by decide) ?_
        refine lv_iconst (v := 0) hx hb dL_law_370 (by decide) ?_
        obtain ⟨r10, wq10, e10, h⟩ := zb2 h
        refine zLSc (w := (zXW g hq uq vq ++ zXW g h0 u wo8)) (wr := (zXW g h0 u wo8)) (wc := (zXW g hq uq vq)) (wq := (zXW g hq uq wq10)) (wp := (zXW g hq uq wq10 ++ zXW g h0 u wo8)) (As := [.ref hq, .int 11, .int (1 + (irem (v7 / 7) 12)), .int 0, .int 0]) (rest := []) (zWi_q g _ _) ⟨hx, hb, hml, hown, hts⟩ (kL_call l g hq uq vq 11 (1 + (irem (v7 / 7) 12)) 0 0 htr e10) (va_cwS 5 hts gL_law_L_call rfl rfl rfl hdS_L_call ⟨Nat.le_of_ble_eq_true rfl, Nat.le_of_ble_eq_true rfl⟩) hK hP hD hS hA hAm hN (zXW_fst g hq uq _ _) List.perm_append_comm List.perm_append_comm rfl hl.1 rfl (Nat.le_of_ble_eq_true rfl) ⟨by show _ ≤ 600130; omega, by show _ ≤ 7301080; omega⟩ dL_law_371 (fun H locs hP hD hS => ?_)
        replace hP : zP g (zXW g hq uq wq10 ++ zXW g h0 u wo8) H := hP
        replace hD : va_D A (zXW g hq uq wq10 ++ zXW g h0 u wo8) := hD
        refine lv_iload hx hb dL_law_374 (lv_at hl 5 rfl) ?_
        refine lv_icmp_ne (tgt := 499) hx hb dL_law_376 (by decide) (fun c11 => ?_) (fun c11 => ?_)
        · replace h := zf c11 h
          refine lv_iconst (v := 0) hx hb dL_law_499 (by decide) ?_
          refine lv_istore (lv' := [(4, .int 0), (15, .int r6), (14, .int r5), (13, .int r4), (12, .int r3), (11, .int r2), (10, .int r1), (9, .int (1 + (irem (v7 / 7) 12))), (0, .ref b), (1, .ref h0), (2, .ref hq), (5, .int v5), (6, .int v6), (7, .int v7)]) hx hb dL_law_500 hl (by decide) rfl (fun ls hl => ?_)
          refine lv_iinc (v := (v6 + 1)) (lv' := [(6, .int (v6 + 1)), (4, .int 0), (15, .int r6), (14, .int r5), (13, .int r4), (12, .int r3), (11, .int r2), (10, .int r1), (9, .int (1 + (irem (v7 / 7) 12))), (0, .ref b), (1, .ref h0), (2, .ref hq), (5, .int v5), (7, .int v7)]) hx hb dL_law_502 hl (k := 12) rfl rfl (by decide) rfl (fun ls hl => ?_)
          refine lv_goto (tgt := 147) hx hb dL_law_505 (by decide) ?_
          exact ih 0 v5 (v6 + 1) wo8 wq10 _ _ h (by omega) (by omega) H locs hP hD hS ls (lv_sub hl [9, 10, 11, 1, 12, 0] rfl)
        · replace h := zt c11 h
          refine lv_aload_n hx hb dL_law_379 rfl (lv_at hl 9 rfl) ?_
          refine lv_iconst (v := 2) hx hb dL_law_380 (by decide) ?_
          refine lv_bipush (v := 6) hx hb dL_law_381 (by decide) ?_
          refine lv_iconst (v := 0) hx hb dL_law_383 (by decide) ?_
          refine lv_iconst (v := 0) hx hb dL_law_384 (by decide) ?_
          obtain ⟨r12, wo12, e12, h⟩ := zb2 h
          refine zLSc (w := (zXW g hq uq wq10 ++ zXW g h0 u wo8)) (wr := (zXW g hq uq wq10)) (wc := (zXW g h0 u wo8)) (wq := (zXW g h0 u wo12)) (wp := (zXW g hq uq wq10 ++ zXW g h0 u wo12)) (As := [.ref h0, .int 2, .int 6, .int 0, .int 0]) (rest := []) (zWi_q g _ _) ⟨hx, hb, hml, hown, hts⟩ (kL_call l g h0 u wo8 2 6 0 0 htr e12) (va_cwS 5 hts gL_law_L_call rfl rfl rfl hdS_L_call ⟨Nat.le_of_ble_eq_true rfl, Nat.le_of_ble_eq_true rfl⟩) hK hP hD hS hA hAm hN (zXW_fst g h0 u _ _) (List.Perm.refl _) (List.Perm.refl _) rfl hl.1 rfl (Nat.le_of_ble_eq_true rfl) ⟨by show _ ≤ 600130; omega, by show _ ≤ 7301080; omega⟩ dL_law_385 (fun H locs hP hD hS => ?_)
          replace hP : zP g (zXW g hq uq wq10 ++ zXW g h0 u wo12) H := hP
          replace hD : va_D A (zXW g hq uq wq10 ++ zXW g h0 u wo12) := hD
          refine lv_iload hx hb dL_law_388 (lv_at hl 1 rfl) ?_
          refine lv_iload hx hb dL_law_390 (lv_at hl 4 rfl) ?_
          refine lv_iadd hx hb dL_law_392 ?_
          refine lv_icmp_ne (tgt := 499) hx hb dL_law_393 (by decide) (fun c13 => ?_) (fun c13 => ?_)
          · replace h := zf c13 h
            refine lv_iconst (v := 0) hx hb dL_law_499 (by decide) ?_
            refine lv_istore (lv' := [(4, .int 0), (15, .int r6), (14, .int r5), (13, .int r4), (12, .int r3), (11, .int r2), (10, .int r1), (9, .int (1 + (irem (v7 / 7) 12))), (0, .ref b), (1, .ref h0), (2, .ref hq), (5, .int v5), (6, .int v6), (7, .int v7)]) hx hb dL_law_500 hl (by decide) rfl (fun ls hl => ?_)
            refine lv_iinc (v := (v6 + 1)) (lv' := [(6, .int (v6 + 1)), (4, .int 0), (15, .int r6), (14, .int r5), (13, .int r4), (12, .int r3), (11, .int r2), (10, .int r1), (9, .int (1 + (irem (v7 / 7) 12))), (0, .ref b), (1, .ref h0), (2, .ref hq), (5, .int v5), (7, .int v7)]) hx hb dL_law_502 hl (k := 12) rfl rfl (by decide) rfl (fun ls hl => ?_)
            refine lv_goto (tgt := 147) hx hb dL_law_505 (by decide) ?_
            exact ih 0 v5 (v6 + 1) wo12 wq10 _ _ h (by omega) (by omega) H locs hP hD hS ls (lv_sub hl [9, 10, 11, 1, 12, 0] rfl)
          · replace h := zt c13 h
            refine lv_aload_n hx hb dL_law_396 rfl (lv_at hl 9 rfl) ?_
            refine lv_iconst (v := 2) hx hb dL_law_397 (by decide) ?_
            refine lv_iconst (v := 2) hx hb dL_law_398 (by decide) ?_
            refine lv_iconst (v := 0) hx hb dL_law_399 (by decide) ?_
            refine lv_iconst (v := 0) hx hb dL_law_400 (by decide) ?_
            obtain ⟨r14, wo14, e14, h⟩ := zb2 h
            refine zLSc (w := (zXW g hq uq wq10 ++ zXW g h0 u wo12)) (wr := (zXW g hq uq wq10)) (wc := (zXW g h0 u wo12)) (wq := (zXW g h0 u wo14)) (wp := (zXW g hq uq wq10 ++ zXW g h0 u wo14)) (As := [.ref h0, .int 2, .int 2, .int 0, .int 0]) (rest := []) (zWi_q g _ _) ⟨hx, hb, hml, hown, hts⟩ (kL_call l g h0 u wo12 2 2 0 0 htr e14) (va_cwS 5 hts gL_law_L_call rfl rfl rfl hdS_L_call ⟨Nat.le_of_ble_eq_true rfl, Nat.le_of_ble_eq_true rfl⟩) hK hP hD hS hA hAm hN (zXW_fst g h0 u _ _) (List.Perm.refl _) (List.Perm.refl _) rfl hl.1 rfl (Nat.le_of_ble_eq_true rfl) ⟨by show _ ≤ 600130; omega, by show _ ≤ 7301080; omega⟩ dL_law_401 (fun H locs hP hD hS => ?_)
            replace hP : zP g (zXW g hq uq wq10 ++ zXW g h0 u wo14) H := hP
            replace hD : va_D A (zXW g hq uq wq10 ++ zXW g h0 u wo14) := hD
            refine lv_iload hx hb dL_law_404 (lv_at hl 3 rfl) ?_
            refine lv_icmp_ne (tgt := 499) hx hb dL_law_406 (by decide) (fun c15 => ?_) (fun c15 => ?_)
            · replace h := zf c15 h
              refine lv_iconst (v := 0) hx hb dL_law_499 (by decide) ?_
              refine lv_istore (lv' := [(4, .int 0), (15, .int r6), (14, .int r5), (13, .int r4), (12, .int r3), (11, .int r2), (10, .int r1), (9, .int (1 + (irem (v7 / 7) 12))), (0, .ref b), (1, .ref h0), (2, .ref hq), (5, .int v5), (6, .int v6), (7, .int v7)]) hx hb dL_law_500 hl (by decide) rfl (fun ls hl => ?_)
              refine lv_iinc (v := (v6 + 1)) (lv' := [(6, .int (v6 + 1)), (4, .int 0), (15, .int r6), (14, .int r5), (13, .int r4), (12, .int r3), (11, .int r2), (10, .int r1), (9, .int (1 + (irem (v7 / 7) 12))), (0, .ref b), (1, .ref h0), (2, .ref hq), (5, .int v5), (7, .int v7)]) hx hb dL_law_502 hl (k := 12) rfl rfl (by decide) rfl (fun ls hl => ?_)
              refine lv_goto (tgt := 147) hx hb dL_law_505 (by decide) ?_
              exact ih 0 v5 (v6 + 1) wo14 wq10 _ _ h (by omega) (by omega) H locs hP hD hS ls (lv_sub hl [9, 10, 11, 1, 12, 0] rfl)
            · replace h := zt c15 h
              refine lv_aload_n hx hb dL_law_409 rfl (lv_at hl 9 rfl) ?_
              refine lv_iconst (v := 2) hx hb dL_law_410 (by decide) ?_
              refine lv_iconst (v := 3) hx hb dL_law_411 (by decide) ?_
              refine lv_iconst (v := 0) hx hb dL_law_412 (by decide) ?_
              refine lv_iconst (v := 0) hx hb dL_law_413 (by decide) ?_
              obtain ⟨r16, wo16, e16, h⟩ := zb2 h
              refine zLSc (w := (zXW g hq uq wq10 ++ zXW g h0 u wo14)) (wr := (zXW g hq uq wq10)) (wc := (zXW g h0 u wo14)) (wq := (zXW g h0 u wo16)) (wp := (zXW g hq uq wq10 ++ zXW g h0 u wo16)) (As := [.ref h0, .int 2, .int 3, .int 0, .int 0]) (rest := []) (zWi_q g _ _) ⟨hx, hb, hml, hown, hts⟩ (kL_call l g h0 u wo14 2 3 0 0 htr e16) (va_cwS 5 hts gL_law_L_call rfl rfl rfl hdS_L_call ⟨Nat.le_of_ble_eq_true rfl, Nat.le_of_ble_eq_true rfl⟩) hK hP hD hS hA hAm hN (zXW_fst g h0 u _ _) (List.Perm.refl _) (List.Perm.refl _) rfl hl.1 rfl (Nat.le_of_ble_eq_true rfl) ⟨by show _ ≤ 600130; omega, by show _ ≤ 7301080; omega⟩ dL_law_414 (fun H locs hP hD hS => ?_)
              replace hP : zP g (zXW g hq uq wq10 ++ zXW g h0 u wo16) H := hP
              replace hD : va_D A (zXW g hq uq wq10 ++ zXW g h0 u wo16) := hD
              refine lv_iload hx hb dL_law_417 (lv_at hl 2 rfl) ?_
              refine lv_icmp_ne (tgt := 499) hx hb dL_law_419 (by decide) (fun c17 => ?_) (fun c17 => ?_)
              · replace h := zf c17 h
                refine lv_iconst (v := 0) hx hb dL_law_499 (by decide) ?_
                refine lv_istore (lv' := [(4, .int 0), (15, .int r6), (14, .int r5), (13, .int r4), (12, .int r3), (11, .int r2), (10, .int r1), (9, .int (1 + (irem (v7 / 7) 12))), (0, .ref b), (1, .ref h0), (2, .ref hq), (5, .int v5), (6, .int v6), (7, .int v7)]) hx hb dL_law_500 hl (by decide) rfl (fun ls hl => ?_)
                refine lv_iinc (v := (v6 + 1)) (lv' := [(6, .int (v6 + 1)), (4, .int 0), (15, .int r6), (14, .int r5), (13, .int r4), (12, .int r3), (11, .int r2), (10, .int r1), (9, .int (1 + (irem (v7 / 7) 12))), (0, .ref b), (1, .ref h0), (2, .ref hq), (5, .int v5), (7, .int v7)]) hx hb dL_law_502 hl (k := 12) rfl rfl (by decide) rfl (fun ls hl => ?_)
                refine lv_goto (tgt := 147) hx hb dL_law_505 (by decide) ?_
                exact ih 0 v5 (v6 + 1) wo16 wq10 _ _ h (by omega) (by omega) H locs hP hD hS ls (lv_sub hl [9, 10, 11, 1, 12, 0] rfl)
              · replace h := zt c17 h
                refine lv_aload_n hx hb dL_law_422 rfl (lv_at hl 9 rfl) ?_
                refine lv_iconst (v := 2) hx hb dL_law_423 (by decide) ?_
                refine lv_iconst (v := 1) hx hb dL_law_424 (by decide) ?_
                refine lv_iconst (v := 0) hx hb dL_law_425 (by decide) ?_
                refine lv_iconst (v := 0) hx hb dL_law_426 (by decide) ?_
                obtain ⟨r18, wo18, e18, h⟩ := zb2 h
                refine zLSc (w := (zXW g hq uq wq10 ++ zXW g h0 u wo16)) (wr := (zXW g hq uq wq10)) (wc := (zXW g h0 u wo16)) (wq := (zXW g h0 u wo18)) (wp := (zXW g hq uq wq10 ++ zXW g h0 u wo18)) (As := [.ref h0, .int 2, .int 1, .int 0, .int 0]) (rest := []) (zWi_q g _ _) ⟨hx, hb, hml, hown, hts⟩ (kL_call l g h0 u wo16 2 1 0 0 htr e18) (va_cwS 5 hts gL_law_L_call rfl rfl rfl hdS_L_call ⟨Nat.le_of_ble_eq_true rfl, Nat.le_of_ble_eq_true rfl⟩) hK hP hD hS hA hAm hN (zXW_fst g h0 u _ _) (List.Perm.refl _) (List.Perm.refl _) rfl hl.1 rfl (Nat.le_of_ble_eq_true rfl) ⟨by show _ ≤ 600130; omega, by show _ ≤ 7301080; omega⟩ dL_law_427 (fun H locs hP hD hS => ?_)
                replace hP : zP g (zXW g hq uq wq10 ++ zXW g h0 u wo18) H := hP
                replace hD : va_D A (zXW g hq uq wq10 ++ zXW g h0 u wo18) := hD
                refine lv_iload hx hb dL_law_430 (lv_at hl 0 rfl) ?_
                refine lv_iload hx hb dL_law_432 (lv_at hl 5 rfl) ?_
                refine lv_isub hx hb dL_law_434 ?_
                refine lv_icmp_ne (tgt := 499) hx hb dL_law_435 (by decide) (fun c19 => ?_) (fun c19 => ?_)
                · replace h := zf c19 h
                  refine lv_iconst (v := 0) hx hb dL_law_499 (by decide) ?_
                  refine lv_istore (lv' := [(4, .int 0), (15, .int r6), (14, .int r5), (13, .int r4), (12, .int r3), (11, .int r2), (10, .int r1), (9, .int (1 + (irem (v7 / 7) 12))), (0, .ref b), (1, .ref h0), (2, .ref hq), (5, .int v5), (6, .int v6), (7, .int v7)]) hx hb dL_law_500 hl (by decide) rfl (fun ls hl => ?_)
                  refine lv_iinc (v := (v6 + 1)) (lv' := [(6, .int (v6 + 1)), (4, .int 0), (15, .int r6), (14, .int r5), (13, .int r4), (12, .int r3), (11, .int r2), (10, .int r1), (9, .int (1 + (irem (v7 / 7) 12))), (0, .ref b), (1, .ref h0), (2, .ref hq), (5, .int v5), (7, .int v7)]) hx hb dL_law_502 hl (k := 12) rfl rfl (by decide) rfl (fun ls hl => ?_)
                  refine lv_goto (tgt := 147) hx hb dL_law_505 (by decide) ?_
                  exact ih 0 v5 (v6 + 1) wo18 wq10 _ _ h (by omega) (by omega) H locs hP hD hS ls (lv_sub hl [9, 10, 11, 1, 12, 0] rfl)
                · replace h := zt c19 h
                  refine lv_aload_n hx hb dL_law_438 rfl (lv_at hl 9 rfl) ?_
                  refine lv_bipush (v := 13) hx hb dL_law_439 (by decide) ?_
                  refine lv_iconst (v := 0) hx hb dL_law_441 (by decide) ?_
                  refine lv_iconst (v := 0) hx hb dL_law_442 (by decide) ?_
                  refine lv_iconst (v := 0) hx hb dL_law_443 (by decide) ?_
                  obtain ⟨r20, wo20, e20, h⟩ := zb2 h
                  refine zLSc (w := (zXW g hq uq wq10 ++ zXW g h0 u wo18)) (wr := (zXW g hq uq wq10)) (wc := (zXW g h0 u wo18)) (wq := (zXW g h0 u wo20)) (wp := (zXW g hq uq wq10 ++ zXW g h0 u wo20)) (As := [.ref h0, .int 13, .int 0, .int 0, .int 0]) (rest := []) (zWi_q g _ _) ⟨hx, hb, hml, hown, hts⟩ (kL_call l g h0 u wo18 13 0 0 0 htr e20) (va_cwS 5 hts gL_law_L_call rfl rfl rfl hdS_L_call ⟨Nat.le_of_ble_eq_true rfl, Nat.le_of_ble_eq_true rfl⟩) hK hP hD hS hA hAm hN (zXW_fst g h0 u _ _) (List.Perm.refl _) (List.Perm.refl _) rfl hl.1 rfl (Nat.le_of_ble_eq_true rfl) ⟨by show _ ≤ 600130; omega, by show _ ≤ 7301080; omega⟩ dL_law_444 (fun H locs hP hD hS => ?_)
                  replace hP : zP g (zXW g hq uq wq10 ++ zXW g h0 u wo20) H := hP
                  replace hD : va_D A (zXW g hq uq wq10 ++ zXW g h0 u wo20) := hD
                  obtain ⟨r21, e21, h⟩ := zb h
                  refine zLSr (wc := []) (As := [.int r20]) (rest := []) (zQi_q _) ⟨hx, hb, hml, hown, hts⟩ (kL_thrown l g r20 e21) (va_cwS 1 hts gL_law_L_thrown rfl rfl rfl hdS_L_thrown ⟨Nat.le_of_ble_eq_true rfl, Nat.le_of_ble_eq_true rfl⟩) hK (zP_mem.mpr fun q hq => absurd hq List.not_mem_nil) rfl hl.1 rfl (Nat.le_of_ble_eq_true rfl) ⟨by show _ ≤ 600130; omega, by show _ ≤ 7301080; omega⟩ dL_law_447 ?_
                  refine lv_if_ne (tgt := 499) hx hb dL_law_450 (by decide) (fun c22 => ?_) (fun c22 => ?_)
                  · replace h := zf c22 h
                    refine lv_iconst (v := 0) hx hb dL_law_499 (by decide) ?_
                    refine lv_istore (lv' := [(4, .int 0), (15, .int r6), (14, .int r5), (13, .int r4), (12, .int r3), (11, .int r2), (10, .int r1), (9, .int (1 + (irem (v7 / 7) 12))), (0, .ref b), (1, .ref h0), (2, .ref hq), (5, .int v5), (6, .int v6), (7, .int v7)]) hx hb dL_law_500 hl (by decide) rfl (fun ls hl => ?_)
                    refine lv_iinc (v := (v6 + 1)) (lv' := [(6, .int (v6 + 1)), (4, .int 0), (15, .int r6), (14, .int r5), (13, .int r4), (12, .int r3), (11, .int r2), (10, .int r1), (9, .int (1 + (irem (v7 / 7) 12))), (0, .ref b), (1, .ref h0), (2, .ref hq), (5, .int v5), (7, .int v7)]) hx hb dL_law_502 hl (k := 12) rfl rfl (by decide) rfl (fun ls hl => ?_)
                    refine lv_goto (tgt := 147) hx hb dL_law_505 (by decide) ?_
                    exact ih 0 v5 (v6 + 1) wo20 wq10 _ _ h (by omega) (by omega) H locs hP hD hS ls (lv_sub hl [9, 10, 11, 1, 12, 0] rfl)
                  · replace h := zt c22 h
                    refine lv_aload_n hx hb dL_law_453 rfl (lv_at hl 10 rfl) ?_
                    refine lv_bipush (v := 13) hx hb dL_law_454 (by decide) ?_
                    refine lv_iconst (v := 0) hx hb dL_law_456 (by decide) ?_
                    refine lv_iconst (v := 0) hx hb dL_law_457 (by decide) ?_
                    refine lv_iconst (v := 0) hx hb dL_law_458 (by decide) ?_
                    obtain ⟨r23, wq23, e23, h⟩ := zb2 h
                    refine zLSc (w := (zXW g hq uq wq10 ++ zXW g h0 u wo20)) (wr := (zXW g h0 u wo20)) (wc := (zXW g hq uq wq10)) (wq := (zXW g hq uq wq23)) (wp := (zXW g hq uq wq23 ++ zXW g h0 u wo20)) (As := [.ref hq, .int 13, .int 0, .int 0, .int 0]) (rest := []) (zWi_q g _ _) ⟨hx, hb, hml, hown, hts⟩ (kL_call l g hq uq wq10 13 0 0 0 htr e23) (va_cwS 5 hts gL_law_L_call rfl rfl rfl hdS_L_call ⟨Nat.le_of_ble_eq_true rfl, Nat.le_of_ble_eq_true rfl⟩) hK hP hD hS hA hAm hN (zXW_fst g hq uq _ _) List.perm_append_comm List.perm_append_comm rfl hl.1 rfl (Nat.le_of_ble_eq_true rfl) ⟨by show _ ≤ 600130; omega, by show _ ≤ 7301080; omega⟩ dL_law_459 (fun H locs hP hD hS => ?_)
                    replace hP : zP g (zXW g hq uq wq23 ++ zXW g h0 u wo20) H := hP
                    replace hD : va_D A (zXW g hq uq wq23 ++ zXW g h0 u wo20) := hD
                    obtain ⟨r24, e24, h⟩ := zb h
                    refine zLSr (wc := []) (As := [.int r23]) (rest := []) (zQi_q _) ⟨hx, hb, hml, hown, hts⟩ (kL_thrown l g r23 e24) (va_cwS 1 hts gL_law_L_thrown rfl rfl rfl hdS_L_thrown ⟨Nat.le_of_ble_eq_true rfl, Nat.le_of_ble_eq_true rfl⟩) hK (zP_mem.mpr fun q hq => absurd hq List.not_mem_nil) rfl hl.1 rfl (Nat.le_of_ble_eq_true rfl) ⟨by show _ ≤ 600130; omega, by show _ ≤ 7301080; omega⟩ dL_law_462 ?_
                    refine lv_if_ne (tgt := 499) hx hb dL_law_465 (by decide) (fun c25 => ?_) (fun c25 => ?_)
                    · replace h := zf c25 h
                      refine lv_iconst (v := 0) hx hb dL_law_499 (by decide) ?_
                      refine lv_istore (lv' := [(4, .int 0), (15, .int r6), (14, .int r5), (13, .int r4), (12, .int r3), (11, .int r2), (10, .int r1), (9, .int (1 + (irem (v7 / 7) 12))), (0, .ref b), (1, .ref h0), (2, .ref hq), (5, .int v5), (6, .int v6), (7, .int v7)]) hx hb dL_law_500 hl (by decide) rfl (fun ls hl => ?_)
                      refine lv_iinc (v := (v6 + 1)) (lv' := [(6, .int (v6 + 1)), (4, .int 0), (15, .int r6), (14, .int r5), (13, .int r4), (12, .int r3), (11, .int r2), (10, .int r1), (9, .int (1 + (irem (v7 / 7) 12))), (0, .ref b), (1, .ref h0), (2, .ref hq), (5, .int v5), (7, .int v7)]) hx hb dL_law_502 hl (k := 12) rfl rfl (by decide) rfl (fun ls hl => ?_)
                      refine lv_goto (tgt := 147) hx hb dL_law_505 (by decide) ?_
                      exact ih 0 v5 (v6 + 1) wo20 wq23 _ _ h (by omega) (by omega) H locs hP hD hS ls (lv_sub hl [9, 10, 11, 1, 12, 0] rfl)
                    · replace h := zt c25 h
                      refine lv_aload_n hx hb dL_law_468 rfl (lv_at hl 9 rfl) ?_
                      refine lv_iconst (v := 2) hx hb dL_law_469 (by decide) ?_
                      refine lv_bipush (v := 6) hx hb dL_law_470 (by decide) ?_
                      refine lv_iconst (v := 0) hx hb dL_law_472 (by decide) ?_
                      refine lv_iconst (v := 0) hx hb dL_law_473 (by decide) ?_
                      obtain ⟨r26, wo26, e26, h⟩ := zb2 h
                      refine zLSc (w := (zXW g hq uq wq23 ++ zXW g h0 u wo20)) (wr := (zXW g hq uq wq23)) (wc := (zXW g h0 u wo20)) (wq := (zXW g h0 u wo26)) (wp := (zXW g hq uq wq23 ++ zXW g h0 u wo26)) (As := [.ref h0, .int 2, .int 6, .int 0, .int 0]) (rest := []) (zWi_q g _ _) ⟨hx, hb, hml, hown, hts⟩ (kL_call l g h0 u wo20 2 6 0 0 htr e26) (va_cwS 5 hts gL_law_L_call rfl rfl rfl hdS_L_call ⟨Nat.le_of_ble_eq_true rfl, Nat.le_of_ble_eq_true rfl⟩) hK hP hD hS hA hAm hN (zXW_fst g h0 u _ _) (List.Perm.refl _) (List.Perm.refl _) rfl hl.1 rfl (Nat.le_of_ble_eq_true rfl) ⟨by show _ ≤ 600130; omega, by show _ ≤ 7301080; omega⟩ dL_law_474 (fun H locs hP hD hS => ?_)
                      replace hP : zP g (zXW g hq uq wq23 ++ zXW g h0 u wo26) H := hP
                      replace hD : va_D A (zXW g hq uq wq23 ++ zXW g h0 u wo26) := hD
                      refine lv_iload hx hb dL_law_477 (lv_at hl 1 rfl) ?_
                      refine lv_icmp_ne (tgt := 499) hx hb dL_law_479 (by decide) (fun c27 => ?_) (fun c27 => ?_)
                      · replace h := zf c27 h
                        refine lv_iconst (v := 0) hx hb dL_law_499 (by decide) ?_
                        refine lv_istore (lv' := [(4, .int 0), (15, .int r6), (14, .int r5), (13, .int r4), (12, .int r3), (11, .int r2), (10, .int r1), (9, .int (1 + (irem (v7 / 7) 12))), (0, .ref b), (1, .ref h0), (2, .ref hq), (5, .int v5), (6, .int v6), (7, .int v7)]) hx hb dL_law_500 hl (by decide) rfl (fun ls hl => ?_)
                        refine lv_iinc (v := (v6 + 1)) (lv' := [(6, .int (v6 + 1)), (4, .int 0), (15, .int r6), (14, .int r5), (13, .int r4), (12, .int r3), (11, .int r2), (10, .int r1), (9, .int (1 + (irem (v7 / 7) 12))), (0, .ref b), (1, .ref h0), (2, .ref hq), (5, .int v5), (7, .int v7)]) hx hb dL_law_502 hl (k := 12) rfl rfl (by decide) rfl (fun ls hl => ?_)
                        refine lv_goto (tgt := 147) hx hb dL_law_505 (by decide) ?_
                        exact ih 0 v5 (v6 + 1) wo26 wq23 _ _ h (by omega) (by omega) H locs hP hD hS ls (lv_sub hl [9, 10, 11, 1, 12, 0] rfl)
                      · replace h := zt c27 h
                        refine lv_aload_n hx hb dL_law_482 rfl (lv_at hl 9 rfl) ?_
                        refine lv_iconst (v := 2) hx hb dL_law_483 (by decide) ?_
                        refine lv_iconst (v := 1) hx hb dL_law_484 (by decide) ?_
                        refine lv_iconst (v := 0) hx hb dL_law_485 (by decide) ?_
                        refine lv_iconst (v := 0) hx hb dL_law_486 (by decide) ?_
                        obtain ⟨r28, wo28, e28, h⟩ := zb2 h
                        refine zLSc (w := (zXW g hq uq wq23 ++ zXW g h0 u wo26)) (wr := (zXW g hq uq wq23)) (wc := (zXW g h0 u wo26)) (wq := (zXW g h0 u wo28)) (wp := (zXW g hq uq wq23 ++ zXW g h0 u wo28)) (As := [.ref h0, .int 2, .int 1, .int 0, .int 0]) (rest := []) (zWi_q g _ _) ⟨hx, hb, hml, hown, hts⟩ (kL_call l g h0 u wo26 2 1 0 0 htr e28) (va_cwS 5 hts gL_law_L_call rfl rfl rfl hdS_L_call ⟨Nat.le_of_ble_eq_true rfl, Nat.le_of_ble_eq_true rfl⟩) hK hP hD hS hA hAm hN (zXW_fst g h0 u _ _) (List.Perm.refl _) (List.Perm.refl _) rfl hl.1 rfl (Nat.le_of_ble_eq_true rfl) ⟨by show _ ≤ 600130; omega, by show _ ≤ 7301080; omega⟩ dL_law_487 (fun H locs hP hD hS => ?_)
                        replace hP : zP g (zXW g hq uq wq23 ++ zXW g h0 u wo28) H := hP
                        replace hD : va_D A (zXW g hq uq wq23 ++ zXW g h0 u wo28) := hD
                        refine lv_iload hx hb dL_law_490 (lv_at hl 0 rfl) ?_
                        refine lv_icmp_ne (tgt := 499) hx hb dL_law_492 (by decide) (fun c29 => ?_) (fun c29 => ?_)
                        · replace h := zf c29 h
                          refine lv_iconst (v := 0) hx hb dL_law_499 (by decide) ?_
                          refine lv_istore (lv' := [(4, .int 0), (15, .int r6), (14, .int r5), (13, .int r4), (12, .int r3), (11, .int r2), (10, .int r1), (9, .int (1 + (irem (v7 / 7) 12))), (0, .ref b), (1, .ref h0), (2, .ref hq), (5, .int v5), (6, .int v6), (7, .int v7)]) hx hb dL_law_500 hl (by decide) rfl (fun ls hl => ?_)
                          refine lv_iinc (v := (v6 + 1)) (lv' := [(6, .int (v6 + 1)), (4, .int 0), (15, .int r6), (14, .int r5), (13, .int r4), (12, .int r3), (11, .int r2), (10, .int r1), (9, .int (1 + (irem (v7 / 7) 12))), (0, .ref b), (1, .ref h0), (2, .ref hq), (5, .int v5), (7, .int v7)]) hx hb dL_law_502 hl (k := 12) rfl rfl (by decide) rfl (fun ls hl => ?_)
                          refine lv_goto (tgt := 147) hx hb dL_law_505 (by decide) ?_
                          exact ih 0 v5 (v6 + 1) wo28 wq23 _ _ h (by omega) (by omega) H locs hP hD hS ls (lv_sub hl [9, 10, 11, 1, 12, 0] rfl)
                        · replace h := zt c29 h
                          refine lv_iconst (v := 1) hx hb dL_law_495 (by decide) ?_
                          refine lv_goto (tgt := 500) hx hb dL_law_496 (by decide) ?_
                          refine lv_istore (lv' := [(4, .int 1), (15, .int r6), (14, .int r5), (13, .int r4), (12, .int r3), (11, .int r2), (10, .int r1), (9, .int (1 + (irem (v7 / 7) 12))), (0, .ref b), (1, .ref h0), (2, .ref hq), (5, .int v5), (6, .int v6), (7, .int v7)]) hx hb dL_law_500 hl (by decide) rfl (fun ls hl => ?_)
                          refine lv_iinc (v := (v6 + 1)) (lv' := [(6, .int (v6 + 1)), (4, .int 1), (15, .int r6), (14, .int r5), (13, .int r4), (12, .int r3), (11, .int r2), (10, .int r1), (9, .int (1 + (irem (v7 / 7) 12))), (0, .ref b), (1, .ref h0), (2, .ref hq), (5, .int v5), (7, .int v7)]) hx hb dL_law_502 hl (k := 12) rfl rfl (by decide) rfl (fun ls hl => ?_)
                          refine lv_goto (tgt := 147) hx hb dL_law_505 (by decide) ?_
                          exact ih 1 v5 (v6 + 1) wo28 wq23 _ _ h (by omega) (by omega) H locs hP hD hS ls (lv_sub hl [9, 10, 11, 1, 12, 0] rfl)
  have loop_260 : ∀ (kt : Int32 → Int32 → Int32 → zXS → zXS → Option (Int32 × zXS × zXS)) (B : Nat), (∀ (v4 : Int32) (v5 : Int32) (v6 : Int32) (vo : zXS) (vq : zXS) (cells slots : Nat), kt v4 v5 v6 vo vq = some (1, vo', vq') → cells + B ≤ 600130 → slots + 6 * B ≤ 7301080 → ∀ (H : Heap) (locs : List Loc), zP g (zXW g hq uq vq ++ zXW g h0 u vo) H → va_D A (zXW g hq uq vq ++ zXW g h0 u vo) → va_S A s.heap H locs → ∀ (ls : Array Slot), lv_has ls 16 [(0, .ref b), (1, .ref h0), (2, .ref hq), (4, .int v4), (5, .int v5), (6, .int v6)] → W p l e room_1 s m #[.ref b] below meth c H locs cells slots Q (F0 m 147 ls [])) → ∀ (v5 : Int32) (v6 : Int32) (v7 : Int32) (vo : zXS) (vq : zXS) (cells slots : Nat), fL_law_260 L xs kt v5 v6 v7 vo vq = some (1, vo', vq') → cells + (48 + B) ≤ 600130 → slots + 6 * (48 + B) ≤ 7301080 → ∀ (H : Heap) (locs : List Loc), zP g (zXW g hq uq vq ++ zXW g h0 u vo) H → va_D A (zXW g hq uq vq ++ zXW g h0 u vo) → va_S A s.heap H locs → ∀ (ls : Array Slot), lv_has ls 16 [(0, .ref b), (1, .ref h0), (2, .ref hq), (5, .int v5), (6, .int v6), (7, .int v7)] → W p l e room_1 s m #[.ref b] below meth c H locs cells slots Q (F0 m 260 ls []) := by
    intro kt B ih v5 v6 v7 vo vq cells slots h hc hs H locs hP hD hS ls hl
    unfold fL_law_260 at h
    refine lv_iconst (v := 0) hx hb dL_law_260 (by decide) ?_
    exact loop_261 kt B ih v5 v6 v7 0 vo vq _ _ h (by omega) (by omega) H locs hP hD hS ls (lv_sub hl [0, 1, 2, 3, 4, 5] rfl)
  have loop_256 : ∀ (kt : Int32 → Int32 → Int32 → zXS → zXS → Option (Int32 × zXS × zXS)) (B : Nat), (∀ (v4 : Int32) (v5 : Int32) (v6 : Int32) (vo : zXS) (vq : zXS) (cells slots : Nat), kt v4 v5 v6 vo vq = some (1, vo', vq') → cells + B ≤ 600130 → slots + 6 * B ≤ 7301080 → ∀ (H : Heap) (locs : List Loc), zP g (zXW g hq uq vq ++ zXW g h0 u vo) H → va_D A (zXW g hq uq vq ++ zXW g h0 u vo) → va_S A s.heap H locs → ∀ (ls : Array Slot), lv_has ls 16 [(0, .ref b), (1, .ref h0), (2, .ref hq), (4, .int v4), (5, .int v5), (6, .int v6)] → W p l e room_1 s m #[.ref b] below meth c H locs cells slots Q (F0 m 147 ls [])) → ∀ (v5 : Int32) (v6 : Int32) (v7 : Int32) (vo : zXS) (vq : zXS) (cells slots : Nat), fL_law_256 L xs kt v5 v6 v7 vo vq = some (1, vo', vq') → cells + (48 + B) ≤ 600130 → slots + 6 * (48 + B) ≤ 7301080 → ∀ (H : Heap) (locs : List Loc), zP g (zXW g hq uq vq ++ zXW g h0 u vo) H → va_D A (zXW g hq uq vq ++ zXW g h0 u vo) → va_S A s.heap H locs → ∀ (ls : Array Slot), lv_has ls 16 [(0, .ref b), (1, .ref h0), (2, .ref hq), (5, .int v5), (6, .int v6), (7, .int v7)] → W p l e room_1 s m #[.ref b] below meth c H locs cells slots Q (F0 m 256 ls []) := by
    intro kt B ih v5 v6 v7 vo vq cells slots h hc hs H locs hP hD hS ls hl
    unfold fL_law_256 at h
    refine lv_iconst (v := 1) hx hb dL_law_256 (by decide) ?_
    refine lv_goto (tgt := 261) hx hb dL_law_257 (by decide) ?_
    exact loop_261 kt B ih v5 v6 v7 1 vo vq _ _ h (by omega) (by omega) H locs hP hD hS ls (lv_sub hl [0, 1, 2, 3, 4, 5] rfl)
  have loop_147 : ∀ (n : Nat) (v4 : Int32) (v5 : Int32) (v6 : Int32) (vo : zXS) (vq : zXS) (cells slots : Nat), fL_law_147 L xs n v4 v5 v6 vo vq = some (1, vo', vq') → cells + (n * 12776 + 0) ≤ 600130 → slots + 6 * (n * 12776 + 0) ≤ 7301080 → ∀ (H : Heap) (locs : List Loc), zP g (zXW g hq uq vq ++ zXW g h0 u vo) H → va_D A (zXW g hq uq vq ++ zXW g h0 u vo) → va_S A s.heap H locs → ∀ (ls : Array Slot), lv_has ls 16 [(0, .ref b), (1, .ref h0), (2, .ref hq), (4, .int v4), (5, .int v5), (6, .int v6)] → W p l e room_1 s m #[.ref b] below meth c H locs cells slots Q (F0 m 147 ls []) := by
    intro n
    induction n with
    | zero => intro v4 v5 v6 vo vq cells slots h; exact zn h
    | succ n ih =>
      intro v4 v5 v6 vo vq cells slots h hc hs H locs hP hD hS ls hl
      rw [fL_law_147] at h
      refine lv_iload hx hb dL_law_147 (lv_at hl 5 rfl) ?_
      refine lv_iload hx hb dL_law_149 (lv_at hl 4 rfl) ?_
      refine lv_icmp_ge (tgt := 508) hx hb dL_law_151 (by decide) (fun c30 => ?_) (fun c30 => ?_)
      · replace h := zt c30 h
        refine lv_iload hx hb dL_law_508 (lv_at hl 3 rfl) ?_
        cases h
        exact fin _ _ _ _ _ hS (by omega) (by omega)
      · replace h := zf c30 h
        refine lv_iload hx hb dL_law_154 (lv_at hl 3 rfl) ?_
        refine lv_if_eq (tgt := 508) hx hb dL_law_156 (by decide) (fun c31 => ?_) (fun c31 => ?_)
        · replace h := zt c31 h
          refine lv_iload hx hb dL_law_508 (lv_at hl 3 rfl) ?_
          cases h
          exact fin _ _ _ _ _ hS (by omega) (by omega)
        · replace h := zf c31 h
          refine lv_aload_n hx hb dL_law_159 rfl (lv_at hl 0 rfl) ?_
          refine lv_iconst (v := 2) hx hb dL_law_160 (by decide) ?_
          refine lv_iload hx hb dL_law_161 (lv_at hl 5 rfl) ?_
          refine lv_iadd hx hb dL_law_163 ?_
          obtain ⟨r32, e32, h⟩ := zb h
          refine zLSx (As := [.ref b, .int (2 + v6)]) (rest := []) hX hbl hbA hS (zQi_q _) ⟨hx, hb, hml, hown, hts⟩ (kX_cell l b L xs (2 + v6) e32) (va_cwS 2 hts gL_law_L_cell rfl rfl rfl hdS_L_cell ⟨Nat.le_of_ble_eq_true rfl, Nat.le_of_ble_eq_true rfl⟩) rfl hl.1 rfl (Nat.le_of_ble_eq_true rfl) ⟨by show _ ≤ 600130; omega, by show _ ≤ 7301080; omega⟩ dL_law_164 ?_
          refine lv_istore (lv' := [(7, .int r32), (0, .ref b), (1, .ref h0), (2, .ref hq), (4, .int v4), (5, .int v5), (6, .int v6)]) hx hb dL_law_167 hl (by decide) rfl (fun ls hl => ?_)
          refine lv_aload_n hx hb dL_law_169 rfl (lv_at hl 2 rfl) ?_
          refine lv_iload hx hb dL_law_170 (lv_at hl 0 rfl) ?_
          obtain ⟨r33, wo33, e33, h⟩ := zb2 h
          refine zLSc (w := (zXW g hq uq vq ++ zXW g h0 u vo)) (wr := (zXW g hq uq vq)) (wc := (zXW g h0 u vo)) (wq := (zXW g h0 u wo33)) (wp := (zXW g hq uq vq ++ zXW g h0 u wo33)) (As := [.ref h0, .int r32]) (rest := []) (zWi_q g _ _) ⟨hx, hb, hml, hown, hts⟩ (kL_act l g h0 u vo r32 htr e33) (va_cwS 2 hts gL_law_L_act rfl rfl rfl hdS_L_act ⟨Nat.le_of_ble_eq_true rfl, Nat.le_of_ble_eq_true rfl⟩) hK hP hD hS hA hAm hN (zXW_fst g h0 u _ _) (List.Perm.refl _) (List.Perm.refl _) rfl hl.1 rfl (Nat.le_of_ble_eq_true rfl) ⟨by show _ ≤ 600130; omega, by show _ ≤ 7301080; omega⟩ dL_law_172 (fun H locs hP hD hS => ?_)
          replace hP : zP g (zXW g hq uq vq ++ zXW g h0 u wo33) H := hP
          replace hD : va_D A (zXW g hq uq vq ++ zXW g h0 u wo33) := hD
          refine lv_istore (lv' := [(8, .int r33), (7, .int r32), (0, .ref b), (1, .ref h0), (2, .ref hq), (4, .int v4), (5, .int v5), (6, .int v6)]) hx hb dL_law_175 hl (by decide) rfl (fun ls hl => ?_)
          refine lv_aload_n hx hb dL_law_177 rfl (lv_at hl 4 rfl) ?_
          refine lv_iload hx hb dL_law_178 (lv_at hl 1 rfl) ?_
          refine lv_ldc hx hb hown (hts _ mL_law_192) dL_law_180 ?_
          refine lv_irem hx hb dL_law_182 (by decide) ?_
          obtain ⟨r34, wq34, e34, h⟩ := zb2 h
          refine zLSc (w := (zXW g hq uq vq ++ zXW g h0 u wo33)) (wr := (zXW g h0 u wo33)) (wc := (zXW g hq uq vq)) (wq := (zXW g hq uq wq34)) (wp := (zXW g hq uq wq34 ++ zXW g h0 u wo33)) (As := [.ref hq, .int (irem r32 (100000))]) (rest := []) (zWi_q g _ _) ⟨hx, hb, hml, hown, hts⟩ (kL_refuses l g hq uq vq (irem r32 (100000)) htr e34) (va_cwS 2 hts gL_law_L_refuses rfl rfl rfl hdS_L_refuses ⟨Nat.le_of_ble_eq_true rfl, Nat.le_of_ble_eq_true rfl⟩) hK hP hD hS hA hAm hN (zXW_fst g hq uq _ _) List.perm_append_comm List.perm_append_comm rfl hl.1 rfl (Nat.le_of_ble_eq_true rfl) ⟨by show _ ≤ 600130; omega, by show _ ≤ 7301080; omega⟩ dL_law_183 (fun H locs hP hD hS => ?_)
          replace hP : zP g (zXW g hq uq wq34 ++ zXW g h0 u wo33) H := hP
          replace hD : va_D A (zXW g hq uq wq34 ++ zXW g h0 u wo33) := hD
          refine lv_if_eq (tgt := 260) hx hb dL_law_186 (by decide) (fun c35 => ?_) (fun c35 => ?_)
          · replace h := zt c35 h
            exact loop_260 (fun y0 y1 y2 y3 y4 => fL_law_147 L xs n y0 y1 y2 y3 y4) (n * 12776 + 0) ih v5 v6 r32 wo33 wq34 _ _ h (by omega) (by omega) H locs hP hD hS ls (lv_sub hl [2, 3, 4, 6, 7, 1] rfl)
          · replace h := zf c35 h
            refine lv_aload_n hx hb dL_law_189 rfl (lv_at hl 4 rfl) ?_
            refine lv_iload hx hb dL_law_190 (lv_at hl 1 rfl) ?_
            obtain ⟨r36, wq36, e36, h⟩ := zb2 h
            refine zLSc (w := (zXW g hq uq wq34 ++ zXW g h0 u wo33)) (wr := (zXW g h0 u wo33)) (wc := (zXW g hq uq wq34)) (wq := (zXW g hq uq wq36)) (wp := (zXW g hq uq wq36 ++ zXW g h0 u wo33)) (As := [.ref hq, .int r32]) (rest := []) (zWi_q g _ _) ⟨hx, hb, hml, hown, hts⟩ (kL_act l g hq uq wq34 r32 htr e36) (va_cwS 2 hts gL_law_L_act rfl rfl rfl hdS_L_act ⟨Nat.le_of_ble_eq_true rfl, Nat.le_of_ble_eq_true rfl⟩) hK hP hD hS hA hAm hN (zXW_fst g hq uq _ _) List.perm_append_comm List.perm_append_comm rfl hl.1 rfl (Nat.le_of_ble_eq_true rfl) ⟨by show _ ≤ 600130; omega, by show _ ≤ 7301080; omega⟩ dL_law_192 (fun H locs hP hD hS => ?_)
            replace hP : zP g (zXW g hq uq wq36 ++ zXW g h0 u wo33) H := hP
            replace hD : va_D A (zXW g hq uq wq36 ++ zXW g h0 u wo33) := hD
            refine lv_iload hx hb dL_law_195 (lv_at hl 0 rfl) ?_
            refine lv_icmp_ne (tgt := 260) hx hb dL_law_197 (by decide) (fun c37 => ?_) (fun c37 => ?_)
            · replace h := zf c37 h
              exact loop_260 (fun y0 y1 y2 y3 y4 => fL_law_147 L xs n y0 y1 y2 y3 y4) (n * 12776 + 0) ih v5 v6 r32 wo33 wq36 _ _ h (by omega) (by omega) H locs hP hD hS ls (lv_sub hl [2, 3, 4, 6, 7, 1] rfl)
            · replace h := zt c37 h
              refine lv_aload_n hx hb dL_law_200 rfl (lv_at hl 4 rfl) ?_
              refine lv_iload hx hb dL_law_201 (lv_at hl 1 rfl) ?_
              refine lv_sipush (v := 1000) hx hb dL_law_203 (by decide) ?_
              refine lv_irem hx hb dL_law_206 (by decide) ?_
              obtain ⟨r38, wq38, e38, h⟩ := zb2 h
              refine zLSc (w := (zXW g hq uq wq36 ++ zXW g h0 u wo33)) (wr := (zXW g h0 u wo33)) (wc := (zXW g hq uq wq36)) (wq := (zXW g hq uq wq38)) (wp := (zXW g hq uq wq38 ++ zXW g h0 u wo33)) (As := [.ref hq, .int (irem r32 1000)]) (rest := []) (zWi_q g _ _) ⟨hx, hb, hml, hown, hts⟩ (kL_refuses l g hq uq wq36 (irem r32 1000) htr e38) (va_cwS 2 hts gL_law_L_refuses rfl rfl rfl hdS_L_refuses ⟨Nat.le_of_ble_eq_true rfl, Nat.le_of_ble_eq_true rfl⟩) hK hP hD hS hA hAm hN (zXW_fst g hq uq _ _) List.perm_append_comm List.perm_append_comm rfl hl.1 rfl (Nat.le_of_ble_eq_true rfl) ⟨by show _ ≤ 600130; omega, by show _ ≤ 7301080; omega⟩ dL_law_207 (fun H locs hP hD hS => ?_)
              replace hP : zP g (zXW g hq uq wq38 ++ zXW g h0 u wo33) H := hP
              replace hD : va_D A (zXW g hq uq wq38 ++ zXW g h0 u wo33) := hD
              refine lv_if_eq (tgt := 260) hx hb dL_law_210 (by decide) (fun c39 => ?_) (fun c39 => ?_)
              · replace h := zt c39 h
                exact loop_260 (fun y0 y1 y2 y3 y4 => fL_law_147 L xs n y0 y1 y2 y3 y4) (n * 12776 + 0) ih v5 v6 r32 wo33 wq38 _ _ h (by omega) (by omega) H locs hP hD hS ls (lv_sub hl [2, 3, 4, 6, 7, 1] rfl)
              · replace h := zf c39 h
                refine lv_aload_n hx hb dL_law_213 rfl (lv_at hl 3 rfl) ?_
                refine lv_aload_n hx hb dL_law_214 rfl (lv_at hl 4 rfl) ?_
                refine lv_iload hx hb dL_law_215 (lv_at hl 1 rfl) ?_
                refine lv_sipush (v := 5000) hx hb dL_law_217 (by decide) ?_
                refine lv_irem hx hb dL_law_220 (by decide) ?_
                obtain ⟨r40, wo40, wq40, e40, h⟩ := zb3 h
                refine zLSc (w := (zXW g hq uq wq38 ++ zXW g h0 u wo33)) (wr := []) (wc := (zXW g hq uq wq38 ++ zXW g h0 u wo33)) (wq := (zXW g hq uq wq40 ++ zXW g h0 u wo40)) (wp := (zXW g hq uq wq40 ++ zXW g h0 u wo40)) (As := [.ref h0, .ref hq, .int (irem r32 5000)]) (rest := []) (zWi_q g _ _) ⟨hx, hb, hml, hown, hts⟩ (kL_alike l g h0 hq u uq wo33 wq38 (irem r32 5000) htr e40) (va_cwS 3 hts gL_law_L_alike rfl rfl rfl hdS_L_alike ⟨Nat.le_of_ble_eq_true rfl, Nat.le_of_ble_eq_true rfl⟩) hK hP hD hS hA hAm hN (zXW_fstq g hq h0 uq u _ _ _ _) (List.Perm.refl _) (List.Perm.refl _) rfl hl.1 rfl (Nat.le_of_ble_eq_true rfl) ⟨by show _ ≤ 600130; omega, by show _ ≤ 7301080; omega⟩ dL_law_221 (fun H locs hP hD hS => ?_)
                replace hP : zP g (zXW g hq uq wq40 ++ zXW g h0 u wo40) H := hP
                replace hD : va_D A (zXW g hq uq wq40 ++ zXW g h0 u wo40) := hD
                refine lv_if_eq (tgt := 260) hx hb dL_law_224 (by decide) (fun c41 => ?_) (fun c41 => ?_)
                · replace h := zt c41 h
                  exact loop_260 (fun y0 y1 y2 y3 y4 => fL_law_147 L xs n y0 y1 y2 y3 y4) (n * 12776 + 0) ih v5 v6 r32 wo40 wq40 _ _ h (by omega) (by omega) H locs hP hD hS ls (lv_sub hl [2, 3, 4, 6, 7, 1] rfl)
                · replace h := zf c41 h
                  refine lv_aload_n hx hb dL_law_227 rfl (lv_at hl 3 rfl) ?_
                  refine lv_iload hx hb dL_law_228 (lv_at hl 1 rfl) ?_
                  refine lv_iconst (v := 3) hx hb dL_law_230 (by decide) ?_
                  refine lv_idiv hx hb dL_law_231 (by decide) ?_
                  obtain ⟨r42, wo42, e42, h⟩ := zb2 h
                  refine zLSc (w := (zXW g hq uq wq40 ++ zXW g h0 u wo40)) (wr := (zXW g hq uq wq40)) (wc := (zXW g h0 u wo40)) (wq := (zXW g h0 u wo42)) (wp := (zXW g hq uq wq40 ++ zXW g h0 u wo42)) (As := [.ref h0, .int (r32 / 3)]) (rest := []) (zWi_q g _ _) ⟨hx, hb, hml, hown, hts⟩ (kL_holds l g h0 u wo40 (r32 / 3) htr e42) (va_cwS 2 hts gL_law_L_holds rfl rfl rfl hdS_L_holds ⟨Nat.le_of_ble_eq_true rfl, Nat.le_of_ble_eq_true rfl⟩) hK hP hD hS hA hAm hN (zXW_fst g h0 u _ _) (List.Perm.refl _) (List.Perm.refl _) rfl hl.1 rfl (Nat.le_of_ble_eq_true rfl) ⟨by show _ ≤ 600130; omega, by show _ ≤ 7301080; omega⟩ dL_law_232 (fun H locs hP hD hS => ?_)
                  replace hP : zP g (zXW g hq uq wq40 ++ zXW g h0 u wo42) H := hP
                  replace hD : va_D A (zXW g hq uq wq40 ++ zXW g h0 u wo42) := hD
                  refine lv_if_eq (tgt := 260) hx hb dL_law_235 (by decide) (fun c43 => ?_) (fun c43 => ?_)
                  · replace h := zt c43 h
                    exact loop_260 (fun y0 y1 y2 y3 y4 => fL_law_147 L xs n y0 y1 y2 y3 y4) (n * 12776 + 0) ih v5 v6 r32 wo42 wq40 _ _ h (by omega) (by omega) H locs hP hD hS ls (lv_sub hl [2, 3, 4, 6, 7, 1] rfl)
                  · replace h := zf c43 h
                    refine lv_iload hx hb dL_law_238 (lv_at hl 1 rfl) ?_
                    refine lv_iconst (v := 3) hx hb dL_law_240 (by decide) ?_
                    refine lv_irem hx hb dL_law_241 (by decide) ?_
                    refine lv_if_gt (tgt := 256) hx hb dL_law_242 (by decide) (fun c44 => ?_) (fun c44 => ?_)
                    · replace h := zt c44 h
                      exact loop_256 (fun y0 y1 y2 y3 y4 => fL_law_147 L xs n y0 y1 y2 y3 y4) (n * 12776 + 0) ih v5 v6 r32 wo42 wq40 _ _ h (by omega) (by omega) H locs hP hD hS ls (lv_sub hl [2, 3, 4, 6, 7, 1] rfl)
                    · replace h := zf c44 h
                      refine lv_aload_n hx hb dL_law_245 rfl (lv_at hl 4 rfl) ?_
                      refine lv_iload hx hb dL_law_246 (lv_at hl 1 rfl) ?_
                      refine lv_iconst (v := 5) hx hb dL_law_248 (by decide) ?_
                      refine lv_idiv hx hb dL_law_249 (by decide) ?_
                      obtain ⟨r45, wq45, e45, h⟩ := zb2 h
                      refine zLSc (w := (zXW g hq uq wq40 ++ zXW g h0 u wo42)) (wr := (zXW g h0 u wo42)) (wc := (zXW g hq uq wq40)) (wq := (zXW g hq uq wq45)) (wp := (zXW g hq uq wq45 ++ zXW g h0 u wo42)) (As := [.ref hq, .int (r32 / 5)]) (rest := []) (zWi_q g _ _) ⟨hx, hb, hml, hown, hts⟩ (kL_holds l g hq uq wq40 (r32 / 5) htr e45) (va_cwS 2 hts gL_law_L_holds rfl rfl rfl hdS_L_holds ⟨Nat.le_of_ble_eq_true rfl, Nat.le_of_ble_eq_true rfl⟩) hK hP hD hS hA hAm hN (zXW_fst g hq uq _ _) List.perm_append_comm List.perm_append_comm rfl hl.1 rfl (Nat.le_of_ble_eq_true rfl) ⟨by show _ ≤ 600130; omega, by show _ ≤ 7301080; omega⟩ dL_law_250 (fun H locs hP hD hS => ?_)
                      replace hP : zP g (zXW g hq uq wq45 ++ zXW g h0 u wo42) H := hP
                      replace hD : va_D A (zXW g hq uq wq45 ++ zXW g h0 u wo42) := hD
                      refine lv_if_eq (tgt := 260) hx hb dL_law_253 (by decide) (fun c46 => ?_) (fun c46 => ?_)
                      · replace h := zt c46 h
                        exact loop_260 (fun y0 y1 y2 y3 y4 => fL_law_147 L xs n y0 y1 y2 y3 y4) (n * 12776 + 0) ih v5 v6 r32 wo42 wq45 _ _ h (by omega) (by omega) H locs hP hD hS ls (lv_sub hl [2, 3, 4, 6, 7, 1] rfl)
                      · replace h := zf c46 h
                        exact loop_256 (fun y0 y1 y2 y3 y4 => fL_law_147 L xs n y0 y1 y2 y3 y4) (n * 12776 + 0) ih v5 v6 r32 wo42 wq45 _ _ h (by omega) (by omega) H locs hP hD hS ls (lv_sub hl [2, 3, 4, 6, 7, 1] rfl)
  have loop_131 : ∀ (v4 : Int32) (vo : zXS) (vq : zXS) (cells slots : Nat), fL_law_131 L xs v4 vo vq = some (1, vo', vq') → cells + Z ≤ 600130 → slots + 6 * Z ≤ 7301080 → ∀ (H : Heap) (locs : List Loc), zP g (zXW g hq uq vq ++ zXW g h0 u vo) H → va_D A (zXW g hq uq vq ++ zXW g h0 u vo) → va_S A s.heap H locs → ∀ (ls : Array Slot), lv_has ls 16 [(0, .ref b), (1, .ref h0), (2, .ref hq), (4, .int v4)] → W p l e room_1 s m #[.ref b] below meth c H locs cells slots Q (F0 m 131 ls []) := by
    intro v4 vo vq cells slots h hc hs H locs hP hD hS ls hl
    unfold fL_law_131 at h
    refine lv_bipush (v := 6) hx hb dL_law_131 (by decide) ?_
    refine lv_aload_n hx hb dL_law_133 rfl (lv_at hl 0 rfl) ?_
    refine lv_iconst (v := 1) hx hb dL_law_134 (by decide) ?_
    obtain ⟨r47, e47, h⟩ := zb h
    refine zLSx (As := [.ref b, .int 1]) (rest := [.int 6]) hX hbl hbA hS (zQi_q _) ⟨hx, hb, hml, hown, hts⟩ (kX_cell l b L xs 1 e47) (va_cwS 2 hts gL_law_L_cell rfl rfl rfl hdS_L_cell ⟨Nat.le_of_ble_eq_true rfl, Nat.le_of_ble_eq_true rfl⟩) rfl hl.1 rfl (Nat.le_of_ble_eq_true rfl) ⟨by show _ ≤ 600130; omega, by show _ ≤ 7301080; omega⟩ dL_law_135 ?_
    refine lv_bipush (v := 13) hx hb dL_law_138 (by decide) ?_
    refine lv_irem hx hb dL_law_140 (by decide) ?_
    refine lv_iadd hx hb dL_law_141 ?_
    refine lv_istore (lv' := [(5, .int (6 + (irem r47 13))), (0, .ref b), (1, .ref h0), (2, .ref hq), (4, .int v4)]) hx hb dL_law_142 hl (by decide) rfl (fun ls hl => ?_)
    refine lv_iconst (v := 0) hx hb dL_law_144 (by decide) ?_
    refine lv_istore (lv' := [(6, .int 0), (5, .int (6 + (irem r47 13))), (0, .ref b), (1, .ref h0), (2, .ref hq), (4, .int v4)]) hx hb dL_law_145 hl (by decide) rfl (fun ls hl => ?_)
    exact loop_147 19 v4 (6 + (irem r47 13)) 0 vo vq _ _ h (by omega) (by omega) H locs hP hD hS ls (lv_sub hl [2, 3, 4, 5, 1, 0] rfl)
  have loop_28 : ∀ (n : Nat) (v3 : Int32) (v4 : Int32) (v5 : Int32) (vo : zXS) (vq : zXS) (cells slots : Nat), fL_law_28 L xs n v3 v4 v5 vo vq = some (1, vo', vq') → cells + (n * 12 + Z) ≤ 600130 → slots + 6 * (n * 12 + Z) ≤ 7301080 → ∀ (H : Heap) (locs : List Loc), zP g (zXW g hq uq vq ++ zXW g h0 u vo) H → va_D A (zXW g hq uq vq ++ zXW g h0 u vo) → va_S A s.heap H locs → ∀ (ls : Array Slot), lv_has ls 16 [(0, .ref b), (1, .ref h0), (2, .ref hq), (3, .int v3), (4, .int v4), (5, .int v5)] → W p l e room_1 s m #[.ref b] below meth c H locs cells slots Q (F0 m 28 ls []) := by
    clear hZ hc hs
    intro n
    induction n with
    | zero => intro v3 v4 v5 vo vq cells slots h; exact zn h
    | succ n ih =>
      intro v3 v4 v5 vo vq cells slots h hc hs H locs hP hD hS ls hl
      rw [fL_law_28] at h
      refine lv_iload hx hb dL_law_28 (lv_at hl 5 rfl) ?_
      refine lv_iconst (v := 3) hx hb dL_law_30 (by decide) ?_
      refine lv_icmp_ge (tgt := 131) hx hb dL_law_31 (by decide) (fun c48 => ?_) (fun c48 => ?_)
      · replace h := zt c48 h
        exact loop_131 v4 vo vq _ _ h (by omega) (by omega) H locs hP hD hS ls (lv_sub hl [0, 1, 2, 4] rfl)
      · replace h := zf c48 h
        refine lv_iload hx hb dL_law_34 (lv_at hl 4 rfl) ?_
        refine lv_if_eq (tgt := 131) hx hb dL_law_36 (by decide) (fun c49 => ?_) (fun c49 => ?_)
        · replace h := zt c49 h
          exact loop_131 v4 vo vq _ _ h (by omega) (by omega) H locs hP hD hS ls (lv_sub hl [0, 1, 2, 4] rfl)
        · replace h := zf c49 h
          refine lv_iload_n hx hb dL_law_39 rfl (lv_at hl 3 rfl) ?_
          refine lv_iconst (v := 1) hx hb dL_law_40 (by decide) ?_
          refine lv_bipush (v := 7) hx hb dL_law_41 (by decide) ?_
          refine lv_iload hx hb dL_law_43 (lv_at hl 5 rfl) ?_
          refine lv_imul hx hb dL_law_45 ?_
          refine lv_iadd hx hb dL_law_46 ?_
          obtain ⟨i50, h⟩ := zi h
          refine lv_idiv hx hb dL_law_47 i50 ?_
          refine lv_sipush (v := 150) hx hb dL_law_48 (by decide) ?_
          refine lv_irem hx hb dL_law_51 (by decide) ?_
          refine lv_istore (lv' := [(6, .int (irem (v3 / (1 + (7 * v5))) 150)), (0, .ref b), (1, .ref h0), (2, .ref hq), (3, .int v3), (4, .int v4), (5, .int v5)]) hx hb dL_law_52 hl (by decide) rfl (fun ls hl => ?_)
          refine lv_aload_n hx hb dL_law_54 rfl (lv_at hl 2 rfl) ?_
          refine lv_bipush (v := 7) hx hb dL_law_55 (by decide) ?_
          refine lv_iload hx hb dL_law_57 (lv_at hl 0 rfl) ?_
          refine lv_bipush (v := 99) hx hb dL_law_59 (by decide) ?_
          refine lv_iconst (v := 0) hx hb dL_law_61 (by decide) ?_
          obtain ⟨r51, wo51, e51, h⟩ := zb2 h
          refine zLSc (w := (zXW g hq uq vq ++ zXW g h0 u vo)) (wr := (zXW g hq uq vq)) (wc := (zXW g h0 u vo)) (wq := (zXW g h0 u wo51)) (wp := (zXW g hq uq vq ++ zXW g h0 u wo51)) (As := [.ref h0, .int 7, .int (irem (v3 / (1 + (7 * v5))) 150), .int 99, .int 0]) (rest := []) (zWi_q g _ _) ⟨hx, hb, hml, hown, hts⟩ (kL_call l g h0 u vo 7 (irem (v3 / (1 + (7 * v5))) 150) 99 0 htr e51) (va_cwS 5 hts gL_law_L_call rfl rfl rfl hdS_L_call ⟨Nat.le_of_ble_eq_true rfl, Nat.le_of_ble_eq_true rfl⟩) hK hP hD hS hA hAm hN (zXW_fst g h0 u _ _) (List.Perm.refl _) (List.Perm.refl _) rfl hl.1 rfl (Nat.le_of_ble_eq_true rfl) ⟨by show _ ≤ 600130; omega, by show _ ≤ 7301080; omega⟩ dL_law_62 (fun H locs hP hD hS => ?_)
          replace hP : zP g (zXW g hq uq vq ++ zXW g h0 u wo51) H := hP
          replace hD : va_D A (zXW g hq uq vq ++ zXW g h0 u wo51) := hD
          refine lv_aload_n hx hb dL_law_65 rfl (lv_at hl 3 rfl) ?_
          refine lv_bipush (v := 7) hx hb dL_law_66 (by decide) ?_
          refine lv_iload hx hb dL_law_68 (lv_at hl 0 rfl) ?_
          refine lv_bipush (v := 99) hx hb dL_law_70 (by decide) ?_
          refine lv_iconst (v := 0) hx hb dL_law_72 (by decide) ?_
          obtain ⟨r52, wq52, e52, h⟩ := zb2 h
          refine zLSc (w := (zXW g hq uq vq ++ zXW g h0 u wo51)) (wr := (zXW g h0 u wo51)) (wc := (zXW g hq uq vq)) (wq := (zXW g hq uq wq52)) (wp := (zXW g hq uq wq52 ++ zXW g h0 u wo51)) (As := [.ref hq, .int 7, .int (irem (v3 / (1 + (7 * v5))) 150), .int 99, .int 0]) (rest := [.int r51]) (zWi_q g _ _) ⟨hx, hb, hml, hown, hts⟩ (kL_call l g hq uq vq 7 (irem (v3 / (1 + (7 * v5))) 150) 99 0 htr e52) (va_cwS 5 hts gL_law_L_call rfl rfl rfl hdS_L_call ⟨Nat.le_of_ble_eq_true rfl, Nat.le_of_ble_eq_true rfl⟩) hK hP hD hS hA hAm hN (zXW_fst g hq uq _ _) List.perm_append_comm List.perm_append_comm rfl hl.1 rfl (Nat.le_of_ble_eq_true rfl) ⟨by show _ ≤ 600130; omega, by show _ ≤ 7301080; omega⟩ dL_law_73 (fun H locs hP hD hS => ?_)
          replace hP : zP g (zXW g hq uq wq52 ++ zXW g h0 u wo51) H := hP
          replace hD : va_D A (zXW g hq uq wq52 ++ zXW g h0 u wo51) := hD
          refine lv_icmp_ne (tgt := 122) hx hb dL_law_76 (by decide) (fun c53 => ?_) (fun c53 => ?_)
          · replace h := zf c53 h
            refine lv_iconst (v := 0) hx hb dL_law_122 (by decide) ?_
            refine lv_istore (lv' := [(4, .int 0), (6, .int (irem (v3 / (1 + (7 * v5))) 150)), (0, .ref b), (1, .ref h0), (2, .ref hq), (3, .int v3), (5, .int v5)]) hx hb dL_law_123 hl (by decide) rfl (fun ls hl => ?_)
            refine lv_iinc (v := (v5 + 1)) (lv' := [(5, .int (v5 + 1)), (4, .int 0), (6, .int (irem (v3 / (1 + (7 * v5))) 150)), (0, .ref b), (1, .ref h0), (2, .ref hq), (3, .int v3)]) hx hb dL_law_125 hl (k := 6) rfl rfl (by decide) rfl (fun ls hl => ?_)
            refine lv_goto (tgt := 28) hx hb dL_law_128 (by decide) ?_
            exact ih v3 0 (v5 + 1) wo51 wq52 _ _ h (by omega) (by omega) H locs hP hD hS ls (lv_sub hl [3, 4, 5, 6, 1, 0] rfl)
          · replace h := zt c53 h
            refine lv_aload_n hx hb dL_law_79 rfl (lv_at hl 2 rfl) ?_
            refine lv_bipush (v := 8) hx hb dL_law_80 (by decide) ?_
            refine lv_iload hx hb dL_law_82 (lv_at hl 0 rfl) ?_
            refine lv_iload hx hb dL_law_84 (lv_at hl 6 rfl) ?_
            refine lv_iadd hx hb dL_law_86 ?_
            refine lv_iconst (v := 1) hx hb dL_law_87 (by decide) ?_
            refine lv_iload_n hx hb dL_law_88 rfl (lv_at hl 4 rfl) ?_
            refine lv_bipush (v := 40) hx hb dL_law_89 (by decide) ?_
            refine lv_irem hx hb dL_law_91 (by decide) ?_
            refine lv_iadd hx hb dL_law_92 ?_
            refine lv_iconst (v := 0) hx hb dL_law_93 (by decide) ?_
            obtain ⟨r54, wo54, e54, h⟩ := zb2 h
            refine zLSc (w := (zXW g hq uq wq52 ++ zXW g h0 u wo51)) (wr := (zXW g hq uq wq52)) (wc := (zXW g h0 u wo51)) (wq := (zXW g h0 u wo54)) (wp := (zXW g hq uq wq52 ++ zXW g h0 u wo54)) (As := [.ref h0, .int 8, .int ((irem (v3 / (1 + (7 * v5))) 150) + v5), .int (1 + (irem v3 40)), .int 0]) (rest := []) (zWi_q g _ _) ⟨hx, hb, hml, hown, hts⟩ (kL_call l g h0 u wo51 8 ((irem (v3 / (1 + (7 * v5))) 150) + v5) (1 + (irem v3 40)) 0 htr e54) (va_cwS 5 hts gL_law_L_call rfl rfl rfl hdS_L_call ⟨Nat.le_of_ble_eq_true rfl, Nat.le_of_ble_eq_true rfl⟩) hK hP hD hS hA hAm hN (zXW_fst g h0 u _ _) (List.Perm.refl _) (List.Perm.refl _) rfl hl.1 rfl (Nat.le_of_ble_eq_true rfl) ⟨by show _ ≤ 600130; omega, by show _ ≤ 7301080; omega⟩ dL_law_94 (fun H locs hP hD hS => ?_)
            replace hP : zP g (zXW g hq uq wq52 ++ zXW g h0 u wo54) H := hP
            replace hD : va_D A (zXW g hq uq wq52 ++ zXW g h0 u wo54) := hD
            refine lv_aload_n hx hb dL_law_97 rfl (lv_at hl 3 rfl) ?_
            refine lv_bipush (v := 8) hx hb dL_law_98 (by decide) ?_
            refine lv_iload hx hb dL_law_100 (lv_at hl 0 rfl) ?_
            refine lv_iload hx hb dL_law_102 (lv_at hl 6 rfl) ?_
            refine lv_iadd hx hb dL_law_104 ?_
            refine lv_iconst (v := 1) hx hb dL_law_105 (by decide) ?_
            refine lv_iload_n hx hb dL_law_106 rfl (lv_at hl 4 rfl) ?_
            refine lv_bipush (v := 40) hx hb dL_law_107 (by decide) ?_
            refine lv_irem hx hb dL_law_109 (by decide) ?_
            refine lv_iadd hx hb dL_law_110 ?_
            refine lv_iconst (v := 0) hx hb dL_law_111 (by decide) ?_
            obtain ⟨r55, wq55, e55, h⟩ := zb2 h
            refine zLSc (w := (zXW g hq uq wq52 ++ zXW g h0 u wo54)) (wr := (zXW g h0 u wo54)) (wc := (zXW g hq uq wq52)) (wq := (zXW g hq uq wq55)) (wp := (zXW g hq uq wq55 ++ zXW g h0 u wo54)) (As := [.ref hq, .int 8, .int ((irem (v3 / (1 + (7 * v5))) 150) + v5), .int (1 + (irem v3 40)), .int 0]) (rest := [.int r54]) (zWi_q g _ _) ⟨hx, hb, hml, hown, hts⟩ (kL_call l g hq uq wq52 8 ((irem (v3 / (1 + (7 * v5))) 150) + v5) (1 + (irem v3 40)) 0 htr e55) (va_cwS 5 hts gL_law_L_call rfl rfl rfl hdS_L_call ⟨Nat.le_of_ble_eq_true rfl, Nat.le_of_ble_eq_true rfl⟩) hK hP hD hS hA hAm hN (zXW_fst g hq uq _ _) List.perm_append_comm List.perm_append_comm rfl hl.1 rfl (Nat.le_of_ble_eq_true rfl) ⟨by show _ ≤ 600130; omega, by show _ ≤ 7301080; omega⟩ dL_law_112 (fun H locs hP hD hS => ?_)
            replace hP : zP g (zXW g hq uq wq55 ++ zXW g h0 u wo54) H := hP
            replace hD : va_D A (zXW g hq uq wq55 ++ zXW g h0 u wo54) := hD
            refine lv_icmp_ne (tgt := 122) hx hb dL_law_115 (by decide) (fun c56 => ?_) (fun c56 => ?_)
            · replace h := zf c56 h
              refine lv_iconst (v := 0) hx hb dL_law_122 (by decide) ?_
              refine lv_istore (lv' := [(4, .int 0), (6, .int (irem (v3 / (1 + (7 * v5))) 150)), (0, .ref b), (1, .ref h0), (2, .ref hq), (3, .int v3), (5, .int v5)]) hx hb dL_law_123 hl (by decide) rfl (fun ls hl => ?_)
              refine lv_iinc (v := (v5 + 1)) (lv' := [(5, .int (v5 + 1)), (4, .int 0), (6, .int (irem (v3 / (1 + (7 * v5))) 150)), (0, .ref b), (1, .ref h0), (2, .ref hq), (3, .int v3)]) hx hb dL_law_125 hl (k := 6) rfl rfl (by decide) rfl (fun ls hl => ?_)
              refine lv_goto (tgt := 28) hx hb dL_law_128 (by decide) ?_
              exact ih v3 0 (v5 + 1) wo54 wq55 _ _ h (by omega) (by omega) H locs hP hD hS ls (lv_sub hl [3, 4, 5, 6, 1, 0] rfl)
            · replace h := zt c56 h
              refine lv_iconst (v := 1) hx hb dL_law_118 (by decide) ?_
              refine lv_goto (tgt := 123) hx hb dL_law_119 (by decide) ?_
              refine lv_istore (lv' := [(4, .int 1), (6, .int (irem (v3 / (1 + (7 * v5))) 150)), (0, .ref b), (1, .ref h0), (2, .ref hq), (3, .int v3), (5, .int v5)]) hx hb dL_law_123 hl (by decide) rfl (fun ls hl => ?_)
              refine lv_iinc (v := (v5 + 1)) (lv' := [(5, .int (v5 + 1)), (4, .int 1), (6, .int (irem (v3 / (1 + (7 * v5))) 150)), (0, .ref b), (1, .ref h0), (2, .ref hq), (3, .int v3)]) hx hb dL_law_125 hl (k := 6) rfl rfl (by decide) rfl (fun ls hl => ?_)
              refine lv_goto (tgt := 28) hx hb dL_law_128 (by decide) ?_
              exact ih v3 1 (v5 + 1) wo54 wq55 _ _ h (by omega) (by omega) H locs hP hD hS ls (lv_sub hl [3, 4, 5, 6, 1, 0] rfl)
  unfold fL_law at h
  refine lv_aload_n hx hb dL_law_16 rfl (lv_at hl 0 rfl) ?_
  refine lv_iconst (v := 0) hx hb dL_law_17 (by decide) ?_
  obtain ⟨r57, e57, h⟩ := zb h
  refine zLSx (As := [.ref b, .int 0]) (rest := []) hX hbl hbA hS (zQi_q _) ⟨hx, hb, hml, hown, hts⟩ (kX_cell l b L xs 0 e57) (va_cwS 2 hts gL_law_L_cell rfl rfl rfl hdS_L_cell ⟨Nat.le_of_ble_eq_true rfl, Nat.le_of_ble_eq_true rfl⟩) rfl hl.1 rfl (Nat.le_of_ble_eq_true rfl) ⟨by show _ ≤ 600130; omega, by show _ ≤ 7301080; omega⟩ dL_law_18 ?_
  refine lv_istore_n (lv' := [(3, .int r57), (0, .ref b), (1, .ref h0), (2, .ref hq)]) hx hb dL_law_21 rfl hl (by decide) rfl (fun ls hl => ?_)
  refine lv_iconst (v := 1) hx hb dL_law_22 (by decide) ?_
  refine lv_istore (lv' := [(4, .int 1), (3, .int r57), (0, .ref b), (1, .ref h0), (2, .ref hq)]) hx hb dL_law_23 hl (by decide) rfl (fun ls hl => ?_)
  refine lv_iconst (v := 0) hx hb dL_law_25 (by decide) ?_
  refine lv_istore (lv' := [(5, .int 0), (4, .int 1), (3, .int r57), (0, .ref b), (1, .ref h0), (2, .ref hq)]) hx hb dL_law_26 hl (by decide) rfl (fun ls hl => ?_)
  exact loop_28 4 r57 1 0 vo vq _ _ h (by omega) (by omega) H locs hP hD hS ls (lv_sub hl [3, 4, 5, 2, 1, 0] rfl)
