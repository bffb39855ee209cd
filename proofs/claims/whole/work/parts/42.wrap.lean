/-! the methods of the law that catch what the program throws -/
theorem hdV_X3_append : yX3_append.cls = RX3 ∧ yX3_append.cls ≠ "java/lang/invoke/MethodHandle" ∧ yX3_append.cls ≠ "java/lang/invoke/VarHandle" ∧ (parseMethodDescriptor yX3_append.desc).map (fun d => d.parameters.length) = some 1 := by decide +kernel
theorem hdS_L_append : yL_append.cls ≠ "java/lang/invoke/MethodHandle" ∧ yL_append.cls ≠ "java/lang/invoke/VarHandle" ∧ (parseMethodDescriptor yL_append.desc).map (fun d => d.parameters.length) = some 3 := by decide +kernel
theorem mL_append_13 : Cond.classLink RL 13 (zE 2) ∈ wsL_append := by decide +kernel
theorem mL_append_15 : Cond.classLink RL 15 (zE 3) ∈ wsL_append := by decide +kernel
set_option maxRecDepth 100000 in
set_option maxHeartbeats 4000000 in
theorem kL_append (l : Launch) (g : zG) (ho h0 : Nat) (X X2 : va_W) (fs : List Value) (f f2 : Nat → Int64) (p0 : Int32) {k r ex : Int32} (hM : Mx l g yX3_append wsX3_append { frames := 6, cells := 1, slots := 6, locals := 82 } [.ref h0, .int p0] X (zXi g X2 k r) (zXx g X2 k) 1 6) (hb0 : X[0]? = some (h0, .inr (3, fs))) (he : X2.map Prod.fst = X.map Prod.fst) (hres : (k = 0 ∧ ex = 0 ∧ f2 = vp_updL f 0 r.toInt64) ∨ (k = 2 ∧ ex = 1 ∧ f2 = f) ∨ (k = 3 ∧ ex = 2 ∧ f2 = f)) : Mn l g yL_append wsL_append { frames := 7, cells := 1, slots := 6, locals := 103 } [.ref h0, .int p0, .ref ho] ((ho, .inl (g.2.2.2.2.2, 1, .inr (.inl f))) :: X) (zWi g ((ho, .inl (g.2.2.2.2.2, 1, .inr (.inl f2))) :: X2) ex) 1 6 := by
  refine zn_in (cc := cL_append) (maxL := 4) (ret := some .int) (hh := [(0, 9, 12, 13), (0, 9, 15, 15)]) (by decide) rfl (Nat.le_of_ble_eq_true rfl) ?_
  intro p e s m below meth c hx hb hr hml hts hown hlocks hK ht hN A hA hP hD hS hAm ls hl
  replace hl : lv_has ls 4 [(0, .ref h0), (1, .int p0), (2, .ref ho)] := hl
  refine lv_aload_n hx hb dL_append_0 rfl (lv_at hl 2 rfl) ?_
  refine lv_iconst (v := 0) hx hb dL_append_1 (by decide) ?_
  refine lv_aload_n hx hb dL_append_2 rfl (lv_at hl 0 rfl) ?_
  refine lv_iload_n hx hb dL_append_3 rfl (lv_at hl 1 rfl) ?_
  refine zL_mid (As := [.int p0]) (tgt := 18) (off := 9) ⟨hx, hb, hml, hown, hts⟩ hr hlocks hM (cwV 1 hts gL_append_X3_append rfl rfl rfl hdV_X3_append ⟨Nat.le_of_ble_eq_true rfl, Nat.le_of_ble_eq_true rfl⟩) hK hP hD hS hA hAm he hb0 rfl hl.1 rfl ⟨Nat.le_of_ble_eq_true rfl, Nat.le_of_ble_eq_true rfl⟩ dL_append_4 dL_append_7 dL_append_8 dL_append_9 (by decide) dL_append_18 dL_append_19 (fun hk => ?_) (fun hk H1 locs1 q ce hP1 hS1 hce hcv hcl => ?_)
  · rcases hres with ⟨-, h2, h3⟩ | ⟨h1, -, -⟩ | ⟨h1, -, -⟩
    · exact ⟨h2, h3⟩
    · rw [h1] at hk; exact absurd hk (by decide)
    · rw [h1] at hk; exact absurd hk (by decide)
  · rcases hres with ⟨h1, -, -⟩ | ⟨rfl, rfl, rfl⟩ | ⟨rfl, rfl, rfl⟩
    · exact absurd h1 hk
    · refine zL_hit (k := 2) hown hAm (by decide +kernel) [] ⟨0, 9, 12, 13⟩ [⟨0, 9, 15, 15⟩] (by rw [ht]; rfl) (fun _ h => absurd h List.not_mem_nil) (by decide) (by decide) (hts _ mL_append_13) hce hcv hcl ?_
      refine lv_astore_n hx hb dL_append_12 rfl hl (by decide) rfl (fun ls hl => ?_)
      refine lv_iconst (v := 1) hx hb dL_append_13 (by decide) ?_
      exact zw_i hx hb hr hlocks hP1 hS1 dL_append_14
    · refine zL_hit (k := 3) hown hAm (by decide +kernel) [⟨0, 9, 12, 13⟩] ⟨0, 9, 15, 15⟩ [] (by rw [ht]; rfl) (fun z hz => by obtain rfl := List.mem_singleton.mp hz; exact Or.inr ⟨by decide, _, hts _ mL_append_13, hN.2.2⟩) (by decide) (by decide) (hts _ mL_append_15) hce hcv hcl ?_
      refine lv_astore_n hx hb dL_append_15 rfl hl (by decide) rfl (fun ls hl => ?_)
      refine lv_iconst (v := 2) hx hb dL_append_16 (by decide) ?_
      exact zw_i hx hb hr hlocks hP1 hS1 dL_append_17
theorem hdV_X3_load : yX3_load.cls = RX3 ∧ yX3_load.cls ≠ "java/lang/invoke/MethodHandle" ∧ yX3_load.cls ≠ "java/lang/invoke/VarHandle" ∧ (parseMethodDescriptor yX3_load.desc).map (fun d => d.parameters.length) = some 0 := by decide +kernel
theorem hdS_L_load : yL_load.cls ≠ "java/lang/invoke/MethodHandle" ∧ yL_load.cls ≠ "java/lang/invoke/VarHandle" ∧ (parseMethodDescriptor yL_load.desc).map (fun d => d.parameters.length) = some 2 := by decide +kernel
theorem mL_load_15 : Cond.classLink RL 15 (zE 3) ∈ wsL_load := by decide +kernel
set_option maxRecDepth 100000 in
set_option maxHeartbeats 4000000 in
theorem kL_load (l : Launch) (g : zG) (ho h0 : Nat) (X X2 : va_W) (fs : List Value) (f f2 : Nat → Int64)  {k r ex : Int32} (hM : Mx l g yX3_load wsX3_load { frames := 6, cells := 1, slots := 6, locals := 145 } [.ref h0] X (zXi g X2 k r) (zXx g X2 k) 1 6) (hb0 : X[0]? = some (h0, .inr (3, fs))) (he : X2.map Prod.fst = X.map Prod.fst) (hres : (k = 0 ∧ ex = 0 ∧ f2 = vp_updL f 0 r.toInt64) ∨ (k = 3 ∧ ex = 1 ∧ f2 = f)) : Mn l g yL_load wsL_load { frames := 7, cells := 1, slots := 6, locals := 167 } [.ref h0, .ref ho] ((ho, .inl (g.2.2.2.2.2, 1, .inr (.inl f))) :: X) (zWi g ((ho, .inl (g.2.2.2.2.2, 1, .inr (.inl f2))) :: X2) ex) 1 6 := by
  refine zn_in (cc := cL_load) (maxL := 3) (ret := some .int) (hh := [(0, 8, 11, 15)]) (by decide) rfl (Nat.le_of_ble_eq_true rfl) ?_
  intro p e s m below meth c hx hb hr hml hts hown hlocks hK ht hN A hA hP hD hS hAm ls hl
  replace hl : lv_has ls 3 [(0, .ref h0), (1, .ref ho)] := hl
  refine lv_aload_n hx hb dL_load_0 rfl (lv_at hl 1 rfl) ?_
  refine lv_iconst (v := 0) hx hb dL_load_1 (by decide) ?_
  refine lv_aload_n hx hb dL_load_2 rfl (lv_at hl 0 rfl) ?_
  refine zL_mid (As := []) (tgt := 14) (off := 6) ⟨hx, hb, hml, hown, hts⟩ hr hlocks hM (cwV 0 hts gL_load_X3_load rfl rfl rfl hdV_X3_load ⟨Nat.le_of_ble_eq_true rfl, Nat.le_of_ble_eq_true rfl⟩) hK hP hD hS hA hAm he hb0 rfl hl.1 rfl ⟨Nat.le_of_ble_eq_true rfl, Nat.le_of_ble_eq_true rfl⟩ dL_load_3 dL_load_6 dL_load_7 dL_load_8 (by decide) dL_load_14 dL_load_15 (fun hk => ?_) (fun hk H1 locs1 q ce hP1 hS1 hce hcv hcl => ?_)
  · rcases hres with ⟨-, h2, h3⟩ | ⟨h1, -, -⟩
    · exact ⟨h2, h3⟩
    · rw [h1] at hk; exact absurd hk (by decide)
  · rcases hres with ⟨h1, -, -⟩ | ⟨rfl, rfl, rfl⟩
    · exact absurd h1 hk
    · refine zL_hit (k := 3) hown hAm (by decide +kernel) [] ⟨0, 8, 11, 15⟩ [] (by rw [ht]; rfl) (fun _ h => absurd h List.not_mem_nil) (by decide) (by decide) (hts _ mL_load_15) hce hcv hcl ?_
      refine lv_astore_n hx hb dL_load_11 rfl hl (by decide) rfl (fun ls hl => ?_)
      refine lv_iconst (v := 1) hx hb dL_load_12 (by decide) ?_
      exact zw_i hx hb hr hlocks hP1 hS1 dL_load_13
theorem hdV_X3_about : yX3_about.cls = RX3 ∧ yX3_about.cls ≠ "java/lang/invoke/MethodHandle" ∧ yX3_about.cls ≠ "java/lang/invoke/VarHandle" ∧ (parseMethodDescriptor yX3_about.desc).map (fun d => d.parameters.length) = some 1 := by decide +kernel
theorem hdS_L_about : yL_about.cls ≠ "java/lang/invoke/MethodHandle" ∧ yL_about.cls ≠ "java/lang/invoke/VarHandle" ∧ (parseMethodDescriptor yL_about.desc).map (fun d => d.parameters.length) = some 3 := by decide +kernel
theorem mL_about_13 : Cond.classLink RL 13 (zE 2) ∈ wsL_about := by decide +kernel
set_option maxRecDepth 100000 in
set_option maxHeartbeats 4000000 in
theorem kL_about (l : Launch) (g : zG) (ho h0 : Nat) (X X2 : va_W) (fs : List Value) (f f2 : Nat → Int64) (p0 : Int32) {k r ex : Int32} (hM : Mx l g yX3_about wsX3_about { frames := 6, cells := 1, slots := 6, locals := 82 } [.ref h0, .int p0] X (zXi g X2 k r) (zXx g X2 k) 1 6) (hb0 : X[0]? = some (h0, .inr (3, fs))) (he : X2.map Prod.fst = X.map Prod.fst) (hres : (k = 0 ∧ ex = 0 ∧ f2 = vp_updL f 0 r.toInt64) ∨ (k = 2 ∧ ex = 1 ∧ f2 = f)) : Mn l g yL_about wsL_about { frames := 7, cells := 1, slots := 6, locals := 103 } [.ref h0, .int p0, .ref ho] ((ho, .inl (g.2.2.2.2.2, 1, .inr (.inl f))) :: X) (zWi g ((ho, .inl (g.2.2.2.2.2, 1, .inr (.inl f2))) :: X2) ex) 1 6 := by
  refine zn_in (cc := cL_about) (maxL := 4) (ret := some .int) (hh := [(0, 9, 12, 13)]) (by decide) rfl (Nat.le_of_ble_eq_true rfl) ?_
  intro p e s m below meth c hx hb hr hml hts hown hlocks hK ht hN A hA hP hD hS hAm ls hl
  replace hl : lv_has ls 4 [(0, .ref h0), (1, .int p0), (2, .ref ho)] := hl
  refine lv_aload_n hx hb dL_about_0 rfl (lv_at hl 2 rfl) ?_
  refine lv_iconst (v := 0) hx hb dL_about_1 (by decide) ?_
  refine lv_aload_n hx hb dL_about_2 rfl (lv_at hl 0 rfl) ?_
  refine lv_iload_n hx hb dL_about_3 rfl (lv_at hl 1 rfl) ?_
  refine zL_mid (As := [.int p0]) (tgt := 15) (off := 6) ⟨hx, hb, hml, hown, hts⟩ hr hlocks hM (cwV 1 hts gL_about_X3_about rfl rfl rfl hdV_X3_about ⟨Nat.le_of_ble_eq_true rfl, Nat.le_of_ble_eq_true rfl⟩) hK hP hD hS hA hAm he hb0 rfl hl.1 rfl ⟨Nat.le_of_ble_eq_true rfl, Nat.le_of_ble_eq_true rfl⟩ dL_about_4 dL_about_7 dL_about_8 dL_about_9 (by decide) dL_about_15 dL_about_16 (fun hk => ?_) (fun hk H1 locs1 q ce hP1 hS1 hce hcv hcl => ?_)
  · rcases hres with ⟨-, h2, h3⟩ | ⟨h1, -, -⟩
    · exact ⟨h2, h3⟩
    · rw [h1] at hk; exact absurd hk (by decide)
  · rcases hres with ⟨h1, -, -⟩ | ⟨rfl, rfl, rfl⟩
    · exact absurd h1 hk
    · refine zL_hit (k := 2) hown hAm (by decide +kernel) [] ⟨0, 9, 12, 13⟩ [] (by rw [ht]; rfl) (fun _ h => absurd h List.not_mem_nil) (by decide) (by decide) (hts _ mL_about_13) hce hcv hcl ?_
      refine lv_astore_n hx hb dL_about_12 rfl hl (by decide) rfl (fun ls hl => ?_)
      refine lv_iconst (v := 1) hx hb dL_about_13 (by decide) ?_
      exact zw_i hx hb hr hlocks hP1 hS1 dL_about_14
theorem hdV_X3_block : yX3_block.cls = RX3 ∧ yX3_block.cls ≠ "java/lang/invoke/MethodHandle" ∧ yX3_block.cls ≠ "java/lang/invoke/VarHandle" ∧ (parseMethodDescriptor yX3_block.desc).map (fun d => d.parameters.length) = some 2 := by decide +kernel
theorem hdS_L_block : yL_block.cls ≠ "java/lang/invoke/MethodHandle" ∧ yL_block.cls ≠ "java/lang/invoke/VarHandle" ∧ (parseMethodDescriptor yL_block.desc).map (fun d => d.parameters.length) = some 4 := by decide +kernel
theorem mL_block_28 : Cond.classLink RL 28 (zE 1) ∈ wsL_block := by decide +kernel
theorem mL_block_13 : Cond.classLink RL 13 (zE 2) ∈ wsL_block := by decide +kernel
set_option maxRecDepth 100000 in
set_option maxHeartbeats 4000000 in
theorem kL_block (l : Launch) (g : zG) (ho h0 : Nat) (X X2 : va_W) (fs : List Value) (f f2 : Nat → Int64) (p0 : Int32) (p1 : Int32) {k r ex : Int32} (hM : Mx l g yX3_block wsX3_block { frames := 7, cells := 2, slots := 12, locals := 102 } [.ref h0, .int p0, .int p1] X (zXi g X2 k r) (zXx g X2 k) 2 12) (hb0 : X[0]? = some (h0, .inr (3, fs))) (he : X2.map Prod.fst = X.map Prod.fst) (hres : (k = 0 ∧ ex = 0 ∧ f2 = vp_updL f 0 r.toInt64) ∨ (k = 1 ∧ ex = 1 ∧ f2 = f) ∨ (k = 2 ∧ ex = 2 ∧ f2 = f)) : Mn l g yL_block wsL_block { frames := 8, cells := 2, slots := 12, locals := 124 } [.ref h0, .int p0, .int p1, .ref ho] ((ho, .inl (g.2.2.2.2.2, 1, .inr (.inl f))) :: X) (zWi g ((ho, .inl (g.2.2.2.2.2, 1, .inr (.inl f2))) :: X2) ex) 2 12 := by
  refine zn_in (cc := cL_block) (maxL := 5) (ret := some .int) (hh := [(0, 10, 13, 28), (0, 10, 17, 13)]) (by decide) rfl (Nat.le_of_ble_eq_true rfl) ?_
  intro p e s m below meth c hx hb hr hml hts hown hlocks hK ht hN A hA hP hD hS hAm ls hl
  replace hl : lv_has ls 5 [(0, .ref h0), (1, .int p0), (2, .int p1), (3, .ref ho)] := hl
  refine lv_aload_n hx hb dL_block_0 rfl (lv_at hl 3 rfl) ?_
  refine lv_iconst (v := 0) hx hb dL_block_1 (by decide) ?_
  refine lv_aload_n hx hb dL_block_2 rfl (lv_at hl 0 rfl) ?_
  refine lv_iload_n hx hb dL_block_3 rfl (lv_at hl 1 rfl) ?_
  refine lv_iload_n hx hb dL_block_4 rfl (lv_at hl 2 rfl) ?_
  refine zL_mid (As := [.int p0, .int p1]) (tgt := 21) (off := 11) ⟨hx, hb, hml, hown, hts⟩ hr hlocks hM (cwV 2 hts gL_block_X3_block rfl rfl rfl hdV_X3_block ⟨Nat.le_of_ble_eq_true rfl, Nat.le_of_ble_eq_true rfl⟩) hK hP hD hS hA hAm he hb0 rfl hl.1 rfl ⟨Nat.le_of_ble_eq_true rfl, Nat.le_of_ble_eq_true rfl⟩ dL_block_5 dL_block_8 dL_block_9 dL_block_10 (by decide) dL_block_21 dL_block_22 (fun hk => ?_) (fun hk H1 locs1 q ce hP1 hS1 hce hcv hcl => ?_)
  · rcases hres with ⟨-, h2, h3⟩ | ⟨h1, -, -⟩ | ⟨h1, -, -⟩
    · exact ⟨h2, h3⟩
    · rw [h1] at hk; exact absurd hk (by decide)
    · rw [h1] at hk; exact absurd hk (by decide)
  · rcases hres with ⟨h1, -, -⟩ | ⟨rfl, rfl, rfl⟩ | ⟨rfl, rfl, rfl⟩
    · exact absurd h1 hk
    · refine zL_hit (k := 1) hown hAm (by decide +kernel) [] ⟨0, 10, 13, 28⟩ [⟨0, 10, 17, 13⟩] (by rw [ht]; rfl) (fun _ h => absurd h List.not_mem_nil) (by decide) (by decide) (hts _ mL_block_28) hce hcv hcl ?_
      refine lv_astore hx hb dL_block_13 hl (by decide) rfl (fun ls hl => ?_)
      refine lv_iconst (v := 1) hx hb dL_block_15 (by decide) ?_
      exact zw_i hx hb hr hlocks hP1 hS1 dL_block_16
    · refine zL_hit (k := 2) hown hAm (by decide +kernel) [⟨0, 10, 13, 28⟩] ⟨0, 10, 17, 13⟩ [] (by rw [ht]; rfl) (fun z hz => by obtain rfl := List.mem_singleton.mp hz; exact Or.inr ⟨by decide, _, hts _ mL_block_28, hN.1⟩) (by decide) (by decide) (hts _ mL_block_13) hce hcv hcl ?_
      refine lv_astore hx hb dL_block_17 hl (by decide) rfl (fun ls hl => ?_)
      refine lv_iconst (v := 2) hx hb dL_block_19 (by decide) ?_
      exact zw_i hx hb hr hlocks hP1 hS1 dL_block_20
theorem hdV_X3_range : yX3_range.cls = RX3 ∧ yX3_range.cls ≠ "java/lang/invoke/MethodHandle" ∧ yX3_range.cls ≠ "java/lang/invoke/VarHandle" ∧ (parseMethodDescriptor yX3_range.desc).map (fun d => d.parameters.length) = some 2 := by decide +kernel
theorem hdS_L_range : yL_range.cls ≠ "java/lang/invoke/MethodHandle" ∧ yL_range.cls ≠ "java/lang/invoke/VarHandle" ∧ (parseMethodDescriptor yL_range.desc).map (fun d => d.parameters.length) = some 4 := by decide +kernel
theorem mL_range_28 : Cond.classLink RL 28 (zE 1) ∈ wsL_range := by decide +kernel
theorem mL_range_13 : Cond.classLink RL 13 (zE 2) ∈ wsL_range := by decide +kernel
set_option maxRecDepth 100000 in
set_option maxHeartbeats 4000000 in
theorem kL_range (l : Launch) (g : zG) (ho h0 : Nat) (X X2 : va_W) (fs : List Value) (f f2 : Nat → Int64) (p0 : Int32) (p1 : Int32) {k r ex : Int32} (hM : Mx l g yX3_range wsX3_range { frames := 6, cells := 1, slots := 6, locals := 82 } [.ref h0, .int p0, .int p1] X (zXi g X2 k r) (zXx g X2 k) 1 6) (hb0 : X[0]? = some (h0, .inr (3, fs))) (he : X2.map Prod.fst = X.map Prod.fst) (hres : (k = 0 ∧ ex = 0 ∧ f2 = vp_updL f 0 r.toInt64) ∨ (k = 1 ∧ ex = 1 ∧ f2 = f) ∨ (k = 2 ∧ ex = 2 ∧ f2 = f)) : Mn l g yL_range wsL_range { frames := 7, cells := 1, slots := 6, locals := 106 } [.ref h0, .int p0, .int p1, .ref ho] ((ho, .inl (g.2.2.2.2.2, 1, .inr (.inl f))) :: X) (zWi g ((ho, .inl (g.2.2.2.2.2, 1, .inr (.inl f2))) :: X2) ex) 1 6 := by
  refine zn_in (cc := cL_range) (maxL := 5) (ret := some .int) (hh := [(0, 10, 13, 28), (0, 10, 17, 13)]) (by decide) rfl (Nat.le_of_ble_eq_true rfl) ?_
  intro p e s m below meth c hx hb hr hml hts hown hlocks hK ht hN A hA hP hD hS hAm ls hl
  replace hl : lv_has ls 5 [(0, .ref h0), (1, .int p0), (2, .int p1), (3, .ref ho)] := hl
  refine lv_aload_n hx hb dL_range_0 rfl (lv_at hl 3 rfl) ?_
  refine lv_iconst (v := 0) hx hb dL_range_1 (by decide) ?_
  refine lv_aload_n hx hb dL_range_2 rfl (lv_at hl 0 rfl) ?_
  refine lv_iload_n hx hb dL_range_3 rfl (lv_at hl 1 rfl) ?_
  refine lv_iload_n hx hb dL_range_4 rfl (lv_at hl 2 rfl) ?_
  refine zL_mid (As := [.int p0, .int p1]) (tgt := 21) (off := 11) ⟨hx, hb, hml, hown, hts⟩ hr hlocks hM (cwV 2 hts gL_range_X3_range rfl rfl rfl hdV_X3_range ⟨Nat.le_of_ble_eq_true rfl, Nat.le_of_ble_eq_true rfl⟩) hK hP hD hS hA hAm he hb0 rfl hl.1 rfl ⟨Nat.le_of_ble_eq_true rfl, Nat.le_of_ble_eq_true rfl⟩ dL_range_5 dL_range_8 dL_range_9 dL_range_10 (by decide) dL_range_21 dL_range_22 (fun hk => ?_) (fun hk H1 locs1 q ce hP1 hS1 hce hcv hcl => ?_)
  · rcases hres with ⟨-, h2, h3⟩ | ⟨h1, -, -⟩ | ⟨h1, -, -⟩
    · exact ⟨h2, h3⟩
    · rw [h1] at hk; exact absurd hk (by decide)
    · rw [h1] at hk; exact absurd hk (by decide)
  · rcases hres with ⟨h1, -, -⟩ | ⟨rfl, rfl, rfl⟩ | ⟨rfl, rfl, rfl⟩
    · exact absurd h1 hk
    · refine zL_hit (k := 1) hown hAm (by decide +kernel) [] ⟨0, 10, 13, 28⟩ [⟨0, 10, 17, 13⟩] (by rw [ht]; rfl) (fun _ h => absurd h List.not_mem_nil) (by decide) (by decide) (hts _ mL_range_28) hce hcv hcl ?_
      refine lv_astore hx hb dL_range_13 hl (by decide) rfl (fun ls hl => ?_)
      refine lv_iconst (v := 1) hx hb dL_range_15 (by decide) ?_
      exact zw_i hx hb hr hlocks hP1 hS1 dL_range_16
    · refine zL_hit (k := 2) hown hAm (by decide +kernel) [⟨0, 10, 13, 28⟩] ⟨0, 10, 17, 13⟩ [] (by rw [ht]; rfl) (fun z hz => by obtain rfl := List.mem_singleton.mp hz; exact Or.inr ⟨by decide, _, hts _ mL_range_28, hN.1⟩) (by decide) (by decide) (hts _ mL_range_13) hce hcv hcl ?_
      refine lv_astore hx hb dL_range_17 hl (by decide) rfl (fun ls hl => ?_)
      refine lv_iconst (v := 2) hx hb dL_range_19 (by decide) ?_
      exact zw_i hx hb hr hlocks hP1 hS1 dL_range_20
theorem hdV_X3_pinned : yX3_pinned.cls = RX3 ∧ yX3_pinned.cls ≠ "java/lang/invoke/MethodHandle" ∧ yX3_pinned.cls ≠ "java/lang/invoke/VarHandle" ∧ (parseMethodDescriptor yX3_pinned.desc).map (fun d => d.parameters.length) = some 2 := by decide +kernel
theorem hdS_L_pinned : yL_pinned.cls ≠ "java/lang/invoke/MethodHandle" ∧ yL_pinned.cls ≠ "java/lang/invoke/VarHandle" ∧ (parseMethodDescriptor yL_pinned.desc).map (fun d => d.parameters.length) = some 4 := by decide +kernel
theorem mL_pinned_28 : Cond.classLink RL 28 (zE 1) ∈ wsL_pinned := by decide +kernel
theorem mL_pinned_13 : Cond.classLink RL 13 (zE 2) ∈ wsL_pinned := by decide +kernel
set_option maxRecDepth 100000 in
set_option maxHeartbeats 4000000 in
theorem kL_pinned (l : Launch) (g : zG) (ho h0 : Nat) (X X2 : va_W) (fs : List Value) (f f2 : Nat → Int64) (p0 : Int32) (p1 : Int32) {k r ex : Int32} (hM : Mx l g yX3_pinned wsX3_pinned { frames := 7, cells := 2, slots := 12, locals := 102 } [.ref h0, .int p0, .int p1] X (zXi g X2 k r) (zXx g X2 k) 2 12) (hb0 : X[0]? = some (h0, .inr (3, fs))) (he : X2.map Prod.fst = X.map Prod.fst) (hres : (k = 0 ∧ ex = 0 ∧ f2 = vp_updL f 0 r.toInt64) ∨ (k = 1 ∧ ex = 1 ∧ f2 = f) ∨ (k = 2 ∧ ex = 2 ∧ f2 = f)) : Mn l g yL_pinned wsL_pinned { frames := 8, cells := 2, slots := 12, locals := 124 } [.ref h0, .int p0, .int p1, .ref ho] ((ho, .inl (g.2.2.2.2.2, 1, .inr (.inl f))) :: X) (zWi g ((ho, .inl (g.2.2.2.2.2, 1, .inr (.inl f2))) :: X2) ex) 2 12 := by
  refine zn_in (cc := cL_pinned) (maxL := 5) (ret := some .int) (hh := [(0, 10, 13, 28), (0, 10, 17, 13)]) (by decide) rfl (Nat.le_of_ble_eq_true rfl) ?_
  intro p e s m below meth c hx hb hr hml hts hown hlocks hK ht hN A hA hP hD hS hAm ls hl
  replace hl : lv_has ls 5 [(0, .ref h0), (1, .int p0), (2, .int p1), (3, .ref ho)] := hl
  refine lv_aload_n hx hb dL_pinned_0 rfl (lv_at hl 3 rfl) ?_
  refine lv_iconst (v := 0) hx hb dL_pinned_1 (by decide) ?_
  refine lv_aload_n hx hb dL_pinned_2 rfl (lv_at hl 0 rfl) ?_
  refine lv_iload_n hx hb dL_pinned_3 rfl (lv_at hl 1 rfl) ?_
  refine lv_iload_n hx hb dL_pinned_4 rfl (lv_at hl 2 rfl) ?_
  refine zL_mid (As := [.int p0, .int p1]) (tgt := 21) (off := 11) ⟨hx, hb, hml, hown, hts⟩ hr hlocks hM (cwV 2 hts gL_pinned_X3_pinned rfl rfl rfl hdV_X3_pinned ⟨Nat.le_of_ble_eq_true rfl, Nat.le_of_ble_eq_true rfl⟩) hK hP hD hS hA hAm he hb0 rfl hl.1 rfl ⟨Nat.le_of_ble_eq_true rfl, Nat.le_of_ble_eq_true rfl⟩ dL_pinned_5 dL_pinned_8 dL_pinned_9 dL_pinned_10 (by decide) dL_pinned_21 dL_pinned_22 (fun hk => ?_) (fun hk H1 locs1 q ce hP1 hS1 hce hcv hcl => ?_)
  · rcases hres with ⟨-, h2, h3⟩ | ⟨h1, -, -⟩ | ⟨h1, -, -⟩
    · exact ⟨h2, h3⟩
    · rw [h1] at hk; exact absurd hk (by decide)
    · rw [h1] at hk; exact absurd hk (by decide)
  · rcases hres with ⟨h1, -, -⟩ | ⟨rfl, rfl, rfl⟩ | ⟨rfl, rfl, rfl⟩
    · exact absurd h1 hk
    · refine zL_hit (k := 1) hown hAm (by decide +kernel) [] ⟨0, 10, 13, 28⟩ [⟨0, 10, 17, 13⟩] (by rw [ht]; rfl) (fun _ h => absurd h List.not_mem_nil) (by decide) (by decide) (hts _ mL_pinned_28) hce hcv hcl ?_
      refine lv_astore hx hb dL_pinned_13 hl (by decide) rfl (fun ls hl => ?_)
      refine lv_iconst (v := 1) hx hb dL_pinned_15 (by decide) ?_
      exact zw_i hx hb hr hlocks hP1 hS1 dL_pinned_16
    · refine zL_hit (k := 2) hown hAm (by decide +kernel) [⟨0, 10, 13, 28⟩] ⟨0, 10, 17, 13⟩ [] (by rw [ht]; rfl) (fun z hz => by obtain rfl := List.mem_singleton.mp hz; exact Or.inr ⟨by decide, _, hts _ mL_pinned_28, hN.1⟩) (by decide) (by decide) (hts _ mL_pinned_13) hce hcv hcl ?_
      refine lv_astore hx hb dL_pinned_17 hl (by decide) rfl (fun ls hl => ?_)
      refine lv_iconst (v := 2) hx hb dL_pinned_19 (by decide) ?_
      exact zw_i hx hb hr hlocks hP1 hS1 dL_pinned_20
theorem hdV_X3_setting : yX3_setting.cls = RX3 ∧ yX3_setting.cls ≠ "java/lang/invoke/MethodHandle" ∧ yX3_setting.cls ≠ "java/lang/invoke/VarHandle" ∧ (parseMethodDescriptor yX3_setting.desc).map (fun d => d.parameters.length) = some 1 := by decide +kernel
theorem hdS_L_setting : yL_setting.cls ≠ "java/lang/invoke/MethodHandle" ∧ yL_setting.cls ≠ "java/lang/invoke/VarHandle" ∧ (parseMethodDescriptor yL_setting.desc).map (fun d => d.parameters.length) = some 3 := by decide +kernel
theorem mL_setting_13 : Cond.classLink RL 13 (zE 2) ∈ wsL_setting := by decide +kernel
set_option maxRecDepth 100000 in
set_option maxHeartbeats 4000000 in
theorem kL_setting (l : Launch) (g : zG) (ho h0 : Nat) (X X2 : va_W) (fs : List Value) (f f2 : Nat → Int64) (p0 : Int32) {k r ex : Int32} (hM : Mx l g yX3_setting wsX3_setting { frames := 6, cells := 1, slots := 6, locals := 82 } [.ref h0, .int p0] X (zXi g X2 k r) (zXx g X2 k) 1 6) (hb0 : X[0]? = some (h0, .inr (3, fs))) (he : X2.map Prod.fst = X.map Prod.fst) (hres : (k = 0 ∧ ex = 0 ∧ f2 = vp_updL f 0 r.toInt64) ∨ (k = 2 ∧ ex = 1 ∧ f2 = f)) : Mn l g yL_setting wsL_setting { frames := 7, cells := 1, slots := 6, locals := 103 } [.ref h0, .int p0, .ref ho] ((ho, .inl (g.2.2.2.2.2, 1, .inr (.inl f))) :: X) (zWi g ((ho, .inl (g.2.2.2.2.2, 1, .inr (.inl f2))) :: X2) ex) 1 6 := by
  refine zn_in (cc := cL_setting) (maxL := 4) (ret := some .int) (hh := [(0, 9, 12, 13)]) (by decide) rfl (Nat.le_of_ble_eq_true rfl) ?_
  intro p e s m below meth c hx hb hr hml hts hown hlocks hK ht hN A hA hP hD hS hAm ls hl
  replace hl : lv_has ls 4 [(0, .ref h0), (1, .int p0), (2, .ref ho)] := hl
  refine lv_aload_n hx hb dL_setting_0 rfl (lv_at hl 2 rfl) ?_
  refine lv_iconst (v := 0) hx hb dL_setting_1 (by decide) ?_
  refine lv_aload_n hx hb dL_setting_2 rfl (lv_at hl 0 rfl) ?_
  refine lv_iload_n hx hb dL_setting_3 rfl (lv_at hl 1 rfl) ?_
  refine zL_mid (As := [.int p0]) (tgt := 15) (off := 6) ⟨hx, hb, hml, hown, hts⟩ hr hlocks hM (cwV 1 hts gL_setting_X3_setting rfl rfl rfl hdV_X3_setting ⟨Nat.le_of_ble_eq_true rfl, Nat.le_of_ble_eq_true rfl⟩) hK hP hD hS hA hAm he hb0 rfl hl.1 rfl ⟨Nat.le_of_ble_eq_true rfl, Nat.le_of_ble_eq_true rfl⟩ dL_setting_4 dL_setting_7 dL_setting_8 dL_setting_9 (by decide) dL_setting_15 dL_setting_16 (fun hk => ?_) (fun hk H1 locs1 q ce hP1 hS1 hce hcv hcl => ?_)
  · rcases hres with ⟨-, h2, h3⟩ | ⟨h1, -, -⟩
    · exact ⟨h2, h3⟩
    · rw [h1] at hk; exact absurd hk (by decide)
  · rcases hres with ⟨h1, -, -⟩ | ⟨rfl, rfl, rfl⟩
    · exact absurd h1 hk
    · refine zL_hit (k := 2) hown hAm (by decide +kernel) [] ⟨0, 9, 12, 13⟩ [] (by rw [ht]; rfl) (fun _ h => absurd h List.not_mem_nil) (by decide) (by decide) (hts _ mL_setting_13) hce hcv hcl ?_
      refine lv_astore_n hx hb dL_setting_12 rfl hl (by decide) rfl (fun ls hl => ?_)
      refine lv_iconst (v := 1) hx hb dL_setting_13 (by decide) ?_
      exact zw_i hx hb hr hlocks hP1 hS1 dL_setting_14
theorem hdV_X3_write : yX3_write.cls = RX3 ∧ yX3_write.cls ≠ "java/lang/invoke/MethodHandle" ∧ yX3_write.cls ≠ "java/lang/invoke/VarHandle" ∧ (parseMethodDescriptor yX3_write.desc).map (fun d => d.parameters.length) = some 2 := by decide +kernel
theorem hdS_L_write : yL_write.cls ≠ "java/lang/invoke/MethodHandle" ∧ yL_write.cls ≠ "java/lang/invoke/VarHandle" ∧ (parseMethodDescriptor yL_write.desc).map (fun d => d.parameters.length) = some 4 := by decide +kernel
theorem mL_write_28 : Cond.classLink RL 28 (zE 1) ∈ wsL_write := by decide +kernel
theorem mL_write_13 : Cond.classLink RL 13 (zE 2) ∈ wsL_write := by decide +kernel
theorem mL_write_15 : Cond.classLink RL 15 (zE 3) ∈ wsL_write := by decide +kernel
set_option maxRecDepth 100000 in
set_option maxHeartbeats 4000000 in
theorem kL_write (l : Launch) (g : zG) (ho h0 : Nat) (X X2 : va_W) (fs : List Value) (f f2 : Nat → Int64) (p0 : Int32) (p1 : Int32) {k r ex : Int32} (hM : Mx l g yX3_write wsX3_write { frames := 8, cells := 2, slots := 12, locals := 123 } [.ref h0, .int p0, .int p1] X (zXi g X2 k r) (zXx g X2 k) 2 12) (hb0 : X[0]? = some (h0, .inr (3, fs))) (he : X2.map Prod.fst = X.map Prod.fst) (hres : (k = 0 ∧ ex = 0 ∧ f2 = vp_updL f 0 r.toInt64) ∨ (k = 1 ∧ ex = 1 ∧ f2 = f) ∨ (k = 2 ∧ ex = 2 ∧ f2 = f) ∨ (k = 3 ∧ ex = 3 ∧ f2 = f)) : Mn l g yL_write wsL_write { frames := 9, cells := 2, slots := 12, locals := 145 } [.ref h0, .int p0, .int p1, .ref ho] ((ho, .inl (g.2.2.2.2.2, 1, .inr (.inl f))) :: X) (zWi g ((ho, .inl (g.2.2.2.2.2, 1, .inr (.inl f2))) :: X2) ex) 2 12 := by
  refine zn_in (cc := cL_write) (maxL := 5) (ret := some .int) (hh := [(0, 10, 13, 28), (0, 10, 17, 13), (0, 10, 21, 15)]) (by decide) rfl (Nat.le_of_ble_eq_true rfl) ?_
  intro p e s m below meth c hx hb hr hml hts hown hlocks hK ht hN A hA hP hD hS hAm ls hl
  replace hl : lv_has ls 5 [(0, .ref h0), (1, .int p0), (2, .int p1), (3, .ref ho)] := hl
  refine lv_aload_n hx hb dL_write_0 rfl (lv_at hl 3 rfl) ?_
  refine lv_iconst (v := 0) hx hb dL_write_1 (by decide) ?_
  refine lv_aload_n hx hb dL_write_2 rfl (lv_at hl 0 rfl) ?_
  refine lv_iload_n hx hb dL_write_3 rfl (lv_at hl 1 rfl) ?_
  refine lv_iload_n hx hb dL_write_4 rfl (lv_at hl 2 rfl) ?_
  refine zL_mid (As := [.int p0, .int p1]) (tgt := 25) (off := 15) ⟨hx, hb, hml, hown, hts⟩ hr hlocks hM (cwV 2 hts gL_write_X3_write rfl rfl rfl hdV_X3_write ⟨Nat.le_of_ble_eq_true rfl, Nat.le_of_ble_eq_true rfl⟩) hK hP hD hS hA hAm he hb0 rfl hl.1 rfl ⟨Nat.le_of_ble_eq_true rfl, Nat.le_of_ble_eq_true rfl⟩ dL_write_5 dL_write_8 dL_write_9 dL_write_10 (by decide) dL_write_25 dL_write_26 (fun hk => ?_) (fun hk H1 locs1 q ce hP1 hS1 hce hcv hcl => ?_)
  · rcases hres with ⟨-, h2, h3⟩ | ⟨h1, -, -⟩ | ⟨h1, -, -⟩ | ⟨h1, -, -⟩
    · exact ⟨h2, h3⟩
    · rw [h1] at hk; exact absurd hk (by decide)
    · rw [h1] at hk; exact absurd hk (by decide)
    · rw [h1] at hk; exact absurd hk (by decide)
  · rcases hres with ⟨h1, -, -⟩ | ⟨rfl, rfl, rfl⟩ | ⟨rfl, rfl, rfl⟩ | ⟨rfl, rfl, rfl⟩
    · exact absurd h1 hk
    · refine zL_hit (k := 1) hown hAm (by decide +kernel) [] ⟨0, 10, 13, 28⟩ [⟨0, 10, 17, 13⟩, ⟨0, 10, 21, 15⟩] (by rw [ht]; rfl) (fun _ h => absurd h List.not_mem_nil) (by decide) (by decide) (hts _ mL_write_28) hce hcv hcl ?_
      refine lv_astore hx hb dL_write_13 hl (by decide) rfl (fun ls hl => ?_)
      refine lv_iconst (v := 1) hx hb dL_write_15 (by decide) ?_
      exact zw_i hx hb hr hlocks hP1 hS1 dL_write_16
    · refine zL_hit (k := 2) hown hAm (by decide +kernel) [⟨0, 10, 13, 28⟩] ⟨0, 10, 17, 13⟩ [⟨0, 10, 21, 15⟩] (by rw [ht]; rfl) (fun z hz => by obtain rfl := List.mem_singleton.mp hz; exact Or.inr ⟨by decide, _, hts _ mL_write_28, hN.1⟩) (by decide) (by decide) (hts _ mL_write_13) hce hcv hcl ?_
      refine lv_astore hx hb dL_write_17 hl (by decide) rfl (fun ls hl => ?_)
      refine lv_iconst (v := 2) hx hb dL_write_19 (by decide) ?_
      exact zw_i hx hb hr hlocks hP1 hS1 dL_write_20
    · refine zL_hit (k := 3) hown hAm (by decide +kernel) [⟨0, 10, 13, 28⟩, ⟨0, 10, 17, 13⟩] ⟨0, 10, 21, 15⟩ [] (by rw [ht]; rfl) (fun z hz => by
        rcases List.mem_cons.mp hz with rfl | hz
        · exact Or.inr ⟨by decide, _, hts _ mL_write_28, hN.2.1⟩
        · obtain rfl := List.mem_singleton.mp hz; exact Or.inr ⟨by decide, _, hts _ mL_write_13, hN.2.2⟩) (by decide) (by decide) (hts _ mL_write_15) hce hcv hcl ?_
      refine lv_astore hx hb dL_write_21 hl (by decide) rfl (fun ls hl => ?_)
      refine lv_iconst (v := 3) hx hb dL_write_23 (by decide) ?_
      exact zw_i hx hb hr hlocks hP1 hS1 dL_write_24
theorem hdV_X3_free : yX3_free.cls = RX3 ∧ yX3_free.cls ≠ "java/lang/invoke/MethodHandle" ∧ yX3_free.cls ≠ "java/lang/invoke/VarHandle" ∧ (parseMethodDescriptor yX3_free.desc).map (fun d => d.parameters.length) = some 2 := by decide +kernel
theorem hdS_L_free : yL_free.cls ≠ "java/lang/invoke/MethodHandle" ∧ yL_free.cls ≠ "java/lang/invoke/VarHandle" ∧ (parseMethodDescriptor yL_free.desc).map (fun d => d.parameters.length) = some 4 := by decide +kernel
theorem mL_free_28 : Cond.classLink RL 28 (zE 1) ∈ wsL_free := by decide +kernel
theorem mL_free_13 : Cond.classLink RL 13 (zE 2) ∈ wsL_free := by decide +kernel
theorem mL_free_15 : Cond.classLink RL 15 (zE 3) ∈ wsL_free := by decide +kernel
set_option maxRecDepth 100000 in
set_option maxHeartbeats 4000000 in
theorem kL_free (l : Launch) (g : zG) (ho h0 : Nat) (X X2 : va_W) (fs : List Value) (f f2 : Nat → Int64) (p0 : Int32) (p1 : Int32) {k r ex : Int32} (hM : Mx l g yX3_free wsX3_free { frames := 8, cells := 2, slots := 12, locals := 123 } [.ref h0, .int p0, .int p1] X (zXi g X2 k r) (zXx g X2 k) 2 12) (hb0 : X[0]? = some (h0, .inr (3, fs))) (he : X2.map Prod.fst = X.map Prod.fst) (hres : (k = 0 ∧ ex = 0 ∧ f2 = vp_updL f 0 r.toInt64) ∨ (k = 1 ∧ ex = 1 ∧ f2 = f) ∨ (k = 2 ∧ ex = 2 ∧ f2 = f) ∨ (k = 3 ∧ ex = 3 ∧ f2 = f)) : Mn l g yL_free wsL_free { frames := 9, cells := 2, slots := 12, locals := 145 } [.ref h0, .int p0, .int p1, .ref ho] ((ho, .inl (g.2.2.2.2.2, 1, .inr (.inl f))) :: X) (zWi g ((ho, .inl (g.2.2.2.2.2, 1, .inr (.inl f2))) :: X2) ex) 2 12 := by
  refine zn_in (cc := cL_free) (maxL := 5) (ret := some .int) (hh := [(0, 10, 13, 28), (0, 10, 17, 13), (0, 10, 21, 15)]) (by decide) rfl (Nat.le_of_ble_eq_true rfl) ?_
  intro p e s m below meth c hx hb hr hml hts hown hlocks hK ht hN A hA hP hD hS hAm ls hl
  replace hl : lv_has ls 5 [(0, .ref h0), (1, .int p0), (2, .int p1), (3, .ref ho)] := hl
  refine lv_aload_n hx hb dL_free_0 rfl (lv_at hl 3 rfl) ?_
  refine lv_iconst (v := 0) hx hb dL_free_1 (by decide) ?_
  refine lv_aload_n hx hb dL_free_2 rfl (lv_at hl 0 rfl) ?_
  refine lv_iload_n hx hb dL_free_3 rfl (lv_at hl 1 rfl) ?_
  refine lv_iload_n hx hb dL_free_4 rfl (lv_at hl 2 rfl) ?_
  refine zL_mid (As := [.int p0, .int p1]) (tgt := 25) (off := 15) ⟨hx, hb, hml, hown, hts⟩ hr hlocks hM (cwV 2 hts gL_free_X3_free rfl rfl rfl hdV_X3_free ⟨Nat.le_of_ble_eq_true rfl, Nat.le_of_ble_eq_true rfl⟩) hK hP hD hS hA hAm he hb0 rfl hl.1 rfl ⟨Nat.le_of_ble_eq_true rfl, Nat.le_of_ble_eq_true rfl⟩ dL_free_5 dL_free_8 dL_free_9 dL_free_10 (by decide) dL_free_25 dL_free_26 (fun hk => ?_) (fun hk H1 locs1 q ce hP1 hS1 hce hcv hcl => ?_)
  · rcases hres with ⟨-, h2, h3⟩ | ⟨h1, -, -⟩ | ⟨h1, -, -⟩ | ⟨h1, -, -⟩
    · exact ⟨h2, h3⟩
    · rw [h1] at hk; exact absurd hk (by decide)
    · rw [h1] at hk; exact absurd hk (by decide)
    · rw [h1] at hk; exact absurd hk (by decide)
  · rcases hres with ⟨h1, -, -⟩ | ⟨rfl, rfl, rfl⟩ | ⟨rfl, rfl, rfl⟩ | ⟨rfl, rfl, rfl⟩
    · exact absurd h1 hk
    · refine zL_hit (k := 1) hown hAm (by decide +kernel) [] ⟨0, 10, 13, 28⟩ [⟨0, 10, 17, 13⟩, ⟨0, 10, 21, 15⟩] (by rw [ht]; rfl) (fun _ h => absurd h List.not_mem_nil) (by decide) (by decide) (hts _ mL_free_28) hce hcv hcl ?_
      refine lv_astore hx hb dL_free_13 hl (by decide) rfl (fun ls hl => ?_)
      refine lv_iconst (v := 1) hx hb dL_free_15 (by decide) ?_
      exact zw_i hx hb hr hlocks hP1 hS1 dL_free_16
    · refine zL_hit (k := 2) hown hAm (by decide +kernel) [⟨0, 10, 13, 28⟩] ⟨0, 10, 17, 13⟩ [⟨0, 10, 21, 15⟩] (by rw [ht]; rfl) (fun z hz => by obtain rfl := List.mem_singleton.mp hz; exact Or.inr ⟨by decide, _, hts _ mL_free_28, hN.1⟩) (by decide) (by decide) (hts _ mL_free_13) hce hcv hcl ?_
      refine lv_astore hx hb dL_free_17 hl (by decide) rfl (fun ls hl => ?_)
      refine lv_iconst (v := 2) hx hb dL_free_19 (by decide) ?_
      exact zw_i hx hb hr hlocks hP1 hS1 dL_free_20
    · refine zL_hit (k := 3) hown hAm (by decide +kernel) [⟨0, 10, 13, 28⟩, ⟨0, 10, 17, 13⟩] ⟨0, 10, 21, 15⟩ [] (by rw [ht]; rfl) (fun z hz => by
        rcases List.mem_cons.mp hz with rfl | hz
        · exact Or.inr ⟨by decide, _, hts _ mL_free_28, hN.2.1⟩
        · obtain rfl := List.mem_singleton.mp hz; exact Or.inr ⟨by decide, _, hts _ mL_free_13, hN.2.2⟩) (by decide) (by decide) (hts _ mL_free_15) hce hcv hcl ?_
      refine lv_astore hx hb dL_free_21 hl (by decide) rfl (fun ls hl => ?_)
      refine lv_iconst (v := 3) hx hb dL_free_23 (by decide) ?_
      exact zw_i hx hb hr hlocks hP1 hS1 dL_free_24
theorem hdV_X3_pin : yX3_pin.cls = RX3 ∧ yX3_pin.cls ≠ "java/lang/invoke/MethodHandle" ∧ yX3_pin.cls ≠ "java/lang/invoke/VarHandle" ∧ (parseMethodDescriptor yX3_pin.desc).map (fun d => d.parameters.length) = some 3 := by decide +kernel
theorem hdS_L_pin : yL_pin.cls ≠ "java/lang/invoke/MethodHandle" ∧ yL_pin.cls ≠ "java/lang/invoke/VarHandle" ∧ (parseMethodDescriptor yL_pin.desc).map (fun d => d.parameters.length) = some 5 := by decide +kernel
theorem mL_pin_28 : Cond.classLink RL 28 (zE 1) ∈ wsL_pin := by decide +kernel
theorem mL_pin_13 : Cond.classLink RL 13 (zE 2) ∈ wsL_pin := by decide +kernel
theorem mL_pin_15 : Cond.classLink RL 15 (zE 3) ∈ wsL_pin := by decide +kernel
set_option maxRecDepth 100000 in
set_option maxHeartbeats 4000000 in
theorem kL_pin (l : Launch) (g : zG) (ho h0 : Nat) (X X2 : va_W) (fs : List Value) (f f2 : Nat → Int64) (p0 : Int32) (p1 : Int32) (p2 : Int32) {k r ex : Int32} (hM : Mx l g yX3_pin wsX3_pin { frames := 8, cells := 3, slots := 18, locals := 123 } [.ref h0, .int p0, .int p1, .int p2] X (zXi g X2 k r) (zXx g X2 k) 3 18) (hb0 : X[0]? = some (h0, .inr (3, fs))) (he : X2.map Prod.fst = X.map Prod.fst) (hres : (k = 0 ∧ ex = 0 ∧ f2 = vp_updL f 0 r.toInt64) ∨ (k = 1 ∧ ex = 1 ∧ f2 = f) ∨ (k = 2 ∧ ex = 2 ∧ f2 = f) ∨ (k = 3 ∧ ex = 3 ∧ f2 = f)) : Mn l g yL_pin wsL_pin { frames := 9, cells := 3, slots := 18, locals := 146 } [.ref h0, .int p0, .int p1, .int p2, .ref ho] ((ho, .inl (g.2.2.2.2.2, 1, .inr (.inl f))) :: X) (zWi g ((ho, .inl (g.2.2.2.2.2, 1, .inr (.inl f2))) :: X2) ex) 3 18 := by
  refine zn_in (cc := cL_pin) (maxL := 6) (ret := some .int) (hh := [(0, 12, 15, 28), (0, 12, 19, 13), (0, 12, 23, 15)]) (by decide) rfl (Nat.le_of_ble_eq_true rfl) ?_
  intro p e s m below meth c hx hb hr hml hts hown hlocks hK ht hN A hA hP hD hS hAm ls hl
  replace hl : lv_has ls 6 [(0, .ref h0), (1, .int p0), (2, .int p1), (3, .int p2), (4, .ref ho)] := hl
  refine lv_aload hx hb dL_pin_0 (lv_at hl 4 rfl) ?_
  refine lv_iconst (v := 0) hx hb dL_pin_2 (by decide) ?_
  refine lv_aload_n hx hb dL_pin_3 rfl (lv_at hl 0 rfl) ?_
  refine lv_iload_n hx hb dL_pin_4 rfl (lv_at hl 1 rfl) ?_
  refine lv_iload_n hx hb dL_pin_5 rfl (lv_at hl 2 rfl) ?_
  refine lv_iload_n hx hb dL_pin_6 rfl (lv_at hl 3 rfl) ?_
  refine zL_mid (As := [.int p0, .int p1, .int p2]) (tgt := 27) (off := 15) ⟨hx, hb, hml, hown, hts⟩ hr hlocks hM (cwV 3 hts gL_pin_X3_pin rfl rfl rfl hdV_X3_pin ⟨Nat.le_of_ble_eq_true rfl, Nat.le_of_ble_eq_true rfl⟩) hK hP hD hS hA hAm he hb0 rfl hl.1 rfl ⟨Nat.le_of_ble_eq_true rfl, Nat.le_of_ble_eq_true rfl⟩ dL_pin_7 dL_pin_10 dL_pin_11 dL_pin_12 (by decide) dL_pin_27 dL_pin_28 (fun hk => ?_) (fun hk H1 locs1 q ce hP1 hS1 hce hcv hcl => ?_)
  · rcases hres with ⟨-, h2, h3⟩ | ⟨h1, -, -⟩ | ⟨h1, -, -⟩ | ⟨h1, -, -⟩
    · exact ⟨h2, h3⟩
    · rw [h1] at hk; exact absurd hk (by decide)
    · rw [h1] at hk; exact absurd hk (by decide)
    · rw [h1] at hk; exact absurd hk (by decide)
  · rcases hres with ⟨h1, -, -⟩ | ⟨rfl, rfl, rfl⟩ | ⟨rfl, rfl, rfl⟩ | ⟨rfl, rfl, rfl⟩
    · exact absurd h1 hk
    · refine zL_hit (k := 1) hown hAm (by decide +kernel) [] ⟨0, 12, 15, 28⟩ [⟨0, 12, 19, 13⟩, ⟨0, 12, 23, 15⟩] (by rw [ht]; rfl) (fun _ h => absurd h List.not_mem_nil) (by decide) (by decide) (hts _ mL_pin_28) hce hcv hcl ?_
      refine lv_astore hx hb dL_pin_15 hl (by decide) rfl (fun ls hl => ?_)
      refine lv_iconst (v := 1) hx hb dL_pin_17 (by decide) ?_
      exact zw_i hx hb hr hlocks hP1 hS1 dL_pin_18
    · refine zL_hit (k := 2) hown hAm (by decide +kernel) [⟨0, 12, 15, 28⟩] ⟨0, 12, 19, 13⟩ [⟨0, 12, 23, 15⟩] (by rw [ht]; rfl) (fun z hz => by obtain rfl := List.mem_singleton.mp hz; exact Or.inr ⟨by decide, _, hts _ mL_pin_28, hN.1⟩) (by decide) (by decide) (hts _ mL_pin_13) hce hcv hcl ?_
      refine lv_astore hx hb dL_pin_19 hl (by decide) rfl (fun ls hl => ?_)
      refine lv_iconst (v := 2) hx hb dL_pin_21 (by decide) ?_
      exact zw_i hx hb hr hlocks hP1 hS1 dL_pin_22
    · refine zL_hit (k := 3) hown hAm (by decide +kernel) [⟨0, 12, 15, 28⟩, ⟨0, 12, 19, 13⟩] ⟨0, 12, 23, 15⟩ [] (by rw [ht]; rfl) (fun z hz => by
        rcases List.mem_cons.mp hz with rfl | hz
        · exact Or.inr ⟨by decide, _, hts _ mL_pin_28, hN.2.1⟩
        · obtain rfl := List.mem_singleton.mp hz; exact Or.inr ⟨by decide, _, hts _ mL_pin_13, hN.2.2⟩) (by decide) (by decide) (hts _ mL_pin_15) hce hcv hcl ?_
      refine lv_astore hx hb dL_pin_23 hl (by decide) rfl (fun ls hl => ?_)
      refine lv_iconst (v := 3) hx hb dL_pin_25 (by decide) ?_
      exact zw_i hx hb hr hlocks hP1 hS1 dL_pin_26
theorem hdV_X3_unpin : yX3_unpin.cls = RX3 ∧ yX3_unpin.cls ≠ "java/lang/invoke/MethodHandle" ∧ yX3_unpin.cls ≠ "java/lang/invoke/VarHandle" ∧ (parseMethodDescriptor yX3_unpin.desc).map (fun d => d.parameters.length) = some 1 := by decide +kernel
theorem hdS_L_unpin : yL_unpin.cls ≠ "java/lang/invoke/MethodHandle" ∧ yL_unpin.cls ≠ "java/lang/invoke/VarHandle" ∧ (parseMethodDescriptor yL_unpin.desc).map (fun d => d.parameters.length) = some 3 := by decide +kernel
theorem mL_unpin_28 : Cond.classLink RL 28 (zE 1) ∈ wsL_unpin := by decide +kernel
theorem mL_unpin_15 : Cond.classLink RL 15 (zE 3) ∈ wsL_unpin := by decide +kernel
set_option maxRecDepth 100000 in
set_option maxHeartbeats 4000000 in
theorem kL_unpin (l : Launch) (g : zG) (ho h0 : Nat) (X X2 : va_W) (fs : List Value) (f f2 : Nat → Int64) (p0 : Int32) {k r ex : Int32} (hM : Mx l g yX3_unpin wsX3_unpin { frames := 7, cells := 2, slots := 12, locals := 102 } [.ref h0, .int p0] X (zXi g X2 k r) (zXx g X2 k) 2 12) (hb0 : X[0]? = some (h0, .inr (3, fs))) (he : X2.map Prod.fst = X.map Prod.fst) (hres : (k = 0 ∧ ex = 0 ∧ f2 = vp_updL f 0 r.toInt64) ∨ (k = 1 ∧ ex = 1 ∧ f2 = f) ∨ (k = 3 ∧ ex = 2 ∧ f2 = f)) : Mn l g yL_unpin wsL_unpin { frames := 8, cells := 2, slots := 12, locals := 123 } [.ref h0, .int p0, .ref ho] ((ho, .inl (g.2.2.2.2.2, 1, .inr (.inl f))) :: X) (zWi g ((ho, .inl (g.2.2.2.2.2, 1, .inr (.inl f2))) :: X2) ex) 2 12 := by
  refine zn_in (cc := cL_unpin) (maxL := 4) (ret := some .int) (hh := [(0, 9, 12, 28), (0, 9, 15, 15)]) (by decide) rfl (Nat.le_of_ble_eq_true rfl) ?_
  intro p e s m below meth c hx hb hr hml hts hown hlocks hK ht hN A hA hP hD hS hAm ls hl
  replace hl : lv_has ls 4 [(0, .ref h0), (1, .int p0), (2, .ref ho)] := hl
  refine lv_aload_n hx hb dL_unpin_0 rfl (lv_at hl 2 rfl) ?_
  refine lv_iconst (v := 0) hx hb dL_unpin_1 (by decide) ?_
  refine lv_aload_n hx hb dL_unpin_2 rfl (lv_at hl 0 rfl) ?_
  refine lv_iload_n hx hb dL_unpin_3 rfl (lv_at hl 1 rfl) ?_
  refine zL_mid (As := [.int p0]) (tgt := 18) (off := 9) ⟨hx, hb, hml, hown, hts⟩ hr hlocks hM (cwV 1 hts gL_unpin_X3_unpin rfl rfl rfl hdV_X3_unpin ⟨Nat.le_of_ble_eq_true rfl, Nat.le_of_ble_eq_true rfl⟩) hK hP hD hS hA hAm he hb0 rfl hl.1 rfl ⟨Nat.le_of_ble_eq_true rfl, Nat.le_of_ble_eq_true rfl⟩ dL_unpin_4 dL_unpin_7 dL_unpin_8 dL_unpin_9 (by decide) dL_unpin_18 dL_unpin_19 (fun hk => ?_) (fun hk H1 locs1 q ce hP1 hS1 hce hcv hcl => ?_)
  · rcases hres with ⟨-, h2, h3⟩ | ⟨h1, -, -⟩ | ⟨h1, -, -⟩
    · exact ⟨h2, h3⟩
    · rw [h1] at hk; exact absurd hk (by decide)
    · rw [h1] at hk; exact absurd hk (by decide)
  · rcases hres with ⟨h1, -, -⟩ | ⟨rfl, rfl, rfl⟩ | ⟨rfl, rfl, rfl⟩
    · exact absurd h1 hk
    · refine zL_hit (k := 1) hown hAm (by decide +kernel) [] ⟨0, 9, 12, 28⟩ [⟨0, 9, 15, 15⟩] (by rw [ht]; rfl) (fun _ h => absurd h List.not_mem_nil) (by decide) (by decide) (hts _ mL_unpin_28) hce hcv hcl ?_
      refine lv_astore_n hx hb dL_unpin_12 rfl hl (by decide) rfl (fun ls hl => ?_)
      refine lv_iconst (v := 1) hx hb dL_unpin_13 (by decide) ?_
      exact zw_i hx hb hr hlocks hP1 hS1 dL_unpin_14
    · refine zL_hit (k := 3) hown hAm (by decide +kernel) [⟨0, 9, 12, 28⟩] ⟨0, 9, 15, 15⟩ [] (by rw [ht]; rfl) (fun z hz => by obtain rfl := List.mem_singleton.mp hz; exact Or.inr ⟨by decide, _, hts _ mL_unpin_28, hN.2.1⟩) (by decide) (by decide) (hts _ mL_unpin_15) hce hcv hcl ?_
      refine lv_astore_n hx hb dL_unpin_15 rfl hl (by decide) rfl (fun ls hl => ?_)
      refine lv_iconst (v := 2) hx hb dL_unpin_16 (by decide) ?_
      exact zw_i hx hb hr hlocks hP1 hS1 dL_unpin_17
theorem hdV_X3_run : yX3_run.cls = RX3 ∧ yX3_run.cls ≠ "java/lang/invoke/MethodHandle" ∧ yX3_run.cls ≠ "java/lang/invoke/VarHandle" ∧ (parseMethodDescriptor yX3_run.desc).map (fun d => d.parameters.length) = some 1 := by decide +kernel
theorem hdS_L_run : yL_run.cls ≠ "java/lang/invoke/MethodHandle" ∧ yL_run.cls ≠ "java/lang/invoke/VarHandle" ∧ (parseMethodDescriptor yL_run.desc).map (fun d => d.parameters.length) = some 3 := by decide +kernel
theorem mL_run_13 : Cond.classLink RL 13 (zE 2) ∈ wsL_run := by decide +kernel
set_option maxRecDepth 100000 in
set_option maxHeartbeats 4000000 in
theorem kL_run (l : Launch) (g : zG) (ho h0 : Nat) (X X2 : va_W) (fs : List Value) (f f2 : Nat → Int64) (p0 : Int32) {k r ex : Int32} (hM : Mx l g yX3_run wsX3_run { frames := 7, cells := 1, slots := 6, locals := 123 } [.ref h0, .int p0] X (zXi g X2 k r) (zXx g X2 k) 1 6) (hb0 : X[0]? = some (h0, .inr (3, fs))) (he : X2.map Prod.fst = X.map Prod.fst) (hres : (k = 0 ∧ ex = 0 ∧ f2 = vp_updL f 0 r.toInt64) ∨ (k = 2 ∧ ex = 1 ∧ f2 = f)) : Mn l g yL_run wsL_run { frames := 8, cells := 1, slots := 6, locals := 144 } [.ref h0, .int p0, .ref ho] ((ho, .inl (g.2.2.2.2.2, 1, .inr (.inl f))) :: X) (zWi g ((ho, .inl (g.2.2.2.2.2, 1, .inr (.inl f2))) :: X2) ex) 1 6 := by
  refine zn_in (cc := cL_run) (maxL := 4) (ret := some .int) (hh := [(0, 9, 12, 13)]) (by decide) rfl (Nat.le_of_ble_eq_true rfl) ?_
  intro p e s m below meth c hx hb hr hml hts hown hlocks hK ht hN A hA hP hD hS hAm ls hl
  replace hl : lv_has ls 4 [(0, .ref h0), (1, .int p0), (2, .ref ho)] := hl
  refine lv_aload_n hx hb dL_run_0 rfl (lv_at hl 2 rfl) ?_
  refine lv_iconst (v := 0) hx hb dL_run_1 (by decide) ?_
  refine lv_aload_n hx hb dL_run_2 rfl (lv_at hl 0 rfl) ?_
  refine lv_iload_n hx hb dL_run_3 rfl (lv_at hl 1 rfl) ?_
  refine zL_mid (As := [.int p0]) (tgt := 15) (off := 6) ⟨hx, hb, hml, hown, hts⟩ hr hlocks hM (cwV 1 hts gL_run_X3_run rfl rfl rfl hdV_X3_run ⟨Nat.le_of_ble_eq_true rfl, Nat.le_of_ble_eq_true rfl⟩) hK hP hD hS hA hAm he hb0 rfl hl.1 rfl ⟨Nat.le_of_ble_eq_true rfl, Nat.le_of_ble_eq_true rfl⟩ dL_run_4 dL_run_7 dL_run_8 dL_run_9 (by decide) dL_run_15 dL_run_16 (fun hk => ?_) (fun hk H1 locs1 q ce hP1 hS1 hce hcv hcl => ?_)
  · rcases hres with ⟨-, h2, h3⟩ | ⟨h1, -, -⟩
    · exact ⟨h2, h3⟩
    · rw [h1] at hk; exact absurd hk (by decide)
  · rcases hres with ⟨h1, -, -⟩ | ⟨rfl, rfl, rfl⟩
    · exact absurd h1 hk
    · refine zL_hit (k := 2) hown hAm (by decide +kernel) [] ⟨0, 9, 12, 13⟩ [] (by rw [ht]; rfl) (fun _ h => absurd h List.not_mem_nil) (by decide) (by decide) (hts _ mL_run_13) hce hcv hcl ?_
      refine lv_astore_n hx hb dL_run_12 rfl hl (by decide) rfl (fun ls hl => ?_)
      refine lv_iconst (v := 1) hx hb dL_run_13 (by decide) ?_
      exact zw_i hx hb hr hlocks hP1 hS1 dL_run_14
theorem hdV_X3_set : yX3_set.cls = RX3 ∧ yX3_set.cls ≠ "java/lang/invoke/MethodHandle" ∧ yX3_set.cls ≠ "java/lang/invoke/VarHandle" ∧ (parseMethodDescriptor yX3_set.desc).map (fun d => d.parameters.length) = some 2 := by decide +kernel
theorem hdS_L_set : yL_set.cls ≠ "java/lang/invoke/MethodHandle" ∧ yL_set.cls ≠ "java/lang/invoke/VarHandle" ∧ (parseMethodDescriptor yL_set.desc).map (fun d => d.parameters.length) = some 4 := by decide +kernel
theorem mL_set_13 : Cond.classLink RL 13 (zE 2) ∈ wsL_set := by decide +kernel
set_option maxRecDepth 100000 in
set_option maxHeartbeats 4000000 in
theorem kL_set (l : Launch) (g : zG) (ho h0 : Nat) (X X2 : va_W) (fs : List Value) (f f2 : Nat → Int64) (p0 : Int32) (p1 : Int32) {k r ex : Int32} (hM : Mx l g yX3_set wsX3_set { frames := 6, cells := 1, slots := 6, locals := 82 } [.ref h0, .int p0, .int p1] X (zXi g X2 k r) (zXx g X2 k) 1 6) (hb0 : X[0]? = some (h0, .inr (3, fs))) (he : X2.map Prod.fst = X.map Prod.fst) (hres : (k = 0 ∧ ex = 0 ∧ f2 = vp_updL f 0 r.toInt64) ∨ (k = 2 ∧ ex = 1 ∧ f2 = f)) : Mn l g yL_set wsL_set { frames := 7, cells := 1, slots := 6, locals := 105 } [.ref h0, .int p0, .int p1, .ref ho] ((ho, .inl (g.2.2.2.2.2, 1, .inr (.inl f))) :: X) (zWi g ((ho, .inl (g.2.2.2.2.2, 1, .inr (.inl f2))) :: X2) ex) 1 6 := by
  refine zn_in (cc := cL_set) (maxL := 5) (ret := some .int) (hh := [(0, 10, 13, 13)]) (by decide) rfl (Nat.le_of_ble_eq_true rfl) ?_
  intro p e s m below meth c hx hb hr hml hts hown hlocks hK ht hN A hA hP hD hS hAm ls hl
  replace hl : lv_has ls 5 [(0, .ref h0), (1, .int p0), (2, .int p1), (3, .ref ho)] := hl
  refine lv_aload_n hx hb dL_set_0 rfl (lv_at hl 3 rfl) ?_
  refine lv_iconst (v := 0) hx hb dL_set_1 (by decide) ?_
  refine lv_aload_n hx hb dL_set_2 rfl (lv_at hl 0 rfl) ?_
  refine lv_iload_n hx hb dL_set_3 rfl (lv_at hl 1 rfl) ?_
  refine lv_iload_n hx hb dL_set_4 rfl (lv_at hl 2 rfl) ?_
  refine zL_mid (As := [.int p0, .int p1]) (tgt := 17) (off := 7) ⟨hx, hb, hml, hown, hts⟩ hr hlocks hM (cwV 2 hts gL_set_X3_set rfl rfl rfl hdV_X3_set ⟨Nat.le_of_ble_eq_true rfl, Nat.le_of_ble_eq_true rfl⟩) hK hP hD hS hA hAm he hb0 rfl hl.1 rfl ⟨Nat.le_of_ble_eq_true rfl, Nat.le_of_ble_eq_true rfl⟩ dL_set_5 dL_set_8 dL_set_9 dL_set_10 (by decide) dL_set_17 dL_set_18 (fun hk => ?_) (fun hk H1 locs1 q ce hP1 hS1 hce hcv hcl => ?_)
  · rcases hres with ⟨-, h2, h3⟩ | ⟨h1, -, -⟩
    · exact ⟨h2, h3⟩
    · rw [h1] at hk; exact absurd hk (by decide)
  · rcases hres with ⟨h1, -, -⟩ | ⟨rfl, rfl, rfl⟩
    · exact absurd h1 hk
    · refine zL_hit (k := 2) hown hAm (by decide +kernel) [] ⟨0, 10, 13, 13⟩ [] (by rw [ht]; rfl) (fun _ h => absurd h List.not_mem_nil) (by decide) (by decide) (hts _ mL_set_13) hce hcv hcl ?_
      refine lv_astore hx hb dL_set_13 hl (by decide) rfl (fun ls hl => ?_)
      refine lv_iconst (v := 1) hx hb dL_set_15 (by decide) ?_
      exact zw_i hx hb hr hlocks hP1 hS1 dL_set_16
theorem hdV_X3_undo : yX3_undo.cls = RX3 ∧ yX3_undo.cls ≠ "java/lang/invoke/MethodHandle" ∧ yX3_undo.cls ≠ "java/lang/invoke/VarHandle" ∧ (parseMethodDescriptor yX3_undo.desc).map (fun d => d.parameters.length) = some 0 := by decide +kernel
theorem hdS_L_undo : yL_undo.cls ≠ "java/lang/invoke/MethodHandle" ∧ yL_undo.cls ≠ "java/lang/invoke/VarHandle" ∧ (parseMethodDescriptor yL_undo.desc).map (fun d => d.parameters.length) = some 2 := by decide +kernel
theorem mL_undo_15 : Cond.classLink RL 15 (zE 3) ∈ wsL_undo := by decide +kernel
set_option maxRecDepth 100000 in
set_option maxHeartbeats 4000000 in
theorem kL_undo (l : Launch) (g : zG) (ho h0 : Nat) (X X2 : va_W) (fs : List Value) (f f2 : Nat → Int64)  {k r ex : Int32} (hM : Mx l g yX3_undo wsX3_undo { frames := 6, cells := 1, slots := 6, locals := 82 } [.ref h0] X (zXi g X2 k r) (zXx g X2 k) 1 6) (hb0 : X[0]? = some (h0, .inr (3, fs))) (he : X2.map Prod.fst = X.map Prod.fst) (hres : (k = 0 ∧ ex = 0 ∧ f2 = vp_updL f 0 r.toInt64) ∨ (k = 3 ∧ ex = 1 ∧ f2 = f)) : Mn l g yL_undo wsL_undo { frames := 7, cells := 1, slots := 6, locals := 102 } [.ref h0, .ref ho] ((ho, .inl (g.2.2.2.2.2, 1, .inr (.inl f))) :: X) (zWi g ((ho, .inl (g.2.2.2.2.2, 1, .inr (.inl f2))) :: X2) ex) 1 6 := by
  refine zn_in (cc := cL_undo) (maxL := 3) (ret := some .int) (hh := [(0, 8, 11, 15)]) (by decide) rfl (Nat.le_of_ble_eq_true rfl) ?_
  intro p e s m below meth c hx hb hr hml hts hown hlocks hK ht hN A hA hP hD hS hAm ls hl
  replace hl : lv_has ls 3 [(0, .ref h0), (1, .ref ho)] := hl
  refine lv_aload_n hx hb dL_undo_0 rfl (lv_at hl 1 rfl) ?_
  refine lv_iconst (v := 0) hx hb dL_undo_1 (by decide) ?_
  refine lv_aload_n hx hb dL_undo_2 rfl (lv_at hl 0 rfl) ?_
  refine zL_mid (As := []) (tgt := 14) (off := 6) ⟨hx, hb, hml, hown, hts⟩ hr hlocks hM (cwV 0 hts gL_undo_X3_undo rfl rfl rfl hdV_X3_undo ⟨Nat.le_of_ble_eq_true rfl, Nat.le_of_ble_eq_true rfl⟩) hK hP hD hS hA hAm he hb0 rfl hl.1 rfl ⟨Nat.le_of_ble_eq_true rfl, Nat.le_of_ble_eq_true rfl⟩ dL_undo_3 dL_undo_6 dL_undo_7 dL_undo_8 (by decide) dL_undo_14 dL_undo_15 (fun hk => ?_) (fun hk H1 locs1 q ce hP1 hS1 hce hcv hcl => ?_)
  · rcases hres with ⟨-, h2, h3⟩ | ⟨h1, -, -⟩
    · exact ⟨h2, h3⟩
    · rw [h1] at hk; exact absurd hk (by decide)
  · rcases hres with ⟨h1, -, -⟩ | ⟨rfl, rfl, rfl⟩
    · exact absurd h1 hk
    · refine zL_hit (k := 3) hown hAm (by decide +kernel) [] ⟨0, 8, 11, 15⟩ [] (by rw [ht]; rfl) (fun _ h => absurd h List.not_mem_nil) (by decide) (by decide) (hts _ mL_undo_15) hce hcv hcl ?_
      refine lv_astore_n hx hb dL_undo_11 rfl hl (by decide) rfl (fun ls hl => ?_)
      refine lv_iconst (v := 1) hx hb dL_undo_12 (by decide) ?_
      exact zw_i hx hb hr hlocks hP1 hS1 dL_undo_13
theorem hdV_X3_next : yX3_next.cls = RX3 ∧ yX3_next.cls ≠ "java/lang/invoke/MethodHandle" ∧ yX3_next.cls ≠ "java/lang/invoke/VarHandle" ∧ (parseMethodDescriptor yX3_next.desc).map (fun d => d.parameters.length) = some 1 := by decide +kernel
theorem hdS_L_next : yL_next.cls ≠ "java/lang/invoke/MethodHandle" ∧ yL_next.cls ≠ "java/lang/invoke/VarHandle" ∧ (parseMethodDescriptor yL_next.desc).map (fun d => d.parameters.length) = some 3 := by decide +kernel
theorem mL_next_13 : Cond.classLink RL 13 (zE 2) ∈ wsL_next := by decide +kernel
set_option maxRecDepth 100000 in
set_option maxHeartbeats 4000000 in
theorem kL_next (l : Launch) (g : zG) (ho h0 : Nat) (X X2 : va_W) (fs : List Value) (f f2 : Nat → Int64) (p0 : Int32) {k r ex : Int32} (hM : Mx l g yX3_next wsX3_next { frames := 6, cells := 1, slots := 6, locals := 113 } [.ref h0, .int p0] X (zXi g X2 k r) (zXx g X2 k) 1 6) (hb0 : X[0]? = some (h0, .inr (3, fs))) (he : X2.map Prod.fst = X.map Prod.fst) (hres : (k = 0 ∧ ex = 0 ∧ f2 = vp_updL f 0 r.toInt64) ∨ (k = 2 ∧ ex = 1 ∧ f2 = f)) : Mn l g yL_next wsL_next { frames := 7, cells := 1, slots := 6, locals := 136 } [.ref h0, .int p0, .ref ho] ((ho, .inl (g.2.2.2.2.2, 1, .inr (.inl f))) :: X) (zWi g ((ho, .inl (g.2.2.2.2.2, 1, .inr (.inl f2))) :: X2) ex) 1 6 := by
  refine zn_in (cc := cL_next) (maxL := 4) (ret := some .int) (hh := [(0, 9, 12, 13)]) (by decide) rfl (Nat.le_of_ble_eq_true rfl) ?_
  intro p e s m below meth c hx hb hr hml hts hown hlocks hK ht hN A hA hP hD hS hAm ls hl
  replace hl : lv_has ls 4 [(0, .ref h0), (1, .int p0), (2, .ref ho)] := hl
  refine lv_aload_n hx hb dL_next_0 rfl (lv_at hl 2 rfl) ?_
  refine lv_iconst (v := 0) hx hb dL_next_1 (by decide) ?_
  refine lv_aload_n hx hb dL_next_2 rfl (lv_at hl 0 rfl) ?_
  refine lv_iload_n hx hb dL_next_3 rfl (lv_at hl 1 rfl) ?_
  refine zL_mid (As := [.int p0]) (tgt := 15) (off := 6) ⟨hx, hb, hml, hown, hts⟩ hr hlocks hM (cwV 1 hts gL_next_X3_next rfl rfl rfl hdV_X3_next ⟨Nat.le_of_ble_eq_true rfl, Nat.le_of_ble_eq_true rfl⟩) hK hP hD hS hA hAm he hb0 rfl hl.1 rfl ⟨Nat.le_of_ble_eq_true rfl, Nat.le_of_ble_eq_true rfl⟩ dL_next_4 dL_next_7 dL_next_8 dL_next_9 (by decide) dL_next_15 dL_next_16 (fun hk => ?_) (fun hk H1 locs1 q ce hP1 hS1 hce hcv hcl => ?_)
  · rcases hres with ⟨-, h2, h3⟩ | ⟨h1, -, -⟩
    · exact ⟨h2, h3⟩
    · rw [h1] at hk; exact absurd hk (by decide)
  · rcases hres with ⟨h1, -, -⟩ | ⟨rfl, rfl, rfl⟩
    · exact absurd h1 hk
    · refine zL_hit (k := 2) hown hAm (by decide +kernel) [] ⟨0, 9, 12, 13⟩ [] (by rw [ht]; rfl) (fun _ h => absurd h List.not_mem_nil) (by decide) (by decide) (hts _ mL_next_13) hce hcv hcl ?_
      refine lv_astore_n hx hb dL_next_12 rfl hl (by decide) rfl (fun ls hl => ?_)
      refine lv_iconst (v := 1) hx hb dL_next_13 (by decide) ?_
      exact zw_i hx hb hr hlocks hP1 hS1 dL_next_14
theorem hdV_X3_goneIn : yX3_goneIn.cls = RX3 ∧ yX3_goneIn.cls ≠ "java/lang/invoke/MethodHandle" ∧ yX3_goneIn.cls ≠ "java/lang/invoke/VarHandle" ∧ (parseMethodDescriptor yX3_goneIn.desc).map (fun d => d.parameters.length) = some 1 := by decide +kernel
theorem hdS_L_goneIn : yL_goneIn.cls ≠ "java/lang/invoke/MethodHandle" ∧ yL_goneIn.cls ≠ "java/lang/invoke/VarHandle" ∧ (parseMethodDescriptor yL_goneIn.desc).map (fun d => d.parameters.length) = some 3 := by decide +kernel
theorem mL_goneIn_28 : Cond.classLink RL 28 (zE 1) ∈ wsL_goneIn := by decide +kernel
set_option maxRecDepth 100000 in
set_option maxHeartbeats 4000000 in
theorem kL_goneIn (l : Launch) (g : zG) (ho h0 : Nat) (X X2 : va_W) (fs : List Value) (f f2 : Nat → Int64) (p0 : Int32) {k r ex : Int32} (hM : Mx l g yX3_goneIn wsX3_goneIn { frames := 7, cells := 1, slots := 6, locals := 102 } [.ref h0, .int p0] X (zXi g X2 k r) (zXx g X2 k) 1 6) (hb0 : X[0]? = some (h0, .inr (3, fs))) (he : X2.map Prod.fst = X.map Prod.fst) (hres : (k = 0 ∧ ex = 0 ∧ f2 = vp_updL f 0 r.toInt64) ∨ (k = 1 ∧ ex = 1 ∧ f2 = f)) : Mn l g yL_goneIn wsL_goneIn { frames := 8, cells := 1, slots := 6, locals := 124 } [.ref h0, .int p0, .ref ho] ((ho, .inl (g.2.2.2.2.2, 1, .inr (.inl f))) :: X) (zWi g ((ho, .inl (g.2.2.2.2.2, 1, .inr (.inl f2))) :: X2) ex) 1 6 := by
  refine zn_in (cc := cL_goneIn) (maxL := 4) (ret := some .int) (hh := [(0, 9, 12, 28)]) (by decide) rfl (Nat.le_of_ble_eq_true rfl) ?_
  intro p e s m below meth c hx hb hr hml hts hown hlocks hK ht hN A hA hP hD hS hAm ls hl
  replace hl : lv_has ls 4 [(0, .ref h0), (1, .int p0), (2, .ref ho)] := hl
  refine lv_aload_n hx hb dL_goneIn_0 rfl (lv_at hl 2 rfl) ?_
  refine lv_iconst (v := 0) hx hb dL_goneIn_1 (by decide) ?_
  refine lv_aload_n hx hb dL_goneIn_2 rfl (lv_at hl 0 rfl) ?_
  refine lv_iload_n hx hb dL_goneIn_3 rfl (lv_at hl 1 rfl) ?_
  refine zL_mid (As := [.int p0]) (tgt := 15) (off := 6) ⟨hx, hb, hml, hown, hts⟩ hr hlocks hM (cwV 1 hts gL_goneIn_X3_goneIn rfl rfl rfl hdV_X3_goneIn ⟨Nat.le_of_ble_eq_true rfl, Nat.le_of_ble_eq_true rfl⟩) hK hP hD hS hA hAm he hb0 rfl hl.1 rfl ⟨Nat.le_of_ble_eq_true rfl, Nat.le_of_ble_eq_true rfl⟩ dL_goneIn_4 dL_goneIn_7 dL_goneIn_8 dL_goneIn_9 (by decide) dL_goneIn_15 dL_goneIn_16 (fun hk => ?_) (fun hk H1 locs1 q ce hP1 hS1 hce hcv hcl => ?_)
  · rcases hres with ⟨-, h2, h3⟩ | ⟨h1, -, -⟩
    · exact ⟨h2, h3⟩
    · rw [h1] at hk; exact absurd hk (by decide)
  · rcases hres with ⟨h1, -, -⟩ | ⟨rfl, rfl, rfl⟩
    · exact absurd h1 hk
    · refine zL_hit (k := 1) hown hAm (by decide +kernel) [] ⟨0, 9, 12, 28⟩ [] (by rw [ht]; rfl) (fun _ h => absurd h List.not_mem_nil) (by decide) (by decide) (hts _ mL_goneIn_28) hce hcv hcl ?_
      refine lv_astore_n hx hb dL_goneIn_12 rfl hl (by decide) rfl (fun ls hl => ?_)
      refine lv_iconst (v := 1) hx hb dL_goneIn_13 (by decide) ?_
      exact zw_i hx hb hr hlocks hP1 hS1 dL_goneIn_14
theorem hdV_X3_coming : yX3_coming.cls = RX3 ∧ yX3_coming.cls ≠ "java/lang/invoke/MethodHandle" ∧ yX3_coming.cls ≠ "java/lang/invoke/VarHandle" ∧ (parseMethodDescriptor yX3_coming.desc).map (fun d => d.parameters.length) = some 2 := by decide +kernel
theorem hdS_L_coming : yL_coming.cls ≠ "java/lang/invoke/MethodHandle" ∧ yL_coming.cls ≠ "java/lang/invoke/VarHandle" ∧ (parseMethodDescriptor yL_coming.desc).map (fun d => d.parameters.length) = some 4 := by decide +kernel
theorem mL_coming_13 : Cond.classLink RL 13 (zE 2) ∈ wsL_coming := by decide +kernel
set_option maxRecDepth 100000 in
set_option maxHeartbeats 4000000 in
theorem kL_coming (l : Launch) (g : zG) (ho h0 : Nat) (X X2 : va_W) (fs : List Value) (f f2 : Nat → Int64) (p0 : Int32) (p1 : Int32) {k r ex : Int32} (hM : Mx l g yX3_coming wsX3_coming { frames := 7, cells := 2, slots := 12, locals := 123 } [.ref h0, .int p0, .int p1] X (zXi g X2 k r) (zXx g X2 k) 2 12) (hb0 : X[0]? = some (h0, .inr (3, fs))) (he : X2.map Prod.fst = X.map Prod.fst) (hres : (k = 0 ∧ ex = 0 ∧ f2 = vp_updL f 0 r.toInt64) ∨ (k = 2 ∧ ex = 1 ∧ f2 = f)) : Mn l g yL_coming wsL_coming { frames := 8, cells := 2, slots := 12, locals := 146 } [.ref h0, .int p0, .int p1, .ref ho] ((ho, .inl (g.2.2.2.2.2, 1, .inr (.inl f))) :: X) (zWi g ((ho, .inl (g.2.2.2.2.2, 1, .inr (.inl f2))) :: X2) ex) 2 12 := by
  refine zn_in (cc := cL_coming) (maxL := 5) (ret := some .int) (hh := [(0, 10, 13, 13)]) (by decide) rfl (Nat.le_of_ble_eq_true rfl) ?_
  intro p e s m below meth c hx hb hr hml hts hown hlocks hK ht hN A hA hP hD hS hAm ls hl
  replace hl : lv_has ls 5 [(0, .ref h0), (1, .int p0), (2, .int p1), (3, .ref ho)] := hl
  refine lv_aload_n hx hb dL_coming_0 rfl (lv_at hl 3 rfl) ?_
  refine lv_iconst (v := 0) hx hb dL_coming_1 (by decide) ?_
  refine lv_aload_n hx hb dL_coming_2 rfl (lv_at hl 0 rfl) ?_
  refine lv_iload_n hx hb dL_coming_3 rfl (lv_at hl 1 rfl) ?_
  refine lv_iload_n hx hb dL_coming_4 rfl (lv_at hl 2 rfl) ?_
  refine zL_mid (As := [.int p0, .int p1]) (tgt := 17) (off := 7) ⟨hx, hb, hml, hown, hts⟩ hr hlocks hM (cwV 2 hts gL_coming_X3_coming rfl rfl rfl hdV_X3_coming ⟨Nat.le_of_ble_eq_true rfl, Nat.le_of_ble_eq_true rfl⟩) hK hP hD hS hA hAm he hb0 rfl hl.1 rfl ⟨Nat.le_of_ble_eq_true rfl, Nat.le_of_ble_eq_true rfl⟩ dL_coming_5 dL_coming_8 dL_coming_9 dL_coming_10 (by decide) dL_coming_17 dL_coming_18 (fun hk => ?_) (fun hk H1 locs1 q ce hP1 hS1 hce hcv hcl => ?_)
  · rcases hres with ⟨-, h2, h3⟩ | ⟨h1, -, -⟩
    · exact ⟨h2, h3⟩
    · rw [h1] at hk; exact absurd hk (by decide)
  · rcases hres with ⟨h1, -, -⟩ | ⟨rfl, rfl, rfl⟩
    · exact absurd h1 hk
    · refine zL_hit (k := 2) hown hAm (by decide +kernel) [] ⟨0, 10, 13, 13⟩ [] (by rw [ht]; rfl) (fun _ h => absurd h List.not_mem_nil) (by decide) (by decide) (hts _ mL_coming_13) hce hcv hcl ?_
      refine lv_astore hx hb dL_coming_13 hl (by decide) rfl (fun ls hl => ?_)
      refine lv_iconst (v := 1) hx hb dL_coming_15 (by decide) ?_
      exact zw_i hx hb hr hlocks hP1 hS1 dL_coming_16
theorem hdV_X3_bestGranule : yX3_bestGranule.cls = RX3 ∧ yX3_bestGranule.cls ≠ "java/lang/invoke/MethodHandle" ∧ yX3_bestGranule.cls ≠ "java/lang/invoke/VarHandle" ∧ (parseMethodDescriptor yX3_bestGranule.desc).map (fun d => d.parameters.length) = some 1 := by decide +kernel
theorem hdS_L_bestGranule : yL_bestGranule.cls ≠ "java/lang/invoke/MethodHandle" ∧ yL_bestGranule.cls ≠ "java/lang/invoke/VarHandle" ∧ (parseMethodDescriptor yL_bestGranule.desc).map (fun d => d.parameters.length) = some 3 := by decide +kernel
theorem mL_bestGranule_13 : Cond.classLink RL 13 (zE 2) ∈ wsL_bestGranule := by decide +kernel
set_option maxRecDepth 100000 in
set_option maxHeartbeats 4000000 in
theorem kL_bestGranule (l : Launch) (g : zG) (ho h0 : Nat) (X X2 : va_W) (fs : List Value) (f f2 : Nat → Int64) (p0 : Int32) {k r ex : Int32} (hM : Mx l g yX3_bestGranule wsX3_bestGranule { frames := 7, cells := 1, slots := 6, locals := 123 } [.ref h0, .int p0] X (zXi g X2 k r) (zXx g X2 k) 1 6) (hb0 : X[0]? = some (h0, .inr (3, fs))) (he : X2.map Prod.fst = X.map Prod.fst) (hres : (k = 0 ∧ ex = 0 ∧ f2 = vp_updL f 0 r.toInt64) ∨ (k = 2 ∧ ex = 1 ∧ f2 = f)) : Mn l g yL_bestGranule wsL_bestGranule { frames := 8, cells := 1, slots := 6, locals := 148 } [.ref h0, .int p0, .ref ho] ((ho, .inl (g.2.2.2.2.2, 1, .inr (.inl f))) :: X) (zWi g ((ho, .inl (g.2.2.2.2.2, 1, .inr (.inl f2))) :: X2) ex) 1 6 := by
  refine zn_in (cc := cL_bestGranule) (maxL := 4) (ret := some .int) (hh := [(0, 9, 12, 13)]) (by decide) rfl (Nat.le_of_ble_eq_true rfl) ?_
  intro p e s m below meth c hx hb hr hml hts hown hlocks hK ht hN A hA hP hD hS hAm ls hl
  replace hl : lv_has ls 4 [(0, .ref h0), (1, .int p0), (2, .ref ho)] := hl
  refine lv_aload_n hx hb dL_bestGranule_0 rfl (lv_at hl 2 rfl) ?_
  refine lv_iconst (v := 0) hx hb dL_bestGranule_1 (by decide) ?_
  refine lv_aload_n hx hb dL_bestGranule_2 rfl (lv_at hl 0 rfl) ?_
  refine lv_iload_n hx hb dL_bestGranule_3 rfl (lv_at hl 1 rfl) ?_
  refine zL_mid (As := [.int p0]) (tgt := 15) (off := 6) ⟨hx, hb, hml, hown, hts⟩ hr hlocks hM (cwV 1 hts gL_bestGranule_X3_bestGranule rfl rfl rfl hdV_X3_bestGranule ⟨Nat.le_of_ble_eq_true rfl, Nat.le_of_ble_eq_true rfl⟩) hK hP hD hS hA hAm he hb0 rfl hl.1 rfl ⟨Nat.le_of_ble_eq_true rfl, Nat.le_of_ble_eq_true rfl⟩ dL_bestGranule_4 dL_bestGranule_7 dL_bestGranule_8 dL_bestGranule_9 (by decide) dL_bestGranule_15 dL_bestGranule_16 (fun hk => ?_) (fun hk H1 locs1 q ce hP1 hS1 hce hcv hcl => ?_)
  · rcases hres with ⟨-, h2, h3⟩ | ⟨h1, -, -⟩
    · exact ⟨h2, h3⟩
    · rw [h1] at hk; exact absurd hk (by decide)
  · rcases hres with ⟨h1, -, -⟩ | ⟨rfl, rfl, rfl⟩
    · exact absurd h1 hk
    · refine zL_hit (k := 2) hown hAm (by decide +kernel) [] ⟨0, 9, 12, 13⟩ [] (by rw [ht]; rfl) (fun _ h => absurd h List.not_mem_nil) (by decide) (by decide) (hts _ mL_bestGranule_13) hce hcv hcl ?_
      refine lv_astore_n hx hb dL_bestGranule_12 rfl hl (by decide) rfl (fun ls hl => ?_)
      refine lv_iconst (v := 1) hx hb dL_bestGranule_13 (by decide) ?_
      exact zw_i hx hb hr hlocks hP1 hS1 dL_bestGranule_14
theorem hdV_X3_ifWritten : yX3_ifWritten.cls = RX3 ∧ yX3_ifWritten.cls ≠ "java/lang/invoke/MethodHandle" ∧ yX3_ifWritten.cls ≠ "java/lang/invoke/VarHandle" ∧ (parseMethodDescriptor yX3_ifWritten.desc).map (fun d => d.parameters.length) = some 2 := by decide +kernel
theorem hdS_L_ifWritten : yL_ifWritten.cls ≠ "java/lang/invoke/MethodHandle" ∧ yL_ifWritten.cls ≠ "java/lang/invoke/VarHandle" ∧ (parseMethodDescriptor yL_ifWritten.desc).map (fun d => d.parameters.length) = some 4 := by decide +kernel
theorem mL_ifWritten_28 : Cond.classLink RL 28 (zE 1) ∈ wsL_ifWritten := by decide +kernel
theorem mL_ifWritten_13 : Cond.classLink RL 13 (zE 2) ∈ wsL_ifWritten := by decide +kernel
theorem mL_ifWritten_15 : Cond.classLink RL 15 (zE 3) ∈ wsL_ifWritten := by decide +kernel
set_option maxRecDepth 100000 in
set_option maxHeartbeats 4000000 in
theorem kL_ifWritten (l : Launch) (g : zG) (ho h0 : Nat) (X X2 : va_W) (fs : List Value) (f f2 : Nat → Int64) (p0 : Int32) (p1 : Int32) {k r ex : Int32} (hM : Mx l g yX3_ifWritten wsX3_ifWritten { frames := 8, cells := 2, slots := 12, locals := 123 } [.ref h0, .int p0, .int p1] X (zXi g X2 k r) (zXx g X2 k) 2 12) (hb0 : X[0]? = some (h0, .inr (3, fs))) (he : X2.map Prod.fst = X.map Prod.fst) (hres : (k = 0 ∧ ex = 0 ∧ f2 = vp_updL f 0 r.toInt64) ∨ (k = 1 ∧ ex = 1 ∧ f2 = f) ∨ (k = 2 ∧ ex = 2 ∧ f2 = f) ∨ (k = 3 ∧ ex = 3 ∧ f2 = f)) : Mn l g yL_ifWritten wsL_ifWritten { frames := 9, cells := 2, slots := 12, locals := 145 } [.ref h0, .int p0, .int p1, .ref ho] ((ho, .inl (g.2.2.2.2.2, 1, .inr (.inl f))) :: X) (zWi g ((ho, .inl (g.2.2.2.2.2, 1, .inr (.inl f2))) :: X2) ex) 2 12 := by
  refine zn_in (cc := cL_ifWritten) (maxL := 5) (ret := some .int) (hh := [(0, 10, 13, 28), (0, 10, 17, 13), (0, 10, 21, 15)]) (by decide) rfl (Nat.le_of_ble_eq_true rfl) ?_
  intro p e s m below meth c hx hb hr hml hts hown hlocks hK ht hN A hA hP hD hS hAm ls hl
  replace hl : lv_has ls 5 [(0, .ref h0), (1, .int p0), (2, .int p1), (3, .ref ho)] := hl
  refine lv_aload_n hx hb dL_ifWritten_0 rfl (lv_at hl 3 rfl) ?_
  refine lv_iconst (v := 0) hx hb dL_ifWritten_1 (by decide) ?_
  refine lv_aload_n hx hb dL_ifWritten_2 rfl (lv_at hl 0 rfl) ?_
  refine lv_iload_n hx hb dL_ifWritten_3 rfl (lv_at hl 1 rfl) ?_
  refine lv_iload_n hx hb dL_ifWritten_4 rfl (lv_at hl 2 rfl) ?_
  refine zL_mid (As := [.int p0, .int p1]) (tgt := 25) (off := 15) ⟨hx, hb, hml, hown, hts⟩ hr hlocks hM (cwV 2 hts gL_ifWritten_X3_ifWritten rfl rfl rfl hdV_X3_ifWritten ⟨Nat.le_of_ble_eq_true rfl, Nat.le_of_ble_eq_true rfl⟩) hK hP hD hS hA hAm he hb0 rfl hl.1 rfl ⟨Nat.le_of_ble_eq_true rfl, Nat.le_of_ble_eq_true rfl⟩ dL_ifWritten_5 dL_ifWritten_8 dL_ifWritten_9 dL_ifWritten_10 (by decide) dL_ifWritten_25 dL_ifWritten_26 (fun hk => ?_) (fun hk H1 locs1 q ce hP1 hS1 hce hcv hcl => ?_)
  · rcases hres with ⟨-, h2, h3⟩ | ⟨h1, -, -⟩ | ⟨h1, -, -⟩ | ⟨h1, -, -⟩
    · exact ⟨h2, h3⟩
    · rw [h1] at hk; exact absurd hk (by decide)
    · rw [h1] at hk; exact absurd hk (by decide)
    · rw [h1] at hk; exact absurd hk (by decide)
  · rcases hres with ⟨h1, -, -⟩ | ⟨rfl, rfl, rfl⟩ | ⟨rfl, rfl, rfl⟩ | ⟨rfl, rfl, rfl⟩
    · exact absurd h1 hk
    · refine zL_hit (k := 1) hown hAm (by decide +kernel) [] ⟨0, 10, 13, 28⟩ [⟨0, 10, 17, 13⟩, ⟨0, 10, 21, 15⟩] (by rw [ht]; rfl) (fun _ h => absurd h List.not_mem_nil) (by decide) (by decide) (hts _ mL_ifWritten_28) hce hcv hcl ?_
      refine lv_astore hx hb dL_ifWritten_13 hl (by decide) rfl (fun ls hl => ?_)
      refine lv_iconst (v := 1) hx hb dL_ifWritten_15 (by decide) ?_
      exact zw_i hx hb hr hlocks hP1 hS1 dL_ifWritten_16
    · refine zL_hit (k := 2) hown hAm (by decide +kernel) [⟨0, 10, 13, 28⟩] ⟨0, 10, 17, 13⟩ [⟨0, 10, 21, 15⟩] (by rw [ht]; rfl) (fun z hz => by obtain rfl := List.mem_singleton.mp hz; exact Or.inr ⟨by decide, _, hts _ mL_ifWritten_28, hN.1⟩) (by decide) (by decide) (hts _ mL_ifWritten_13) hce hcv hcl ?_
      refine lv_astore hx hb dL_ifWritten_17 hl (by decide) rfl (fun ls hl => ?_)
      refine lv_iconst (v := 2) hx hb dL_ifWritten_19 (by decide) ?_
      exact zw_i hx hb hr hlocks hP1 hS1 dL_ifWritten_20
    · refine zL_hit (k := 3) hown hAm (by decide +kernel) [⟨0, 10, 13, 28⟩, ⟨0, 10, 17, 13⟩] ⟨0, 10, 21, 15⟩ [] (by rw [ht]; rfl) (fun z hz => by
        rcases List.mem_cons.mp hz with rfl | hz
        · exact Or.inr ⟨by decide, _, hts _ mL_ifWritten_28, hN.2.1⟩
        · obtain rfl := List.mem_singleton.mp hz; exact Or.inr ⟨by decide, _, hts _ mL_ifWritten_13, hN.2.2⟩) (by decide) (by decide) (hts _ mL_ifWritten_15) hce hcv hcl ?_
      refine lv_astore hx hb dL_ifWritten_21 hl (by decide) rfl (fun ls hl => ?_)
      refine lv_iconst (v := 3) hx hb dL_ifWritten_23 (by decide) ?_
      exact zw_i hx hb hr hlocks hP1 hS1 dL_ifWritten_24
theorem hdV_X3_runScript : yX3_runScript.cls = RX3 ∧ yX3_runScript.cls ≠ "java/lang/invoke/MethodHandle" ∧ yX3_runScript.cls ≠ "java/lang/invoke/VarHandle" ∧ (parseMethodDescriptor yX3_runScript.desc).map (fun d => d.parameters.length) = some 2 := by decide +kernel
theorem hdS_L_runScript : yL_runScript.cls ≠ "java/lang/invoke/MethodHandle" ∧ yL_runScript.cls ≠ "java/lang/invoke/VarHandle" ∧ (parseMethodDescriptor yL_runScript.desc).map (fun d => d.parameters.length) = some 4 := by decide +kernel
theorem mL_runScript_13 : Cond.classLink RL 13 (zE 2) ∈ wsL_runScript := by decide +kernel
set_option maxRecDepth 100000 in
set_option maxHeartbeats 4000000 in
theorem kL_runScript (l : Launch) (g : zG) (ho h0 : Nat) (X X2 : va_W) (fs : List Value) (f f2 : Nat → Int64) (p0 : Int32) (p1 : Int64) {k r ex : Int32} (hM : Mx l g yX3_runScript wsX3_runScript { frames := 6, cells := 1, slots := 6, locals := 145 } [.ref h0, .int p0, .long p1] X (zXi g X2 k r) (zXx g X2 k) 1 6) (hb0 : X[0]? = some (h0, .inr (3, fs))) (he : X2.map Prod.fst = X.map Prod.fst) (hres : (k = 0 ∧ ex = 0 ∧ f2 = vp_updL f 0 r.toInt64) ∨ (k = 2 ∧ ex = 1 ∧ f2 = f)) : Mn l g yL_runScript wsL_runScript { frames := 7, cells := 1, slots := 6, locals := 170 } [.ref h0, .int p0, .long p1, .ref ho] ((ho, .inl (g.2.2.2.2.2, 1, .inr (.inl f))) :: X) (zWi g ((ho, .inl (g.2.2.2.2.2, 1, .inr (.inl f2))) :: X2) ex) 1 6 := by
  refine zn_in (cc := cL_runScript) (maxL := 6) (ret := some .int) (hh := [(0, 11, 14, 13)]) (by decide) rfl (Nat.le_of_ble_eq_true rfl) ?_
  intro p e s m below meth c hx hb hr hml hts hown hlocks hK ht hN A hA hP hD hS hAm ls hl
  replace hl : lv_has ls 6 [(0, .ref h0), (1, .int p0), (2, .long p1), (4, .ref ho)] := hl
  refine lv_aload hx hb dL_runScript_0 (lv_at hl 3 rfl) ?_
  refine lv_iconst (v := 0) hx hb dL_runScript_2 (by decide) ?_
  refine lv_aload_n hx hb dL_runScript_3 rfl (lv_at hl 0 rfl) ?_
  refine lv_iload_n hx hb dL_runScript_4 rfl (lv_at hl 1 rfl) ?_
  refine lv_lload_n hx hb dL_runScript_5 rfl (lv_at hl 2 rfl) ?_
  refine zL_mid (As := [.int p0, .long p1]) (tgt := 18) (off := 7) ⟨hx, hb, hml, hown, hts⟩ hr hlocks hM (cwV 2 hts gL_runScript_X3_runScript rfl rfl rfl hdV_X3_runScript ⟨Nat.le_of_ble_eq_true rfl, Nat.le_of_ble_eq_true rfl⟩) hK hP hD hS hA hAm he hb0 rfl hl.1 rfl ⟨Nat.le_of_ble_eq_true rfl, Nat.le_of_ble_eq_true rfl⟩ dL_runScript_6 dL_runScript_9 dL_runScript_10 dL_runScript_11 (by decide) dL_runScript_18 dL_runScript_19 (fun hk => ?_) (fun hk H1 locs1 q ce hP1 hS1 hce hcv hcl => ?_)
  · rcases hres with ⟨-, h2, h3⟩ | ⟨h1, -, -⟩
    · exact ⟨h2, h3⟩
    · rw [h1] at hk; exact absurd hk (by decide)
  · rcases hres with ⟨h1, -, -⟩ | ⟨rfl, rfl, rfl⟩
    · exact absurd h1 hk
    · refine zL_hit (k := 2) hown hAm (by decide +kernel) [] ⟨0, 11, 14, 13⟩ [] (by rw [ht]; rfl) (fun _ h => absurd h List.not_mem_nil) (by decide) (by decide) (hts _ mL_runScript_13) hce hcv hcl ?_
      refine lv_astore hx hb dL_runScript_14 hl (by decide) rfl (fun ls hl => ?_)
      refine lv_iconst (v := 1) hx hb dL_runScript_16 (by decide) ?_
      exact zw_i hx hb hr hlocks hP1 hS1 dL_runScript_17
theorem hdV_X3_simulate : yX3_simulate.cls = RX3 ∧ yX3_simulate.cls ≠ "java/lang/invoke/MethodHandle" ∧ yX3_simulate.cls ≠ "java/lang/invoke/VarHandle" ∧ (parseMethodDescriptor yX3_simulate.desc).map (fun d => d.parameters.length) = some 2 := by decide +kernel
theorem hdS_L_simulate : yL_simulate.cls ≠ "java/lang/invoke/MethodHandle" ∧ yL_simulate.cls ≠ "java/lang/invoke/VarHandle" ∧ (parseMethodDescriptor yL_simulate.desc).map (fun d => d.parameters.length) = some 4 := by decide +kernel
theorem mL_simulate_13 : Cond.classLink RL 13 (zE 2) ∈ wsL_simulate := by decide +kernel
set_option maxRecDepth 100000 in
set_option maxHeartbeats 4000000 in
theorem kL_simulate (l : Launch) (g : zG) (ho h0 : Nat) (X X2 : va_W) (fs : List Value) (f f2 : Nat → Int64) (p0 : Int64) (p1 : Int32) {k r ex : Int32} (hM : Mx l g yX3_simulate wsX3_simulate { frames := 6, cells := 1, slots := 6, locals := 146 } [.ref h0, .long p0, .int p1] X (zXi g X2 k r) (zXx g X2 k) 1 6) (hb0 : X[0]? = some (h0, .inr (3, fs))) (he : X2.map Prod.fst = X.map Prod.fst) (hres : (k = 0 ∧ ex = 0 ∧ f2 = vp_updL f 0 r.toInt64) ∨ (k = 2 ∧ ex = 1 ∧ f2 = f)) : Mn l g yL_simulate wsL_simulate { frames := 7, cells := 1, slots := 6, locals := 172 } [.ref h0, .long p0, .int p1, .ref ho] ((ho, .inl (g.2.2.2.2.2, 1, .inr (.inl f))) :: X) (zWi g ((ho, .inl (g.2.2.2.2.2, 1, .inr (.inl f2))) :: X2) ex) 1 6 := by
  refine zn_in (cc := cL_simulate) (maxL := 6) (ret := some .int) (hh := [(0, 11, 14, 13)]) (by decide) rfl (Nat.le_of_ble_eq_true rfl) ?_
  intro p e s m below meth c hx hb hr hml hts hown hlocks hK ht hN A hA hP hD hS hAm ls hl
  replace hl : lv_has ls 6 [(0, .ref h0), (1, .long p0), (3, .int p1), (4, .ref ho)] := hl
  refine lv_aload hx hb dL_simulate_0 (lv_at hl 3 rfl) ?_
  refine lv_iconst (v := 0) hx hb dL_simulate_2 (by decide) ?_
  refine lv_aload_n hx hb dL_simulate_3 rfl (lv_at hl 0 rfl) ?_
  refine lv_lload_n hx hb dL_simulate_4 rfl (lv_at hl 1 rfl) ?_
  refine lv_iload_n hx hb dL_simulate_5 rfl (lv_at hl 2 rfl) ?_
  refine zL_mid (As := [.long p0, .int p1]) (tgt := 18) (off := 7) ⟨hx, hb, hml, hown, hts⟩ hr hlocks hM (cwV 2 hts gL_simulate_X3_simulate rfl rfl rfl hdV_X3_simulate ⟨Nat.le_of_ble_eq_true rfl, Nat.le_of_ble_eq_true rfl⟩) hK hP hD hS hA hAm he hb0 rfl hl.1 rfl ⟨Nat.le_of_ble_eq_true rfl, Nat.le_of_ble_eq_true rfl⟩ dL_simulate_6 dL_simulate_9 dL_simulate_10 dL_simulate_11 (by decide) dL_simulate_18 dL_simulate_19 (fun hk => ?_) (fun hk H1 locs1 q ce hP1 hS1 hce hcv hcl => ?_)
  · rcases hres with ⟨-, h2, h3⟩ | ⟨h1, -, -⟩
    · exact ⟨h2, h3⟩
    · rw [h1] at hk; exact absurd hk (by decide)
  · rcases hres with ⟨h1, -, -⟩ | ⟨rfl, rfl, rfl⟩
    · exact absurd h1 hk
    · refine zL_hit (k := 2) hown hAm (by decide +kernel) [] ⟨0, 11, 14, 13⟩ [] (by rw [ht]; rfl) (fun _ h => absurd h List.not_mem_nil) (by decide) (by decide) (hts _ mL_simulate_13) hce hcv hcl ?_
      refine lv_astore hx hb dL_simulate_14 hl (by decide) rfl (fun ls hl => ?_)
      refine lv_iconst (v := 1) hx hb dL_simulate_16 (by decide) ?_
      exact zw_i hx hb hr hlocks hP1 hS1 dL_simulate_17
theorem hdV_X3_save : yX3_save.cls = RX3 ∧ yX3_save.cls ≠ "java/lang/invoke/MethodHandle" ∧ yX3_save.cls ≠ "java/lang/invoke/VarHandle" ∧ (parseMethodDescriptor yX3_save.desc).map (fun d => d.parameters.length) = some 1 := by decide +kernel
theorem hdS_L_save : yL_save.cls ≠ "java/lang/invoke/MethodHandle" ∧ yL_save.cls ≠ "java/lang/invoke/VarHandle" ∧ (parseMethodDescriptor yL_save.desc).map (fun d => d.parameters.length) = some 3 := by decide +kernel
theorem mL_save_28 : Cond.classLink RL 28 (zE 1) ∈ wsL_save := by decide +kernel
set_option maxRecDepth 100000 in
set_option maxHeartbeats 4000000 in
theorem kL_save (l : Launch) (g : zG) (ho h0 : Nat) (X X2 : va_W) (fs : List Value) (f f2 : Nat → Int64) (p0 : Int32) {k r ex : Int32} (hM : Mx l g yX3_save wsX3_save { frames := 7, cells := 1, slots := 6, locals := 102 } [.ref h0, .int p0] X (zXi g X2 k r) (zXx g X2 k) 1 6) (hb0 : X[0]? = some (h0, .inr (3, fs))) (he : X2.map Prod.fst = X.map Prod.fst) (hres : (k = 0 ∧ ex = 0 ∧ f2 = vp_updL f 0 r.toInt64) ∨ (k = 1 ∧ ex = 1 ∧ f2 = f)) : Mn l g yL_save wsL_save { frames := 8, cells := 1, slots := 6, locals := 123 } [.ref h0, .int p0, .ref ho] ((ho, .inl (g.2.2.2.2.2, 1, .inr (.inl f))) :: X) (zWi g ((ho, .inl (g.2.2.2.2.2, 1, .inr (.inl f2))) :: X2) ex) 1 6 := by
  refine zn_in (cc := cL_save) (maxL := 4) (ret := some .int) (hh := [(0, 9, 12, 28)]) (by decide) rfl (Nat.le_of_ble_eq_true rfl) ?_
  intro p e s m below meth c hx hb hr hml hts hown hlocks hK ht hN A hA hP hD hS hAm ls hl
  replace hl : lv_has ls 4 [(0, .ref h0), (1, .int p0), (2, .ref ho)] := hl
  refine lv_aload_n hx hb dL_save_0 rfl (lv_at hl 2 rfl) ?_
  refine lv_iconst (v := 0) hx hb dL_save_1 (by decide) ?_
  refine lv_aload_n hx hb dL_save_2 rfl (lv_at hl 0 rfl) ?_
  refine lv_iload_n hx hb dL_save_3 rfl (lv_at hl 1 rfl) ?_
  refine zL_mid (As := [.int p0]) (tgt := 15) (off := 6) ⟨hx, hb, hml, hown, hts⟩ hr hlocks hM (cwV 1 hts gL_save_X3_save rfl rfl rfl hdV_X3_save ⟨Nat.le_of_ble_eq_true rfl, Nat.le_of_ble_eq_true rfl⟩) hK hP hD hS hA hAm he hb0 rfl hl.1 rfl ⟨Nat.le_of_ble_eq_true rfl, Nat.le_of_ble_eq_true rfl⟩ dL_save_4 dL_save_7 dL_save_8 dL_save_9 (by decide) dL_save_15 dL_save_16 (fun hk => ?_) (fun hk H1 locs1 q ce hP1 hS1 hce hcv hcl => ?_)
  · rcases hres with ⟨-, h2, h3⟩ | ⟨h1, -, -⟩
    · exact ⟨h2, h3⟩
    · rw [h1] at hk; exact absurd hk (by decide)
  · rcases hres with ⟨h1, -, -⟩ | ⟨rfl, rfl, rfl⟩
    · exact absurd h1 hk
    · refine zL_hit (k := 1) hown hAm (by decide +kernel) [] ⟨0, 9, 12, 28⟩ [] (by rw [ht]; rfl) (fun _ h => absurd h List.not_mem_nil) (by decide) (by decide) (hts _ mL_save_28) hce hcv hcl ?_
      refine lv_astore_n hx hb dL_save_12 rfl hl (by decide) rfl (fun ls hl => ?_)
      refine lv_iconst (v := 1) hx hb dL_save_13 (by decide) ?_
      exact zw_i hx hb hr hlocks hP1 hS1 dL_save_14
theorem hdV_X3_restore : yX3_restore.cls = RX3 ∧ yX3_restore.cls ≠ "java/lang/invoke/MethodHandle" ∧ yX3_restore.cls ≠ "java/lang/invoke/VarHandle" ∧ (parseMethodDescriptor yX3_restore.desc).map (fun d => d.parameters.length) = some 1 := by decide +kernel
theorem hdS_L_restore : yL_restore.cls ≠ "java/lang/invoke/MethodHandle" ∧ yL_restore.cls ≠ "java/lang/invoke/VarHandle" ∧ (parseMethodDescriptor yL_restore.desc).map (fun d => d.parameters.length) = some 3 := by decide +kernel
theorem mL_restore_28 : Cond.classLink RL 28 (zE 1) ∈ wsL_restore := by decide +kernel
theorem mL_restore_15 : Cond.classLink RL 15 (zE 3) ∈ wsL_restore := by decide +kernel
set_option maxRecDepth 100000 in
set_option maxHeartbeats 4000000 in
theorem kL_restore (l : Launch) (g : zG) (ho h0 : Nat) (X X2 : va_W) (fs : List Value) (f f2 : Nat → Int64) (p0 : Int32) {k r ex : Int32} (hM : Mx l g yX3_restore wsX3_restore { frames := 7, cells := 2, slots := 12, locals := 102 } [.ref h0, .int p0] X (zXi g X2 k r) (zXx g X2 k) 2 12) (hb0 : X[0]? = some (h0, .inr (3, fs))) (he : X2.map Prod.fst = X.map Prod.fst) (hres : (k = 0 ∧ ex = 0 ∧ f2 = vp_updL f 0 r.toInt64) ∨ (k = 1 ∧ ex = 1 ∧ f2 = f) ∨ (k = 3 ∧ ex = 2 ∧ f2 = f)) : Mn l g yL_restore wsL_restore { frames := 8, cells := 2, slots := 12, locals := 123 } [.ref h0, .int p0, .ref ho] ((ho, .inl (g.2.2.2.2.2, 1, .inr (.inl f))) :: X) (zWi g ((ho, .inl (g.2.2.2.2.2, 1, .inr (.inl f2))) :: X2) ex) 2 12 := by
  refine zn_in (cc := cL_restore) (maxL := 4) (ret := some .int) (hh := [(0, 9, 12, 28), (0, 9, 15, 15)]) (by decide) rfl (Nat.le_of_ble_eq_true rfl) ?_
  intro p e s m below meth c hx hb hr hml hts hown hlocks hK ht hN A hA hP hD hS hAm ls hl
  replace hl : lv_has ls 4 [(0, .ref h0), (1, .int p0), (2, .ref ho)] := hl
  refine lv_aload_n hx hb dL_restore_0 rfl (lv_at hl 2 rfl) ?_
  refine lv_iconst (v := 0) hx hb dL_restore_1 (by decide) ?_
  refine lv_aload_n hx hb dL_restore_2 rfl (lv_at hl 0 rfl) ?_
  refine lv_iload_n hx hb dL_restore_3 rfl (lv_at hl 1 rfl) ?_
  refine zL_mid (As := [.int p0]) (tgt := 18) (off := 9) ⟨hx, hb, hml, hown, hts⟩ hr hlocks hM (cwV 1 hts gL_restore_X3_restore rfl rfl rfl hdV_X3_restore ⟨Nat.le_of_ble_eq_true rfl, Nat.le_of_ble_eq_true rfl⟩) hK hP hD hS hA hAm he hb0 rfl hl.1 rfl ⟨Nat.le_of_ble_eq_true rfl, Nat.le_of_ble_eq_true rfl⟩ dL_restore_4 dL_restore_7 dL_restore_8 dL_restore_9 (by decide) dL_restore_18 dL_restore_19 (fun hk => ?_) (fun hk H1 locs1 q ce hP1 hS1 hce hcv hcl => ?_)
  · rcases hres with ⟨-, h2, h3⟩ | ⟨h1, -, -⟩ | ⟨h1, -, -⟩
    · exact ⟨h2, h3⟩
    · rw [h1] at hk; exact absurd hk (by decide)
    · rw [h1] at hk; exact absurd hk (by decide)
  · rcases hres with ⟨h1, -, -⟩ | ⟨rfl, rfl, rfl⟩ | ⟨rfl, rfl, rfl⟩
    · exact absurd h1 hk
    · refine zL_hit (k := 1) hown hAm (by decide +kernel) [] ⟨0, 9, 12, 28⟩ [⟨0, 9, 15, 15⟩] (by rw [ht]; rfl) (fun _ h => absurd h List.not_mem_nil) (by decide) (by decide) (hts _ mL_restore_28) hce hcv hcl ?_
      refine lv_astore_n hx hb dL_restore_12 rfl hl (by decide) rfl (fun ls hl => ?_)
      refine lv_iconst (v := 1) hx hb dL_restore_13 (by decide) ?_
      exact zw_i hx hb hr hlocks hP1 hS1 dL_restore_14
    · refine zL_hit (k := 3) hown hAm (by decide +kernel) [⟨0, 9, 12, 28⟩] ⟨0, 9, 15, 15⟩ [] (by rw [ht]; rfl) (fun z hz => by obtain rfl := List.mem_singleton.mp hz; exact Or.inr ⟨by decide, _, hts _ mL_restore_28, hN.2.1⟩) (by decide) (by decide) (hts _ mL_restore_15) hce hcv hcl ?_
      refine lv_astore_n hx hb dL_restore_15 rfl hl (by decide) rfl (fun ls hl => ?_)
      refine lv_iconst (v := 2) hx hb dL_restore_16 (by decide) ?_
      exact zw_i hx hb hr hlocks hP1 hS1 dL_restore_17
