/-! small ones -/
def fL_thrown (a0 : Int32) : Option (Int32) :=
  if a0 = (-9999001) then
    some 1
  else
    if a0 = (-9999002) then
      some 1
    else
      if a0 = (-9999003) then
        some 1
      else
        some 0
theorem mL_thrown_40 : Cond.constant RL 40 (-9999001) ∈ wsL_thrown := by decide +kernel
theorem mL_thrown_15 : Cond.constant RL 15 (-9999002) ∈ wsL_thrown := by decide +kernel
theorem mL_thrown_26 : Cond.constant RL 26 (-9999003) ∈ wsL_thrown := by decide +kernel
set_option maxRecDepth 100000 in
set_option maxHeartbeats 4000000 in
theorem kL_thrown (l : Launch) (g : zG) (a0 : Int32) {r : Int32} (h : fL_thrown a0 = some r) : Mr l g yL_thrown wsL_thrown { frames := 0, cells := 0, slots := 0, locals := 0 } [.int a0] [] (zQi r) := by
  refine zr_in (cc := cL_thrown) (maxL := 1) (ret := (some .boolean)) (by decide) rfl (Nat.le_of_ble_eq_true rfl) ?_
  intro p e s m below meth c hx hb hr hml hts hown hlocks hP hK ls hl
  replace hl : lv_has ls 1 [(0, .int a0)] := hl
  unfold fL_thrown at h
  refine lv_iload_n hx hb dL_thrown_0 rfl (lv_at hl 0 rfl) ?_
  refine lv_ldc hx hb hown (hts _ mL_thrown_40) dL_thrown_1 ?_
  refine lv_icmp_eq (tgt := 18) hx hb dL_thrown_3 (by decide) (fun c1 => ?_) (fun c1 => ?_)
  · replace h := zt c1 h
    refine lv_iconst (v := 1) hx hb dL_thrown_18 (by decide) ?_
    refine lv_goto (tgt := 23) hx hb dL_thrown_19 (by decide) ?_
    cases h
    exact zr_z hx hb hr hlocks (by decide) dL_thrown_23
  · replace h := zf c1 h
    refine lv_iload_n hx hb dL_thrown_6 rfl (lv_at hl 0 rfl) ?_
    refine lv_ldc hx hb hown (hts _ mL_thrown_15) dL_thrown_7 ?_
    refine lv_icmp_eq (tgt := 18) hx hb dL_thrown_9 (by decide) (fun c2 => ?_) (fun c2 => ?_)
    · replace h := zt c2 h
      refine lv_iconst (v := 1) hx hb dL_thrown_18 (by decide) ?_
      refine lv_goto (tgt := 23) hx hb dL_thrown_19 (by decide) ?_
      cases h
      exact zr_z hx hb hr hlocks (by decide) dL_thrown_23
    · replace h := zf c2 h
      refine lv_iload_n hx hb dL_thrown_12 rfl (lv_at hl 0 rfl) ?_
      refine lv_ldc hx hb hown (hts _ mL_thrown_26) dL_thrown_13 ?_
      refine lv_icmp_ne (tgt := 22) hx hb dL_thrown_15 (by decide) (fun c3 => ?_) (fun c3 => ?_)
      · replace h := zf c3 h
        refine lv_iconst (v := 0) hx hb dL_thrown_22 (by decide) ?_
        cases h
        exact zr_z hx hb hr hlocks (by decide) dL_thrown_23
      · replace h := zt c3 h
        refine lv_iconst (v := 1) hx hb dL_thrown_18 (by decide) ?_
        refine lv_goto (tgt := 23) hx hb dL_thrown_19 (by decide) ?_
        cases h
        exact zr_z hx hb hr hlocks (by decide) dL_thrown_23
def fL_cell (na : Nat) (ro : Nat → Int32) (a1 : Int32) : Option (Int32) :=
  if (Int32.ofNat na) ≤ a1 then
    some ((((15518623) * (a1 + 3)) + 10859) &&& (2147483647))
  else
    if a1 < 0 ∨ na ≤ a1.toNatClampNeg then none else
    some ((ro a1.toNatClampNeg) &&& (2147483647))
theorem mL_cell_162 : Cond.constant RL 162 (15518623) ∈ wsL_cell := by decide +kernel
theorem mL_cell_163 : Cond.constant RL 163 (2147483647) ∈ wsL_cell := by decide +kernel
set_option maxRecDepth 100000 in
set_option maxHeartbeats 4000000 in
theorem kL_cell (l : Launch) (g : zG) (na : Nat) (qr : Nat) (ro : Nat → Int32) (a1 : Int32) {r : Int32} (h : fL_cell na ro a1 = some r) : Mr l g yL_cell wsL_cell { frames := 0, cells := 0, slots := 0, locals := 0 } [.ref qr, .int a1] (zF1 g na qr ro) (zQi r) := by
  refine zr_in (cc := cL_cell) (maxL := 2) (ret := (some .int)) (by decide) rfl (Nat.le_of_ble_eq_true rfl) ?_
  intro p e s m below meth c hx hb hr hml hts hown hlocks hP hK ls hl
  replace hl : lv_has ls 2 [(0, .ref qr), (1, .int a1)] := hl
  unfold fL_cell at h
  refine lv_iload_n hx hb dL_cell_0 rfl (lv_at hl 1 rfl) ?_
  refine lv_aload_n hx hb dL_cell_1 rfl (lv_at hl 0 rfl) ?_
  refine za_alen hx hb hK hP 0 rfl dL_cell_2 ?_
  refine lv_icmp_ge (tgt := 12) hx hb dL_cell_3 (by decide) (fun c1 => ?_) (fun c1 => ?_)
  · replace h := zt c1 h
    refine lv_ldc hx hb hown (hts _ mL_cell_162) dL_cell_12 ?_
    refine lv_iload_n hx hb dL_cell_14 rfl (lv_at hl 1 rfl) ?_
    refine lv_iconst (v := 3) hx hb dL_cell_15 (by decide) ?_
    refine lv_iadd hx hb dL_cell_16 ?_
    refine lv_imul hx hb dL_cell_17 ?_
    refine lv_sipush (v := 10859) hx hb dL_cell_18 (by decide) ?_
    refine lv_iadd hx hb dL_cell_21 ?_
    refine lv_ldc hx hb hown (hts _ mL_cell_163) dL_cell_22 ?_
    refine lv_iand hx hb dL_cell_24 ?_
    cases h
    exact zr_i hx hb hr hlocks dL_cell_25
  · replace h := zf c1 h
    refine lv_aload_n hx hb dL_cell_6 rfl (lv_at hl 0 rfl) ?_
    refine lv_iload_n hx hb dL_cell_7 rfl (lv_at hl 1 rfl) ?_
    obtain ⟨i2, h⟩ := zi h
    refine za_ild hx hb hK hP 0 rfl _ rfl i2 dL_cell_8 ?_
    refine lv_goto (tgt := 22) hx hb dL_cell_9 (by decide) ?_
    refine lv_ldc hx hb hown (hts _ mL_cell_163) dL_cell_22 ?_
    refine lv_iand hx hb dL_cell_24 ?_
    cases h
    exact zr_i hx hb hr hlocks dL_cell_25
