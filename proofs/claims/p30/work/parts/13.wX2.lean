abbrev zTx (g : zG) (h0 h1 h2 : Nat) (ch : Nat → Int32) (nu : Nat → Int32) (le : Int32) (ta : Int32) (lt : Int32) : va_W := [(h0, .inr (2, [.ref h1, .ref h2, .int le, .int ta, .int lt])), (h1, .inl (g.2.2.1, 120, .inl ch)), (h2, .inl (g.2.1, 3, .inl nu))]
abbrev zP0 (g : zG) (h0 : Nat) (vs : Value) (ol : Int32) (pz : Int32) : va_W := [(h0, .inr (1, [vs, .int ol, .int pz]))]
def fX2_isFull (le : Int32) : Option (Int32) :=
  if le < 120 then
    some 0
  else
    some 1
theorem mX2_isFull_19 : Cond.fieldLink RX2 19 "IdleDiscards$Text" "length" "I" ∈ wsX2_isFull := by decide +kernel
theorem uX2_isFull_X2 : ∀ w ∈ wsX20, w ∈ wsX2_isFull := by decide +kernel
set_option maxRecDepth 100000 in
set_option maxHeartbeats 4000000 in
theorem kX2_isFull (l : Launch) (g : zG) (h0 h1 h2 : Nat) (ch : Nat → Int32) (nu : Nat → Int32) (le : Int32) (ta : Int32) (lt : Int32) {r : Int32} (h : fX2_isFull le = some r) : Mr l g yX2_isFull wsX2_isFull { frames := 0, cells := 0, slots := 0, locals := 0 } [.ref h0] (zTx g h0 h1 h2 ch nu le ta lt) (zQi r) := by
  refine zr_in (cc := cX2_isFull) (maxL := 1) (ret := (some .boolean)) (by decide) rfl (Nat.le_of_ble_eq_true rfl) ?_
  intro p e s m below meth c hx hb hr hml hts hown hlocks hP hK ls hl
  replace hl : lv_has ls 1 [(0, .ref h0)] := hl
  unfold fX2_isFull at h
  refine lv_aload_n hx hb dX2_isFull_0 rfl (lv_at hl 0 rfl) ?_
  refine va_get (ci := 2) (v := .int le) (C := RX2) (T := TX2) (N := 5) hx hb hts uX2_isFull_X2 hown hK hP 0 rfl rfl 2 (by decide) (hts _ mX2_isFull_19) (fun _ h9 => h9) rfl dX2_isFull_1 ?_
  refine lv_bipush (v := 120) hx hb dX2_isFull_4 (by decide) ?_
  refine lv_icmp_lt (tgt := 13) hx hb dX2_isFull_6 (by decide) (fun c1 => ?_) (fun c1 => ?_)
  · replace h := zt c1 h
    refine lv_iconst (v := 0) hx hb dX2_isFull_13 (by decide) ?_
    cases h
    exact zr_z hx hb hr hlocks (by decide) dX2_isFull_14
  · replace h := zf c1 h
    refine lv_iconst (v := 1) hx hb dX2_isFull_9 (by decide) ?_
    refine lv_goto (tgt := 14) hx hb dX2_isFull_10 (by decide) ?_
    cases h
    exact zr_z hx hb hr hlocks (by decide) dX2_isFull_14
def fX2_add (ch : Nat → Int32) (le : Int32) (a1 : Int32) : Option (Int32 × (Nat → Int32) × (Int32)) :=
  if le < 0 ∨ 120 ≤ le.toNatClampNeg then none else
  some ((le + 1), (upd ch le.toNatClampNeg (vp_nar .char a1)), (le + 1))
theorem mX2_add_9 : Cond.fieldLink RX2 9 "IdleDiscards$Text" "chars" "[C" ∈ wsX2_add := by decide +kernel
theorem uX2_add_X2 : ∀ w ∈ wsX20, w ∈ wsX2_add := by decide +kernel
theorem mX2_add_19 : Cond.fieldLink RX2 19 "IdleDiscards$Text" "length" "I" ∈ wsX2_add := by decide +kernel
set_option maxRecDepth 100000 in
set_option maxHeartbeats 4000000 in
theorem kX2_add (l : Launch) (g : zG) (h0 h1 h2 : Nat) (ch : Nat → Int32) (nu : Nat → Int32) (le : Int32) (ta : Int32) (lt : Int32) (a1 : Int32) {r : Int32} {ch' : Nat → Int32} {le' : Int32} (h : fX2_add ch le a1 = some (r, ch', le')) : Mw l g yX2_add wsX2_add { frames := 0, cells := 0, slots := 0, locals := 0 } [.ref h0, .int a1] (zTx g h0 h1 h2 ch nu le ta lt) (zWi g (zTx g h0 h1 h2 ch' nu le' ta lt) r) := by
  refine zw_in (cc := cX2_add) (maxL := 2) (ret := (some .int)) (by decide) rfl (Nat.le_of_ble_eq_true rfl) ?_
  intro p e s m below meth c hx hb hr hml hts hown hlocks hK A hA hP hD hS ls hl
  replace hl : lv_has ls 2 [(0, .ref h0), (1, .int a1)] := hl
  unfold fX2_add at h
  refine lv_aload_n hx hb dX2_add_0 rfl (lv_at hl 0 rfl) ?_
  refine va_get (ci := 2) (v := .ref h1) (C := RX2) (T := TX2) (N := 5) hx hb hts uX2_add_X2 hown hK hP 0 rfl rfl 0 (by decide) (hts _ mX2_add_9) (fun _ h9 => h9) rfl dX2_add_1 ?_
  refine lv_aload_n hx hb dX2_add_4 rfl (lv_at hl 0 rfl) ?_
  refine va_get (ci := 2) (v := .int le) (C := RX2) (T := TX2) (N := 5) hx hb hts uX2_add_X2 hown hK hP 0 rfl rfl 2 (by decide) (hts _ mX2_add_19) (fun _ h9 => h9) rfl dX2_add_5 ?_
  refine lv_iload_n hx hb dX2_add_8 rfl (lv_at hl 1 rfl) ?_
  obtain ⟨i1, h⟩ := zi h
  refine za_cst hx hb hK hP hD hS 1 rfl _ rfl i1 dX2_add_9 (fun H locs hP hD hS => ?_)
  replace hP : zP g (zTx g h0 h1 h2 (upd ch le.toNatClampNeg (vp_nar .char a1)) nu le ta lt) H := hP
  replace hD : va_D A (zTx g h0 h1 h2 (upd ch le.toNatClampNeg (vp_nar .char a1)) nu le ta lt) := hD
  refine lv_aload_n hx hb dX2_add_10 rfl (lv_at hl 0 rfl) ?_
  refine lv_dup hx hb dX2_add_11 rfl ?_
  refine va_get (ci := 2) (v := .int le) (C := RX2) (T := TX2) (N := 5) hx hb hts uX2_add_X2 hown hK hP 0 rfl rfl 2 (by decide) (hts _ mX2_add_19) (fun _ h9 => h9) rfl dX2_add_12 ?_
  refine lv_iconst (v := 1) hx hb dX2_add_15 (by decide) ?_
  refine lv_iadd hx hb dX2_add_16 ?_
  refine va_put (ci := 2) (v := .int (le + 1)) (ty := .int) (C := RX2) (T := TX2) (N := 5) hx hb hts uX2_add_X2 tyX2 tyX2_ok nmX2 hown hK hP hD hS 0 rfl rfl 2 (by decide) (hts _ mX2_add_19) (fun _ h9 => h9) rfl (by decide +kernel) rfl rfl (Nat.le_of_ble_eq_true rfl) dX2_add_17 (fun H locs hP hD hS => ?_)
  replace hP : zP g (zTx g h0 h1 h2 (upd ch le.toNatClampNeg (vp_nar .char a1)) nu (le + 1) ta lt) H := hP
  replace hD : va_D A (zTx g h0 h1 h2 (upd ch le.toNatClampNeg (vp_nar .char a1)) nu (le + 1) ta lt) := hD
  refine lv_aload_n hx hb dX2_add_20 rfl (lv_at hl 0 rfl) ?_
  refine va_get (ci := 2) (v := .int (le + 1)) (C := RX2) (T := TX2) (N := 5) hx hb hts uX2_add_X2 hown hK hP 0 rfl rfl 2 (by decide) (hts _ mX2_add_19) (fun _ h9 => h9) rfl dX2_add_21 ?_
  cases h
  exact zw_i hx hb hr hlocks hP hS dX2_add_24
def fX2_beginCommands  : Option ((Int32)) :=
  some 1
theorem mX2_beginCommands_23 : Cond.fieldLink RX2 23 "IdleDiscards$Text" "at" "I" ∈ wsX2_beginCommands := by decide +kernel
theorem uX2_beginCommands_X2 : ∀ w ∈ wsX20, w ∈ wsX2_beginCommands := by decide +kernel
set_option maxRecDepth 100000 in
set_option maxHeartbeats 4000000 in
theorem kX2_beginCommands (l : Launch) (g : zG) (h0 h1 h2 : Nat) (ch : Nat → Int32) (nu : Nat → Int32) (le : Int32) (ta : Int32) (lt : Int32) {ta' : Int32} (h : fX2_beginCommands = some ta') : Mw l g yX2_beginCommands wsX2_beginCommands { frames := 0, cells := 0, slots := 0, locals := 0 } [.ref h0] (zTx g h0 h1 h2 ch nu le ta lt) (zWv g (zTx g h0 h1 h2 ch nu le ta' lt)) := by
  refine zw_in (cc := cX2_beginCommands) (maxL := 1) (ret := none) (by decide) rfl (Nat.le_of_ble_eq_true rfl) ?_
  intro p e s m below meth c hx hb hr hml hts hown hlocks hK A hA hP hD hS ls hl
  replace hl : lv_has ls 1 [(0, .ref h0)] := hl
  unfold fX2_beginCommands at h
  refine lv_aload_n hx hb dX2_beginCommands_0 rfl (lv_at hl 0 rfl) ?_
  refine lv_iconst (v := 1) hx hb dX2_beginCommands_1 (by decide) ?_
  refine va_put (ci := 2) (v := .int 1) (ty := .int) (C := RX2) (T := TX2) (N := 5) hx hb hts uX2_beginCommands_X2 tyX2 tyX2_ok nmX2 hown hK hP hD hS 0 rfl rfl 3 (by decide) (hts _ mX2_beginCommands_23) (fun _ h9 => h9) rfl (by decide +kernel) rfl rfl (Nat.le_of_ble_eq_true rfl) dX2_beginCommands_2 (fun H locs hP hD hS => ?_)
  replace hP : zP g (zTx g h0 h1 h2 ch nu le 1 lt) H := hP
  replace hD : va_D A (zTx g h0 h1 h2 ch nu le 1 lt) := hD
  cases h
  exact zw_v hx hb hr hlocks hP hS dX2_beginCommands_5
def fX2_letter (lt : Int32) : Option (Int32) :=
  some lt
theorem mX2_letter_30 : Cond.fieldLink RX2 30 "IdleDiscards$Text" "letter" "I" ∈ wsX2_letter := by decide +kernel
theorem uX2_letter_X2 : ∀ w ∈ wsX20, w ∈ wsX2_letter := by decide +kernel
set_option maxRecDepth 100000 in
set_option maxHeartbeats 4000000 in
theorem kX2_letter (l : Launch) (g : zG) (h0 h1 h2 : Nat) (ch : Nat → Int32) (nu : Nat → Int32) (le : Int32) (ta : Int32) (lt : Int32) {r : Int32} (h : fX2_letter lt = some r) : Mr l g yX2_letter wsX2_letter { frames := 0, cells := 0, slots := 0, locals := 0 } [.ref h0] (zTx g h0 h1 h2 ch nu le ta lt) (zQi r) := by
  refine zr_in (cc := cX2_letter) (maxL := 1) (ret := (some .int)) (by decide) rfl (Nat.le_of_ble_eq_true rfl) ?_
  intro p e s m below meth c hx hb hr hml hts hown hlocks hP hK ls hl
  replace hl : lv_has ls 1 [(0, .ref h0)] := hl
  unfold fX2_letter at h
  refine lv_aload_n hx hb dX2_letter_0 rfl (lv_at hl 0 rfl) ?_
  refine va_get (ci := 2) (v := .int lt) (C := RX2) (T := TX2) (N := 5) hx hb hts uX2_letter_X2 hown hK hP 0 rfl rfl 4 (by decide) (hts _ mX2_letter_30) (fun _ h9 => h9) rfl dX2_letter_1 ?_
  cases h
  exact zr_i hx hb hr hlocks dX2_letter_4
def fX2_number (nu : Nat → Int32) (a1 : Int32) : Option (Int32) :=
  if a1 < 0 ∨ 3 ≤ a1.toNatClampNeg then none else
  some (nu a1.toNatClampNeg)
theorem mX2_number_15 : Cond.fieldLink RX2 15 "IdleDiscards$Text" "numbers" "[I" ∈ wsX2_number := by decide +kernel
theorem uX2_number_X2 : ∀ w ∈ wsX20, w ∈ wsX2_number := by decide +kernel
set_option maxRecDepth 100000 in
set_option maxHeartbeats 4000000 in
theorem kX2_number (l : Launch) (g : zG) (h0 h1 h2 : Nat) (ch : Nat → Int32) (nu : Nat → Int32) (le : Int32) (ta : Int32) (lt : Int32) (a1 : Int32) {r : Int32} (h : fX2_number nu a1 = some r) : Mr l g yX2_number wsX2_number { frames := 0, cells := 0, slots := 0, locals := 0 } [.ref h0, .int a1] (zTx g h0 h1 h2 ch nu le ta lt) (zQi r) := by
  refine zr_in (cc := cX2_number) (maxL := 2) (ret := (some .int)) (by decide) rfl (Nat.le_of_ble_eq_true rfl) ?_
  intro p e s m below meth c hx hb hr hml hts hown hlocks hP hK ls hl
  replace hl : lv_has ls 2 [(0, .ref h0), (1, .int a1)] := hl
  unfold fX2_number at h
  refine lv_aload_n hx hb dX2_number_0 rfl (lv_at hl 0 rfl) ?_
  refine va_get (ci := 2) (v := .ref h2) (C := RX2) (T := TX2) (N := 5) hx hb hts uX2_number_X2 hown hK hP 0 rfl rfl 1 (by decide) (hts _ mX2_number_15) (fun _ h9 => h9) rfl dX2_number_1 ?_
  refine lv_iload_n hx hb dX2_number_4 rfl (lv_at hl 1 rfl) ?_
  obtain ⟨i1, h⟩ := zi h
  refine za_ild hx hb hK hP 2 rfl _ rfl i1 dX2_number_5 ?_
  cases h
  exact zr_i hx hb hr hlocks dX2_number_6
def fX2_readNumber_31 (ch : Nat → Int32) (le : Int32) : Nat → Int32 → Int32 → Int32 → Int32 → Int32 → Int32 → Int32 → (Nat → Int32) → (Int32) → Option (Int32 × (Nat → Int32) × (Int32))
  | 0, _, _, _, _, _, _, _, _, _ => none
  | n + 1, v1, v2, v3, v4, v5, v6, v7, nu, ta =>
    if v2 ≤ v7 then
        if v1 < 0 ∨ 3 ≤ v1.toNatClampNeg then none else
        some (1, (upd nu v1.toNatClampNeg v6), ta)
      else
        if le ≤ ta then
          some (0, nu, ta)
        else
          if ta < 0 ∨ 120 ≤ ta.toNatClampNeg then none else
          if (ch ta.toNatClampNeg) < 48 then
            some (0, nu, ta)
          else
            if ta < 0 ∨ 120 ≤ ta.toNatClampNeg then none else
            if (ch ta.toNatClampNeg) ≤ 57 then
              if ta < 0 ∨ 120 ≤ ta.toNatClampNeg then none else
              if v4 < (v6 + (((ch ta.toNatClampNeg) - 48) * v5)) then
                some (0, nu, ta)
              else
                if v3 ≤ (((v6 + (((ch ta.toNatClampNeg) - 48) * v5)) + v5) - 1) then
                  fX2_readNumber_31 ch le n v1 v2 v3 v4 (v5 / 10) (v6 + (((ch ta.toNatClampNeg) - 48) * v5)) (v7 + 1) nu (ta + 1)
                else
                  some (0, nu, ta)
            else
              some (0, nu, ta)
def fX2_readNumber_6 (ch : Nat → Int32) (le : Int32) : Nat → Int32 → Int32 → Int32 → Int32 → Int32 → Int32 → (Nat → Int32) → (Int32) → Option (Int32 × (Nat → Int32) × (Int32))
  | 0, _, _, _, _, _, _, _, _ => none
  | n + 1, v1, v2, v3, v4, v5, v6, nu, ta =>
    if v2 ≤ v6 then
        fX2_readNumber_31 ch le 1000 v1 v2 v3 v4 v5 0 0 nu ta
      else
        fX2_readNumber_6 ch le n v1 v2 v3 v4 (v5 * 10) (v6 + 1) nu ta
def fX2_readNumber (ch : Nat → Int32) (nu : Nat → Int32) (le : Int32) (ta : Int32) (a1 : Int32) (a2 : Int32) (a3 : Int32) (a4 : Int32) : Option (Int32 × (Nat → Int32) × (Int32)) :=
  fX2_readNumber_6 ch le 1000 a1 a2 a3 a4 1 1 nu ta
theorem mX2_readNumber_15 : Cond.fieldLink RX2 15 "IdleDiscards$Text" "numbers" "[I" ∈ wsX2_readNumber := by decide +kernel
theorem uX2_readNumber_X2 : ∀ w ∈ wsX20, w ∈ wsX2_readNumber := by decide +kernel
theorem mX2_readNumber_23 : Cond.fieldLink RX2 23 "IdleDiscards$Text" "at" "I" ∈ wsX2_readNumber := by decide +kernel
theorem mX2_readNumber_19 : Cond.fieldLink RX2 19 "IdleDiscards$Text" "length" "I" ∈ wsX2_readNumber := by decide +kernel
theorem mX2_readNumber_9 : Cond.fieldLink RX2 9 "IdleDiscards$Text" "chars" "[C" ∈ wsX2_readNumber := by decide +kernel
set_option maxRecDepth 100000 in
set_option maxHeartbeats 4000000 in
theorem kX2_readNumber (l : Launch) (g : zG) (h0 h1 h2 : Nat) (ch : Nat → Int32) (nu : Nat → Int32) (le : Int32) (ta : Int32) (lt : Int32) (a1 : Int32) (a2 : Int32) (a3 : Int32) (a4 : Int32) {r : Int32} {nu' : Nat → Int32} {ta' : Int32} (h : fX2_readNumber ch nu le ta a1 a2 a3 a4 = some (r, nu', ta')) : Mw l g yX2_readNumber wsX2_readNumber { frames := 0, cells := 0, slots := 0, locals := 0 } [.ref h0, .int a1, .int a2, .int a3, .int a4] (zTx g h0 h1 h2 ch nu le ta lt) (zWi g (zTx g h0 h1 h2 ch nu' le ta' lt) r) := by
  refine zw_in (cc := cX2_readNumber) (maxL := 8) (ret := (some .boolean)) (by decide) rfl (Nat.le_of_ble_eq_true rfl) ?_
  intro p e s m below meth c hx hb hr hml hts hown hlocks hK A hA hP hD hS ls hl
  replace hl : lv_has ls 8 [(0, .ref h0), (1, .int a1), (2, .int a2), (3, .int a3), (4, .int a4)] := hl
  have loop_31 : ∀ (n : Nat) (v1 : Int32) (v2 : Int32) (v3 : Int32) (v4 : Int32) (v5 : Int32) (v6 : Int32) (v7 : Int32) (nu : (Nat → Int32)) (ta : (Int32)), fX2_readNumber_31 ch le n v1 v2 v3 v4 v5 v6 v7 nu ta = some (r, nu', ta') → ∀ (H : Heap) (locs : List Loc), zP g (zTx g h0 h1 h2 ch nu le ta lt) H → va_D A (zTx g h0 h1 h2 ch nu le ta lt) → va_S A s.heap H locs → ∀ (ls : Array Slot), lv_has ls 8 [(0, .ref h0), (1, .int v1), (2, .int v2), (3, .int v3), (4, .int v4), (5, .int v5), (6, .int v6), (7, .int v7)] → W p l e ({ frames := 0, cells := 0, slots := 0, locals := 0 } : Room) s m [.ref h0, .int a1, .int a2, .int a3, .int a4].toArray below meth c H locs 0 0 (MQ below (zWi g (zTx g h0 h1 h2 ch nu' le ta' lt) r A) [.ref h0, .int a1, .int a2, .int a3, .int a4].toArray s 0 0 A) (F0 m 31 ls []) := by
    intro n
    induction n with
    | zero => intro v1 v2 v3 v4 v5 v6 v7 nu ta h H locs hP hD hS ls hl; exact zn h
    | succ n ih =>
      intro v1 v2 v3 v4 v5 v6 v7 nu ta h H locs hP hD hS ls hl
      rw [fX2_readNumber_31] at h
      refine lv_iload hx hb dX2_readNumber_31 (lv_at hl 7 rfl) ?_
      refine lv_iload_n hx hb dX2_readNumber_33 rfl (lv_at hl 2 rfl) ?_
      refine lv_icmp_ge (tgt := 141) hx hb dX2_readNumber_34 (by decide) (fun c1 => ?_) (fun c1 => ?_)
      · replace h := zt c1 h
        refine lv_aload_n hx hb dX2_readNumber_141 rfl (lv_at hl 0 rfl) ?_
        refine va_get (ci := 2) (v := .ref h2) (C := RX2) (T := TX2) (N := 5) hx hb hts uX2_readNumber_X2 hown hK hP 0 rfl rfl 1 (by decide) (hts _ mX2_readNumber_15) (fun _ h9 => h9) rfl dX2_readNumber_142 ?_
        refine lv_iload_n hx hb dX2_readNumber_145 rfl (lv_at hl 1 rfl) ?_
        refine lv_iload hx hb dX2_readNumber_146 (lv_at hl 6 rfl) ?_
        obtain ⟨i2, h⟩ := zi h
        refine za_ist hx hb hK hP hD hS 2 rfl _ rfl i2 dX2_readNumber_148 (fun H locs hP hD hS => ?_)
        replace hP : zP g (zTx g h0 h1 h2 ch (upd nu v1.toNatClampNeg v6) le ta lt) H := hP
        replace hD : va_D A (zTx g h0 h1 h2 ch (upd nu v1.toNatClampNeg v6) le ta lt) := hD
        refine lv_iconst (v := 1) hx hb dX2_readNumber_149 (by decide) ?_
        cases h
        exact zw_z hx hb hr hlocks (by decide) hP hS dX2_readNumber_150
      · replace h := zf c1 h
        refine lv_aload_n hx hb dX2_readNumber_37 rfl (lv_at hl 0 rfl) ?_
        refine va_get (ci := 2) (v := .int ta) (C := RX2) (T := TX2) (N := 5) hx hb hts uX2_readNumber_X2 hown hK hP 0 rfl rfl 3 (by decide) (hts _ mX2_readNumber_23) (fun _ h9 => h9) rfl dX2_readNumber_38 ?_
        refine lv_aload_n hx hb dX2_readNumber_41 rfl (lv_at hl 0 rfl) ?_
        refine va_get (ci := 2) (v := .int le) (C := RX2) (T := TX2) (N := 5) hx hb hts uX2_readNumber_X2 hown hK hP 0 rfl rfl 2 (by decide) (hts _ mX2_readNumber_19) (fun _ h9 => h9) rfl dX2_readNumber_42 ?_
        refine lv_icmp_ge (tgt := 76) hx hb dX2_readNumber_45 (by decide) (fun c3 => ?_) (fun c3 => ?_)
        · replace h := zt c3 h
          refine lv_iconst (v := 0) hx hb dX2_readNumber_76 (by decide) ?_
          cases h
          exact zw_z hx hb hr hlocks (by decide) hP hS dX2_readNumber_77
        · replace h := zf c3 h
          refine lv_aload_n hx hb dX2_readNumber_48 rfl (lv_at hl 0 rfl) ?_
          refine va_get (ci := 2) (v := .ref h1) (C := RX2) (T := TX2) (N := 5) hx hb hts uX2_readNumber_X2 hown hK hP 0 rfl rfl 0 (by decide) (hts _ mX2_readNumber_9) (fun _ h9 => h9) rfl dX2_readNumber_49 ?_
          refine lv_aload_n hx hb dX2_readNumber_52 rfl (lv_at hl 0 rfl) ?_
          refine va_get (ci := 2) (v := .int ta) (C := RX2) (T := TX2) (N := 5) hx hb hts uX2_readNumber_X2 hown hK hP 0 rfl rfl 3 (by decide) (hts _ mX2_readNumber_23) (fun _ h9 => h9) rfl dX2_readNumber_53 ?_
          obtain ⟨i4, h⟩ := zi h
          refine za_cld hx hb hK hP 1 rfl _ rfl i4 dX2_readNumber_56 ?_
          refine lv_bipush (v := 48) hx hb dX2_readNumber_57 (by decide) ?_
          refine lv_icmp_lt (tgt := 76) hx hb dX2_readNumber_59 (by decide) (fun c5 => ?_) (fun c5 => ?_)
          · replace h := zt c5 h
            refine lv_iconst (v := 0) hx hb dX2_readNumber_76 (by decide) ?_
            cases h
            exact zw_z hx hb hr hlocks (by decide) hP hS dX2_readNumber_77
          · replace h := zf c5 h
            refine lv_aload_n hx hb dX2_readNumber_62 rfl (lv_at hl 0 rfl) ?_
            refine va_get (ci := 2) (v := .ref h1) (C := RX2) (T := TX2) (N := 5) hx hb hts uX2_readNumber_X2 hown hK hP 0 rfl rfl 0 (by decide) (hts _ mX2_readNumber_9) (fun _ h9 => h9) rfl dX2_readNumber_63 ?_
            refine lv_aload_n hx hb dX2_readNumber_66 rfl (lv_at hl 0 rfl) ?_
            refine va_get (ci := 2) (v := .int ta) (C := RX2) (T := TX2) (N := 5) hx hb hts uX2_readNumber_X2 hown hK hP 0 rfl rfl 3 (by decide) (hts _ mX2_readNumber_23) (fun _ h9 => h9) rfl dX2_readNumber_67 ?_
            obtain ⟨i6, h⟩ := zi h
            refine za_cld hx hb hK hP 1 rfl _ rfl i6 dX2_readNumber_70 ?_
            refine lv_bipush (v := 57) hx hb dX2_readNumber_71 (by decide) ?_
            refine lv_icmp_le (tgt := 78) hx hb dX2_readNumber_73 (by decide) (fun c7 => ?_) (fun c7 => ?_)
            · replace h := zt c7 h
              refine lv_iload hx hb dX2_readNumber_78 (lv_at hl 6 rfl) ?_
              refine lv_aload_n hx hb dX2_readNumber_80 rfl (lv_at hl 0 rfl) ?_
              refine va_get (ci := 2) (v := .ref h1) (C := RX2) (T := TX2) (N := 5) hx hb hts uX2_readNumber_X2 hown hK hP 0 rfl rfl 0 (by decide) (hts _ mX2_readNumber_9) (fun _ h9 => h9) rfl dX2_readNumber_81 ?_
              refine lv_aload_n hx hb dX2_readNumber_84 rfl (lv_at hl 0 rfl) ?_
              refine va_get (ci := 2) (v := .int ta) (C := RX2) (T := TX2) (N := 5) hx hb hts uX2_readNumber_X2 hown hK hP 0 rfl rfl 3 (by decide) (hts _ mX2_readNumber_23) (fun _ h9 => h9) rfl dX2_readNumber_85 ?_
              obtain ⟨i8, h⟩ := zi h
              refine za_cld hx hb hK hP 1 rfl _ rfl i8 dX2_readNumber_88 ?_
              refine lv_bipush (v := 48) hx hb dX2_readNumber_89 (by decide) ?_
              refine lv_isub hx hb dX2_readNumber_91 ?_
              refine lv_iload hx hb dX2_readNumber_92 (lv_at hl 5 rfl) ?_
              refine lv_imul hx hb dX2_readNumber_94 ?_
              refine lv_iadd hx hb dX2_readNumber_95 ?_
              refine lv_istore (lv' := [(6, .int (v6 + (((ch ta.toNatClampNeg) - 48) * v5))), (0, .ref h0), (1, .int v1), (2, .int v2), (3, .int v3), (4, .int v4), (5, .int v5), (7, .int v7)]) hx hb dX2_readNumber_96 hl (by decide) rfl (fun ls hl => ?_)
              refine lv_iload hx hb dX2_readNumber_98 (lv_at hl 0 rfl) ?_
              refine lv_iload hx hb dX2_readNumber_100 (lv_at hl 5 rfl) ?_
              refine lv_icmp_gt (tgt := 116) hx hb dX2_readNumber_102 (by decide) (fun c9 => ?_) (fun c9 => ?_)
              · replace h := zt c9 h
                refine lv_iconst (v := 0) hx hb dX2_readNumber_116 (by decide) ?_
                cases h
                exact zw_z hx hb hr hlocks (by decide) hP hS dX2_readNumber_117
              · replace h := zf c9 h
                refine lv_iload hx hb dX2_readNumber_105 (lv_at hl 0 rfl) ?_
                refine lv_iload hx hb dX2_readNumber_107 (lv_at hl 6 rfl) ?_
                refine lv_iadd hx hb dX2_readNumber_109 ?_
                refine lv_iconst (v := 1) hx hb dX2_readNumber_110 (by decide) ?_
                refine lv_isub hx hb dX2_readNumber_111 ?_
                refine lv_iload_n hx hb dX2_readNumber_112 rfl (lv_at hl 4 rfl) ?_
                refine lv_icmp_ge (tgt := 118) hx hb dX2_readNumber_113 (by decide) (fun c10 => ?_) (fun c10 => ?_)
                · replace h := zt c10 h
                  refine lv_aload_n hx hb dX2_readNumber_118 rfl (lv_at hl 1 rfl) ?_
                  refine lv_dup hx hb dX2_readNumber_119 rfl ?_
                  refine va_get (ci := 2) (v := .int ta) (C := RX2) (T := TX2) (N := 5) hx hb hts uX2_readNumber_X2 hown hK hP 0 rfl rfl 3 (by decide) (hts _ mX2_readNumber_23) (fun _ h9 => h9) rfl dX2_readNumber_120 ?_
                  refine lv_iconst (v := 1) hx hb dX2_readNumber_123 (by decide) ?_
                  refine lv_iadd hx hb dX2_readNumber_124 ?_
                  refine va_put (ci := 2) (v := .int (ta + 1)) (ty := .int) (C := RX2) (T := TX2) (N := 5) hx hb hts uX2_readNumber_X2 tyX2 tyX2_ok nmX2 hown hK hP hD hS 0 rfl rfl 3 (by decide) (hts _ mX2_readNumber_23) (fun _ h9 => h9) rfl (by decide +kernel) rfl rfl (Nat.le_of_ble_eq_true rfl) dX2_readNumber_125 (fun H locs hP hD hS => ?_)
                  replace hP : zP g (zTx g h0 h1 h2 ch nu le (ta + 1) lt) H := hP
                  replace hD : va_D A (zTx g h0 h1 h2 ch nu le (ta + 1) lt) := hD
                  refine lv_iload hx hb dX2_readNumber_128 (lv_at hl 6 rfl) ?_
                  refine lv_bipush (v := 10) hx hb dX2_readNumber_130 (by decide) ?_
                  refine lv_idiv hx hb dX2_readNumber_132 (by decide) ?_
                  refine lv_istore (lv' := [(5, .int (v5 / 10)), (6, .int (v6 + (((ch ta.toNatClampNeg) - 48) * v5))), (0, .ref h0), (1, .int v1), (2, .int v2), (3, .int v3), (4, .int v4), (7, .int v7)]) hx hb dX2_readNumber_133 hl (by decide) rfl (fun ls hl => ?_)
                  refine lv_iinc (v := (v7 + 1)) (lv' := [(7, .int (v7 + 1)), (5, .int (v5 / 10)), (6, .int (v6 + (((ch ta.toNatClampNeg) - 48) * v5))), (0, .ref h0), (1, .int v1), (2, .int v2), (3, .int v3), (4, .int v4)]) hx hb dX2_readNumber_135 hl (k := 7) rfl rfl (by decide) rfl (fun ls hl => ?_)
                  refine lv_goto (tgt := 31) hx hb dX2_readNumber_138 (by decide) ?_
                  exact ih v1 v2 v3 v4 (v5 / 10) (v6 + (((ch ta.toNatClampNeg) - 48) * v5)) (v7 + 1) nu (ta + 1) h H locs hP hD hS ls (lv_sub hl [3, 4, 5, 6, 7, 1, 2, 0] rfl)
                · replace h := zf c10 h
                  refine lv_iconst (v := 0) hx hb dX2_readNumber_116 (by decide) ?_
                  cases h
                  exact zw_z hx hb hr hlocks (by decide) hP hS dX2_readNumber_117
            · replace h := zf c7 h
              refine lv_iconst (v := 0) hx hb dX2_readNumber_76 (by decide) ?_
              cases h
              exact zw_z hx hb hr hlocks (by decide) hP hS dX2_readNumber_77
  have loop_6 : ∀ (n : Nat) (v1 : Int32) (v2 : Int32) (v3 : Int32) (v4 : Int32) (v5 : Int32) (v6 : Int32) (nu : (Nat → Int32)) (ta : (Int32)), fX2_readNumber_6 ch le n v1 v2 v3 v4 v5 v6 nu ta = some (r, nu', ta') → ∀ (H : Heap) (locs : List Loc), zP g (zTx g h0 h1 h2 ch nu le ta lt) H → va_D A (zTx g h0 h1 h2 ch nu le ta lt) → va_S A s.heap H locs → ∀ (ls : Array Slot), lv_has ls 8 [(0, .ref h0), (1, .int v1), (2, .int v2), (3, .int v3), (4, .int v4), (5, .int v5), (6, .int v6)] → W p l e ({ frames := 0, cells := 0, slots := 0, locals := 0 } : Room) s m [.ref h0, .int a1, .int a2, .int a3, .int a4].toArray below meth c H locs 0 0 (MQ below (zWi g (zTx g h0 h1 h2 ch nu' le ta' lt) r A) [.ref h0, .int a1, .int a2, .int a3, .int a4].toArray s 0 0 A) (F0 m 6 ls []) := by
    intro n
    induction n with
    | zero => intro v1 v2 v3 v4 v5 v6 nu ta h H locs hP hD hS ls hl; exact zn h
    | succ n ih =>
      intro v1 v2 v3 v4 v5 v6 nu ta h H locs hP hD hS ls hl
      rw [fX2_readNumber_6] at h
      refine lv_iload hx hb dX2_readNumber_6 (lv_at hl 6 rfl) ?_
      refine lv_iload_n hx hb dX2_readNumber_8 rfl (lv_at hl 2 rfl) ?_
      refine lv_icmp_ge (tgt := 25) hx hb dX2_readNumber_9 (by decide) (fun c11 => ?_) (fun c11 => ?_)
      · replace h := zt c11 h
        refine lv_iconst (v := 0) hx hb dX2_readNumber_25 (by decide) ?_
        refine lv_istore (lv' := [(6, .int 0), (0, .ref h0), (1, .int v1), (2, .int v2), (3, .int v3), (4, .int v4), (5, .int v5)]) hx hb dX2_readNumber_26 hl (by decide) rfl (fun ls hl => ?_)
        refine lv_iconst (v := 0) hx hb dX2_readNumber_28 (by decide) ?_
        refine lv_istore (lv' := [(7, .int 0), (6, .int 0), (0, .ref h0), (1, .int v1), (2, .int v2), (3, .int v3), (4, .int v4), (5, .int v5)]) hx hb dX2_readNumber_29 hl (by decide) rfl (fun ls hl => ?_)
        exact loop_31 1000 v1 v2 v3 v4 v5 0 0 nu ta h H locs hP hD hS ls (lv_sub hl [2, 3, 4, 5, 6, 7, 1, 0] rfl)
      · replace h := zf c11 h
        refine lv_iload hx hb dX2_readNumber_12 (lv_at hl 5 rfl) ?_
        refine lv_bipush (v := 10) hx hb dX2_readNumber_14 (by decide) ?_
        refine lv_imul hx hb dX2_readNumber_16 ?_
        refine lv_istore (lv' := [(5, .int (v5 * 10)), (0, .ref h0), (1, .int v1), (2, .int v2), (3, .int v3), (4, .int v4), (6, .int v6)]) hx hb dX2_readNumber_17 hl (by decide) rfl (fun ls hl => ?_)
        refine lv_iinc (v := (v6 + 1)) (lv' := [(6, .int (v6 + 1)), (5, .int (v5 * 10)), (0, .ref h0), (1, .int v1), (2, .int v2), (3, .int v3), (4, .int v4)]) hx hb dX2_readNumber_19 hl (k := 6) rfl rfl (by decide) rfl (fun ls hl => ?_)
        refine lv_goto (tgt := 6) hx hb dX2_readNumber_22 (by decide) ?_
        exact ih v1 v2 v3 v4 (v5 * 10) (v6 + 1) nu ta h H locs hP hD hS ls (lv_sub hl [2, 3, 4, 5, 6, 1, 0] rfl)
  unfold fX2_readNumber at h
  refine lv_iconst (v := 1) hx hb dX2_readNumber_0 (by decide) ?_
  refine lv_istore (lv' := [(5, .int 1), (0, .ref h0), (1, .int a1), (2, .int a2), (3, .int a3), (4, .int a4)]) hx hb dX2_readNumber_1 hl (by decide) rfl (fun ls hl => ?_)
  refine lv_iconst (v := 1) hx hb dX2_readNumber_3 (by decide) ?_
  refine lv_istore (lv' := [(6, .int 1), (5, .int 1), (0, .ref h0), (1, .int a1), (2, .int a2), (3, .int a3), (4, .int a4)]) hx hb dX2_readNumber_4 hl (by decide) rfl (fun ls hl => ?_)
  exact loop_6 1000 a1 a2 a3 a4 1 1 nu ta h s.heap [] hP hD hS ls (lv_sub hl [2, 3, 4, 5, 6, 1, 0] rfl)
theorem hdV_X2_readNumber : yX2_readNumber.cls = RX2 ∧ yX2_readNumber.cls ≠ "java/lang/invoke/MethodHandle" ∧ yX2_readNumber.cls ≠ "java/lang/invoke/VarHandle" ∧ (parseMethodDescriptor yX2_readNumber.desc).map (fun d => d.parameters.length) = some 4 := by decide +kernel
def fX2_readSpan (ch : Nat → Int32) (nu : Nat → Int32) (le : Int32) (ta : Int32) (a1 : Int32) : Option (Int32 × (Nat → Int32) × (Int32)) :=
  ob3 (fX2_readNumber ch nu le ta a1 3 0 255) fun r1 nu1 ta1 =>
  if r1 = 0 then
    some (0, nu1, ta1)
  else
    ob3 (fX2_readNumber ch nu1 le ta1 (a1 + 1) 2 1 99) fun r3 nu3 ta3 =>
    if r3 = 0 then
      some (0, nu3, ta3)
    else
      some (1, nu3, ta3)
set_option maxRecDepth 100000 in
set_option maxHeartbeats 4000000 in
theorem kX2_readSpan (l : Launch) (g : zG) (h0 h1 h2 : Nat) (ch : Nat → Int32) (nu : Nat → Int32) (le : Int32) (ta : Int32) (lt : Int32) (a1 : Int32) {r : Int32} {nu' : Nat → Int32} {ta' : Int32} (h : fX2_readSpan ch nu le ta a1 = some (r, nu', ta')) : Mw l g yX2_readSpan wsX2_readSpan { frames := 1, cells := 0, slots := 0, locals := 27 } [.ref h0, .int a1] (zTx g h0 h1 h2 ch nu le ta lt) (zWi g (zTx g h0 h1 h2 ch nu' le ta' lt) r) := by
  refine zw_in (cc := cX2_readSpan) (maxL := 2) (ret := (some .boolean)) (by decide) rfl (Nat.le_of_ble_eq_true rfl) ?_
  intro p e s m below meth c hx hb hr hml hts hown hlocks hK A hA hP hD hS ls hl
  replace hl : lv_has ls 2 [(0, .ref h0), (1, .int a1)] := hl
  unfold fX2_readSpan at h
  refine lv_aload_n hx hb dX2_readSpan_0 rfl (lv_at hl 0 rfl) ?_
  refine lv_iload_n hx hb dX2_readSpan_1 rfl (lv_at hl 1 rfl) ?_
  refine lv_iconst (v := 3) hx hb dX2_readSpan_2 (by decide) ?_
  refine lv_iconst (v := 0) hx hb dX2_readSpan_3 (by decide) ?_
  refine lv_sipush (v := 255) hx hb dX2_readSpan_4 (by decide) ?_
  obtain ⟨r1, nu1, ta1, e1, h⟩ := zb3 h
  refine zVw (As := [.int a1, .int 3, .int 0, .int 255]) (rest := []) (zWi_q g _ _) ⟨hx, hb, hml, hown, hts⟩ (kX2_readNumber l g h0 h1 h2 ch nu le ta lt a1 3 0 255 e1) (cwV 4 hts gX2_readSpan_X2_readNumber rfl rfl rfl hdV_X2_readNumber ⟨Nat.le_of_ble_eq_true rfl, Nat.le_of_ble_eq_true rfl⟩) hK hP hD hS hA [0, 1, 2] (by decide) rfl rfl 0 rfl rfl rfl hl.1 rfl (Nat.le_of_ble_eq_true rfl) ⟨Nat.zero_le _, Nat.zero_le _⟩ dX2_readSpan_7 (fun H locs hP hD hS => ?_)
  replace hP : zP g (zTx g h0 h1 h2 ch nu1 le ta1 lt) H := hP
  replace hD : va_D A (zTx g h0 h1 h2 ch nu1 le ta1 lt) := hD
  refine lv_if_eq (tgt := 31) hx hb dX2_readSpan_10 (by decide) (fun c2 => ?_) (fun c2 => ?_)
  · replace h := zt c2 h
    refine lv_iconst (v := 0) hx hb dX2_readSpan_31 (by decide) ?_
    cases h
    exact zw_z hx hb hr hlocks (by decide) hP hS dX2_readSpan_32
  · replace h := zf c2 h
    refine lv_aload_n hx hb dX2_readSpan_13 rfl (lv_at hl 0 rfl) ?_
    refine lv_iload_n hx hb dX2_readSpan_14 rfl (lv_at hl 1 rfl) ?_
    refine lv_iconst (v := 1) hx hb dX2_readSpan_15 (by decide) ?_
    refine lv_iadd hx hb dX2_readSpan_16 ?_
    refine lv_iconst (v := 2) hx hb dX2_readSpan_17 (by decide) ?_
    refine lv_iconst (v := 1) hx hb dX2_readSpan_18 (by decide) ?_
    refine lv_bipush (v := 99) hx hb dX2_readSpan_19 (by decide) ?_
    obtain ⟨r3, nu3, ta3, e3, h⟩ := zb3 h
    refine zVw (As := [.int (a1 + 1), .int 2, .int 1, .int 99]) (rest := []) (zWi_q g _ _) ⟨hx, hb, hml, hown, hts⟩ (kX2_readNumber l g h0 h1 h2 ch nu1 le ta1 lt (a1 + 1) 2 1 99 e3) (cwV 4 hts gX2_readSpan_X2_readNumber rfl rfl rfl hdV_X2_readNumber ⟨Nat.le_of_ble_eq_true rfl, Nat.le_of_ble_eq_true rfl⟩) hK hP hD hS hA [0, 1, 2] (by decide) rfl rfl 0 rfl rfl rfl hl.1 rfl (Nat.le_of_ble_eq_true rfl) ⟨Nat.zero_le _, Nat.zero_le _⟩ dX2_readSpan_21 (fun H locs hP hD hS => ?_)
    replace hP : zP g (zTx g h0 h1 h2 ch nu3 le ta3 lt) H := hP
    replace hD : va_D A (zTx g h0 h1 h2 ch nu3 le ta3 lt) := hD
    refine lv_if_eq (tgt := 31) hx hb dX2_readSpan_24 (by decide) (fun c4 => ?_) (fun c4 => ?_)
    · replace h := zt c4 h
      refine lv_iconst (v := 0) hx hb dX2_readSpan_31 (by decide) ?_
      cases h
      exact zw_z hx hb hr hlocks (by decide) hP hS dX2_readSpan_32
    · replace h := zf c4 h
      refine lv_iconst (v := 1) hx hb dX2_readSpan_27 (by decide) ?_
      refine lv_goto (tgt := 32) hx hb dX2_readSpan_28 (by decide) ?_
      cases h
      exact zw_z hx hb hr hlocks (by decide) hP hS dX2_readSpan_32
theorem hdV_X2_readSpan : yX2_readSpan.cls = RX2 ∧ yX2_readSpan.cls ≠ "java/lang/invoke/MethodHandle" ∧ yX2_readSpan.cls ≠ "java/lang/invoke/VarHandle" ∧ (parseMethodDescriptor yX2_readSpan.desc).map (fun d => d.parameters.length) = some 1 := by decide +kernel
def fX2_readCommand (ch : Nat → Int32) (nu : Nat → Int32) (le : Int32) (ta : Int32) (lt : Int32) : Option (Int32 × (Nat → Int32) × (Int32) × (Int32)) :=
  if ta < le then
    if ta < 0 ∨ 120 ≤ ta.toNatClampNeg then none else
    if (ch ta.toNatClampNeg) = 102 then
      ob3 (fX2_readSpan ch nu le (ta + 1) 0) fun r4 nu4 ta4 =>
      if ¬ (r4 &&& 1 = r4) then none else some (r4, nu4, ta4, (ch ta.toNatClampNeg))
    else if (ch ta.toNatClampNeg) = 105 then
      ob3 (fX2_readNumber ch nu le (ta + 1) 0 2 1 60) fun r7 nu7 ta7 =>
      if ¬ (r7 &&& 1 = r7) then none else some (r7, nu7, ta7, (ch ta.toNatClampNeg))
    else if (ch ta.toNatClampNeg) = 112 then
      ob3 (fX2_readNumber ch nu le (ta + 1) 0 1 0 2) fun r10 nu10 ta10 =>
      if r10 = 0 then
        some (0, nu10, ta10, (ch ta.toNatClampNeg))
      else
        ob3 (fX2_readSpan ch nu10 le ta10 1) fun r12 nu12 ta12 =>
        if r12 = 0 then
          some (0, nu12, ta12, (ch ta.toNatClampNeg))
        else
          some (1, nu12, ta12, (ch ta.toNatClampNeg))
    else if (ch ta.toNatClampNeg) = 115 then
      ob3 (fX2_readNumber ch nu le (ta + 1) 0 1 0 5) fun r15 nu15 ta15 =>
      if r15 = 0 then
        some (0, nu15, ta15, (ch ta.toNatClampNeg))
      else
        ob3 (fX2_readNumber ch nu15 le ta15 1 2 0 99) fun r17 nu17 ta17 =>
        if r17 = 0 then
          some (0, nu17, ta17, (ch ta.toNatClampNeg))
        else
          some (1, nu17, ta17, (ch ta.toNatClampNeg))
    else if (ch ta.toNatClampNeg) = 119 then
      ob3 (fX2_readSpan ch nu le (ta + 1) 0) fun r20 nu20 ta20 =>
      if ¬ (r20 &&& 1 = r20) then none else some (r20, nu20, ta20, (ch ta.toNatClampNeg))
    else some (0, nu, ta, (ch ta.toNatClampNeg))
  else
    some (0, nu, ta, lt)
theorem mX2_readCommand_23 : Cond.fieldLink RX2 23 "IdleDiscards$Text" "at" "I" ∈ wsX2_readCommand := by decide +kernel
theorem uX2_readCommand_X2 : ∀ w ∈ wsX20, w ∈ wsX2_readCommand := by decide +kernel
theorem mX2_readCommand_19 : Cond.fieldLink RX2 19 "IdleDiscards$Text" "length" "I" ∈ wsX2_readCommand := by decide +kernel
theorem mX2_readCommand_9 : Cond.fieldLink RX2 9 "IdleDiscards$Text" "chars" "[C" ∈ wsX2_readCommand := by decide +kernel
theorem mX2_readCommand_30 : Cond.fieldLink RX2 30 "IdleDiscards$Text" "letter" "I" ∈ wsX2_readCommand := by decide +kernel
set_option maxRecDepth 100000 in
set_option maxHeartbeats 4000000 in
theorem kX2_readCommand (l : Launch) (g : zG) (h0 h1 h2 : Nat) (ch : Nat → Int32) (nu : Nat → Int32) (le : Int32) (ta : Int32) (lt : Int32) {r : Int32} {nu' : Nat → Int32} {ta' : Int32} {lt' : Int32} (h : fX2_readCommand ch nu le ta lt = some (r, nu', ta', lt')) : Mw l g yX2_readCommand wsX2_readCommand { frames := 2, cells := 0, slots := 0, locals := 48 } [.ref h0] (zTx g h0 h1 h2 ch nu le ta lt) (zWi g (zTx g h0 h1 h2 ch nu' le ta' lt') r) := by
  refine zw_in (cc := cX2_readCommand) (maxL := 1) (ret := (some .boolean)) (by decide) rfl (Nat.le_of_ble_eq_true rfl) ?_
  intro p e s m below meth c hx hb hr hml hts hown hlocks hK A hA hP hD hS ls hl
  replace hl : lv_has ls 1 [(0, .ref h0)] := hl
  unfold fX2_readCommand at h
  refine lv_aload_n hx hb dX2_readCommand_0 rfl (lv_at hl 0 rfl) ?_
  refine va_get (ci := 2) (v := .int ta) (C := RX2) (T := TX2) (N := 5) hx hb hts uX2_readCommand_X2 hown hK hP 0 rfl rfl 3 (by decide) (hts _ mX2_readCommand_23) (fun _ h9 => h9) rfl dX2_readCommand_1 ?_
  refine lv_aload_n hx hb dX2_readCommand_4 rfl (lv_at hl 0 rfl) ?_
  refine va_get (ci := 2) (v := .int le) (C := RX2) (T := TX2) (N := 5) hx hb hts uX2_readCommand_X2 hown hK hP 0 rfl rfl 2 (by decide) (hts _ mX2_readCommand_19) (fun _ h9 => h9) rfl dX2_readCommand_5 ?_
  refine lv_icmp_lt (tgt := 13) hx hb dX2_readCommand_8 (by decide) (fun c1 => ?_) (fun c1 => ?_)
  · replace h := zt c1 h
    refine lv_aload_n hx hb dX2_readCommand_13 rfl (lv_at hl 0 rfl) ?_
    refine lv_aload_n hx hb dX2_readCommand_14 rfl (lv_at hl 0 rfl) ?_
    refine va_get (ci := 2) (v := .ref h1) (C := RX2) (T := TX2) (N := 5) hx hb hts uX2_readCommand_X2 hown hK hP 0 rfl rfl 0 (by decide) (hts _ mX2_readCommand_9) (fun _ h9 => h9) rfl dX2_readCommand_15 ?_
    refine lv_aload_n hx hb dX2_readCommand_18 rfl (lv_at hl 0 rfl) ?_
    refine va_get (ci := 2) (v := .int ta) (C := RX2) (T := TX2) (N := 5) hx hb hts uX2_readCommand_X2 hown hK hP 0 rfl rfl 3 (by decide) (hts _ mX2_readCommand_23) (fun _ h9 => h9) rfl dX2_readCommand_19 ?_
    obtain ⟨i2, h⟩ := zi h
    refine za_cld hx hb hK hP 1 rfl _ rfl i2 dX2_readCommand_22 ?_
    refine va_put (ci := 2) (v := .int (ch ta.toNatClampNeg)) (ty := .int) (C := RX2) (T := TX2) (N := 5) hx hb hts uX2_readCommand_X2 tyX2 tyX2_ok nmX2 hown hK hP hD hS 0 rfl rfl 4 (by decide) (hts _ mX2_readCommand_30) (fun _ h9 => h9) rfl (by decide +kernel) rfl rfl (Nat.le_of_ble_eq_true rfl) dX2_readCommand_23 (fun H locs hP hD hS => ?_)
    replace hP : zP g (zTx g h0 h1 h2 ch nu le ta (ch ta.toNatClampNeg)) H := hP
    replace hD : va_D A (zTx g h0 h1 h2 ch nu le ta (ch ta.toNatClampNeg)) := hD
    refine lv_aload_n hx hb dX2_readCommand_26 rfl (lv_at hl 0 rfl) ?_
    refine va_get (ci := 2) (v := .int (ch ta.toNatClampNeg)) (C := RX2) (T := TX2) (N := 5) hx hb hts uX2_readCommand_X2 hown hK hP 0 rfl rfl 4 (by decide) (hts _ mX2_readCommand_30) (fun _ h9 => h9) rfl dX2_readCommand_27 ?_
    by_cases c3 : (ch ta.toNatClampNeg) = 102
    · replace h := zt c3 h
      refine lv_lookup (tgt := 80) (off := 50) hx hb dX2_readCommand_30 (by decide) (by rw [c3]; decide) (by decide) ?_
      refine lv_aload_n hx hb dX2_readCommand_80 rfl (lv_at hl 0 rfl) ?_
      refine lv_dup hx hb dX2_readCommand_81 rfl ?_
      refine va_get (ci := 2) (v := .int ta) (C := RX2) (T := TX2) (N := 5) hx hb hts uX2_readCommand_X2 hown hK hP 0 rfl rfl 3 (by decide) (hts _ mX2_readCommand_23) (fun _ h9 => h9) rfl dX2_readCommand_82 ?_
      refine lv_iconst (v := 1) hx hb dX2_readCommand_85 (by decide) ?_
      refine lv_iadd hx hb dX2_readCommand_86 ?_
      refine va_put (ci := 2) (v := .int (ta + 1)) (ty := .int) (C := RX2) (T := TX2) (N := 5) hx hb hts uX2_readCommand_X2 tyX2 tyX2_ok nmX2 hown hK hP hD hS 0 rfl rfl 3 (by decide) (hts _ mX2_readCommand_23) (fun _ h9 => h9) rfl (by decide +kernel) rfl rfl (Nat.le_of_ble_eq_true rfl) dX2_readCommand_87 (fun H locs hP hD hS => ?_)
      replace hP : zP g (zTx g h0 h1 h2 ch nu le (ta + 1) (ch ta.toNatClampNeg)) H := hP
      replace hD : va_D A (zTx g h0 h1 h2 ch nu le (ta + 1) (ch ta.toNatClampNeg)) := hD
      refine lv_aload_n hx hb dX2_readCommand_90 rfl (lv_at hl 0 rfl) ?_
      refine lv_iconst (v := 0) hx hb dX2_readCommand_91 (by decide) ?_
      obtain ⟨r4, nu4, ta4, e4, h⟩ := zb3 h
      refine zVw (As := [.int 0]) (rest := []) (zWi_q g _ _) ⟨hx, hb, hml, hown, hts⟩ (kX2_readSpan l g h0 h1 h2 ch nu le (ta + 1) (ch ta.toNatClampNeg) 0 e4) (cwV 1 hts gX2_readCommand_X2_readSpan rfl rfl rfl hdV_X2_readSpan ⟨Nat.le_of_ble_eq_true rfl, Nat.le_of_ble_eq_true rfl⟩) hK hP hD hS hA [0, 1, 2] (by decide) rfl rfl 0 rfl rfl rfl hl.1 rfl (Nat.le_of_ble_eq_true rfl) ⟨Nat.zero_le _, Nat.zero_le _⟩ dX2_readCommand_92 (fun H locs hP hD hS => ?_)
      replace hP : zP g (zTx g h0 h1 h2 ch nu4 le ta4 (ch ta.toNatClampNeg)) H := hP
      replace hD : va_D A (zTx g h0 h1 h2 ch nu4 le ta4 (ch ta.toNatClampNeg)) := hD
      obtain ⟨i5, h⟩ := zi h
      cases h
      exact zw_z hx hb hr hlocks (Decidable.of_not_not i5) hP hS dX2_readCommand_95
    replace h := zf c3 h
    by_cases c6 : (ch ta.toNatClampNeg) = 105
    · replace h := zt c6 h
      refine lv_lookup (tgt := 96) (off := 66) hx hb dX2_readCommand_30 (by decide) (by rw [c6]; decide) (by decide) ?_
      refine lv_aload_n hx hb dX2_readCommand_96 rfl (lv_at hl 0 rfl) ?_
      refine lv_dup hx hb dX2_readCommand_97 rfl ?_
      refine va_get (ci := 2) (v := .int ta) (C := RX2) (T := TX2) (N := 5) hx hb hts uX2_readCommand_X2 hown hK hP 0 rfl rfl 3 (by decide) (hts _ mX2_readCommand_23) (fun _ h9 => h9) rfl dX2_readCommand_98 ?_
      refine lv_iconst (v := 1) hx hb dX2_readCommand_101 (by decide) ?_
      refine lv_iadd hx hb dX2_readCommand_102 ?_
      refine va_put (ci := 2) (v := .int (ta + 1)) (ty := .int) (C := RX2) (T := TX2) (N := 5) hx hb hts uX2_readCommand_X2 tyX2 tyX2_ok nmX2 hown hK hP hD hS 0 rfl rfl 3 (by decide) (hts _ mX2_readCommand_23) (fun _ h9 => h9) rfl (by decide +kernel) rfl rfl (Nat.le_of_ble_eq_true rfl) dX2_readCommand_103 (fun H locs hP hD hS => ?_)
      replace hP : zP g (zTx g h0 h1 h2 ch nu le (ta + 1) (ch ta.toNatClampNeg)) H := hP
      replace hD : va_D A (zTx g h0 h1 h2 ch nu le (ta + 1) (ch ta.toNatClampNeg)) := hD
      refine lv_aload_n hx hb dX2_readCommand_106 rfl (lv_at hl 0 rfl) ?_
      refine lv_iconst (v := 0) hx hb dX2_readCommand_107 (by decide) ?_
      refine lv_iconst (v := 2) hx hb dX2_readCommand_108 (by decide) ?_
      refine lv_iconst (v := 1) hx hb dX2_readCommand_109 (by decide) ?_
      refine lv_bipush (v := 60) hx hb dX2_readCommand_110 (by decide) ?_
      obtain ⟨r7, nu7, ta7, e7, h⟩ := zb3 h
      refine zVw (As := [.int 0, .int 2, .int 1, .int 60]) (rest := []) (zWi_q g _ _) ⟨hx, hb, hml, hown, hts⟩ (kX2_readNumber l g h0 h1 h2 ch nu le (ta + 1) (ch ta.toNatClampNeg) 0 2 1 60 e7) (cwV 4 hts gX2_readCommand_X2_readNumber rfl rfl rfl hdV_X2_readNumber ⟨Nat.le_of_ble_eq_true rfl, Nat.le_of_ble_eq_true rfl⟩) hK hP hD hS hA [0, 1, 2] (by decide) rfl rfl 0 rfl rfl rfl hl.1 rfl (Nat.le_of_ble_eq_true rfl) ⟨Nat.zero_le _, Nat.zero_le _⟩ dX2_readCommand_112 (fun H locs hP hD hS => ?_)
      replace hP : zP g (zTx g h0 h1 h2 ch nu7 le ta7 (ch ta.toNatClampNeg)) H := hP
      replace hD : va_D A (zTx g h0 h1 h2 ch nu7 le ta7 (ch ta.toNatClampNeg)) := hD
      obtain ⟨i8, h⟩ := zi h
      cases h
      exact zw_z hx hb hr hlocks (Decidable.of_not_not i8) hP hS dX2_readCommand_115
    replace h := zf c6 h
    by_cases c9 : (ch ta.toNatClampNeg) = 112
    · replace h := zt c9 h
      refine lv_lookup (tgt := 116) (off := 86) hx hb dX2_readCommand_30 (by decide) (by rw [c9]; decide) (by decide) ?_
      refine lv_aload_n hx hb dX2_readCommand_116 rfl (lv_at hl 0 rfl) ?_
      refine lv_dup hx hb dX2_readCommand_117 rfl ?_
      refine va_get (ci := 2) (v := .int ta) (C := RX2) (T := TX2) (N := 5) hx hb hts uX2_readCommand_X2 hown hK hP 0 rfl rfl 3 (by decide) (hts _ mX2_readCommand_23) (fun _ h9 => h9) rfl dX2_readCommand_118 ?_
      refine lv_iconst (v := 1) hx hb dX2_readCommand_121 (by decide) ?_
      refine lv_iadd hx hb dX2_readCommand_122 ?_
      refine va_put (ci := 2) (v := .int (ta + 1)) (ty := .int) (C := RX2) (T := TX2) (N := 5) hx hb hts uX2_readCommand_X2 tyX2 tyX2_ok nmX2 hown hK hP hD hS 0 rfl rfl 3 (by decide) (hts _ mX2_readCommand_23) (fun _ h9 => h9) rfl (by decide +kernel) rfl rfl (Nat.le_of_ble_eq_true rfl) dX2_readCommand_123 (fun H locs hP hD hS => ?_)
      replace hP : zP g (zTx g h0 h1 h2 ch nu le (ta + 1) (ch ta.toNatClampNeg)) H := hP
      replace hD : va_D A (zTx g h0 h1 h2 ch nu le (ta + 1) (ch ta.toNatClampNeg)) := hD
      refine lv_aload_n hx hb dX2_readCommand_126 rfl (lv_at hl 0 rfl) ?_
      refine lv_iconst (v := 0) hx hb dX2_readCommand_127 (by decide) ?_
      refine lv_iconst (v := 1) hx hb dX2_readCommand_128 (by decide) ?_
      refine lv_iconst (v := 0) hx hb dX2_readCommand_129 (by decide) ?_
      refine lv_iconst (v := 2) hx hb dX2_readCommand_130 (by decide) ?_
      obtain ⟨r10, nu10, ta10, e10, h⟩ := zb3 h
      refine zVw (As := [.int 0, .int 1, .int 0, .int 2]) (rest := []) (zWi_q g _ _) ⟨hx, hb, hml, hown, hts⟩ (kX2_readNumber l g h0 h1 h2 ch nu le (ta + 1) (ch ta.toNatClampNeg) 0 1 0 2 e10) (cwV 4 hts gX2_readCommand_X2_readNumber rfl rfl rfl hdV_X2_readNumber ⟨Nat.le_of_ble_eq_true rfl, Nat.le_of_ble_eq_true rfl⟩) hK hP hD hS hA [0, 1, 2] (by decide) rfl rfl 0 rfl rfl rfl hl.1 rfl (Nat.le_of_ble_eq_true rfl) ⟨Nat.zero_le _, Nat.zero_le _⟩ dX2_readCommand_131 (fun H locs hP hD hS => ?_)
      replace hP : zP g (zTx g h0 h1 h2 ch nu10 le ta10 (ch ta.toNatClampNeg)) H := hP
      replace hD : va_D A (zTx g h0 h1 h2 ch nu10 le ta10 (ch ta.toNatClampNeg)) := hD
      refine lv_if_eq (tgt := 149) hx hb dX2_readCommand_134 (by decide) (fun c11 => ?_) (fun c11 => ?_)
      · replace h := zt c11 h
        refine lv_iconst (v := 0) hx hb dX2_readCommand_149 (by decide) ?_
        cases h
        exact zw_z hx hb hr hlocks (by decide) hP hS dX2_readCommand_150
      · replace h := zf c11 h
        refine lv_aload_n hx hb dX2_readCommand_137 rfl (lv_at hl 0 rfl) ?_
        refine lv_iconst (v := 1) hx hb dX2_readCommand_138 (by decide) ?_
        obtain ⟨r12, nu12, ta12, e12, h⟩ := zb3 h
        refine zVw (As := [.int 1]) (rest := []) (zWi_q g _ _) ⟨hx, hb, hml, hown, hts⟩ (kX2_readSpan l g h0 h1 h2 ch nu10 le ta10 (ch ta.toNatClampNeg) 1 e12) (cwV 1 hts gX2_readCommand_X2_readSpan rfl rfl rfl hdV_X2_readSpan ⟨Nat.le_of_ble_eq_true rfl, Nat.le_of_ble_eq_true rfl⟩) hK hP hD hS hA [0, 1, 2] (by decide) rfl rfl 0 rfl rfl rfl hl.1 rfl (Nat.le_of_ble_eq_true rfl) ⟨Nat.zero_le _, Nat.zero_le _⟩ dX2_readCommand_139 (fun H locs hP hD hS => ?_)
        replace hP : zP g (zTx g h0 h1 h2 ch nu12 le ta12 (ch ta.toNatClampNeg)) H := hP
        replace hD : va_D A (zTx g h0 h1 h2 ch nu12 le ta12 (ch ta.toNatClampNeg)) := hD
        refine lv_if_eq (tgt := 149) hx hb dX2_readCommand_142 (by decide) (fun c13 => ?_) (fun c13 => ?_)
        · replace h := zt c13 h
          refine lv_iconst (v := 0) hx hb dX2_readCommand_149 (by decide) ?_
          cases h
          exact zw_z hx hb hr hlocks (by decide) hP hS dX2_readCommand_150
        · replace h := zf c13 h
          refine lv_iconst (v := 1) hx hb dX2_readCommand_145 (by decide) ?_
          refine lv_goto (tgt := 150) hx hb dX2_readCommand_146 (by decide) ?_
          cases h
          exact zw_z hx hb hr hlocks (by decide) hP hS dX2_readCommand_150
    replace h := zf c9 h
    by_cases c14 : (ch ta.toNatClampNeg) = 115
    · replace h := zt c14 h
      refine lv_lookup (tgt := 151) (off := 121) hx hb dX2_readCommand_30 (by decide) (by rw [c14]; decide) (by decide) ?_
      refine lv_aload_n hx hb dX2_readCommand_151 rfl (lv_at hl 0 rfl) ?_
      refine lv_dup hx hb dX2_readCommand_152 rfl ?_
      refine va_get (ci := 2) (v := .int ta) (C := RX2) (T := TX2) (N := 5) hx hb hts uX2_readCommand_X2 hown hK hP 0 rfl rfl 3 (by decide) (hts _ mX2_readCommand_23) (fun _ h9 => h9) rfl dX2_readCommand_153 ?_
      refine lv_iconst (v := 1) hx hb dX2_readCommand_156 (by decide) ?_
      refine lv_iadd hx hb dX2_readCommand_157 ?_
      refine va_put (ci := 2) (v := .int (ta + 1)) (ty := .int) (C := RX2) (T := TX2) (N := 5) hx hb hts uX2_readCommand_X2 tyX2 tyX2_ok nmX2 hown hK hP hD hS 0 rfl rfl 3 (by decide) (hts _ mX2_readCommand_23) (fun _ h9 => h9) rfl (by decide +kernel) rfl rfl (Nat.le_of_ble_eq_true rfl) dX2_readCommand_158 (fun H locs hP hD hS => ?_)
      replace hP : zP g (zTx g h0 h1 h2 ch nu le (ta + 1) (ch ta.toNatClampNeg)) H := hP
      replace hD : va_D A (zTx g h0 h1 h2 ch nu le (ta + 1) (ch ta.toNatClampNeg)) := hD
      refine lv_aload_n hx hb dX2_readCommand_161 rfl (lv_at hl 0 rfl) ?_
      refine lv_iconst (v := 0) hx hb dX2_readCommand_162 (by decide) ?_
      refine lv_iconst (v := 1) hx hb dX2_readCommand_163 (by decide) ?_
      refine lv_iconst (v := 0) hx hb dX2_readCommand_164 (by decide) ?_
      refine lv_iconst (v := 5) hx hb dX2_readCommand_165 (by decide) ?_
      obtain ⟨r15, nu15, ta15, e15, h⟩ := zb3 h
      refine zVw (As := [.int 0, .int 1, .int 0, .int 5]) (rest := []) (zWi_q g _ _) ⟨hx, hb, hml, hown, hts⟩ (kX2_readNumber l g h0 h1 h2 ch nu le (ta + 1) (ch ta.toNatClampNeg) 0 1 0 5 e15) (cwV 4 hts gX2_readCommand_X2_readNumber rfl rfl rfl hdV_X2_readNumber ⟨Nat.le_of_ble_eq_true rfl, Nat.le_of_ble_eq_true rfl⟩) hK hP hD hS hA [0, 1, 2] (by decide) rfl rfl 0 rfl rfl rfl hl.1 rfl (Nat.le_of_ble_eq_true rfl) ⟨Nat.zero_le _, Nat.zero_le _⟩ dX2_readCommand_166 (fun H locs hP hD hS => ?_)
      replace hP : zP g (zTx g h0 h1 h2 ch nu15 le ta15 (ch ta.toNatClampNeg)) H := hP
      replace hD : va_D A (zTx g h0 h1 h2 ch nu15 le ta15 (ch ta.toNatClampNeg)) := hD
      refine lv_if_eq (tgt := 188) hx hb dX2_readCommand_169 (by decide) (fun c16 => ?_) (fun c16 => ?_)
      · replace h := zt c16 h
        refine lv_iconst (v := 0) hx hb dX2_readCommand_188 (by decide) ?_
        cases h
        exact zw_z hx hb hr hlocks (by decide) hP hS dX2_readCommand_189
      · replace h := zf c16 h
        refine lv_aload_n hx hb dX2_readCommand_172 rfl (lv_at hl 0 rfl) ?_
        refine lv_iconst (v := 1) hx hb dX2_readCommand_173 (by decide) ?_
        refine lv_iconst (v := 2) hx hb dX2_readCommand_174 (by decide) ?_
        refine lv_iconst (v := 0) hx hb dX2_readCommand_175 (by decide) ?_
        refine lv_bipush (v := 99) hx hb dX2_readCommand_176 (by decide) ?_
        obtain ⟨r17, nu17, ta17, e17, h⟩ := zb3 h
        refine zVw (As := [.int 1, .int 2, .int 0, .int 99]) (rest := []) (zWi_q g _ _) ⟨hx, hb, hml, hown, hts⟩ (kX2_readNumber l g h0 h1 h2 ch nu15 le ta15 (ch ta.toNatClampNeg) 1 2 0 99 e17) (cwV 4 hts gX2_readCommand_X2_readNumber rfl rfl rfl hdV_X2_readNumber ⟨Nat.le_of_ble_eq_true rfl, Nat.le_of_ble_eq_true rfl⟩) hK hP hD hS hA [0, 1, 2] (by decide) rfl rfl 0 rfl rfl rfl hl.1 rfl (Nat.le_of_ble_eq_true rfl) ⟨Nat.zero_le _, Nat.zero_le _⟩ dX2_readCommand_178 (fun H locs hP hD hS => ?_)
        replace hP : zP g (zTx g h0 h1 h2 ch nu17 le ta17 (ch ta.toNatClampNeg)) H := hP
        replace hD : va_D A (zTx g h0 h1 h2 ch nu17 le ta17 (ch ta.toNatClampNeg)) := hD
        refine lv_if_eq (tgt := 188) hx hb dX2_readCommand_181 (by decide) (fun c18 => ?_) (fun c18 => ?_)
        · replace h := zt c18 h
          refine lv_iconst (v := 0) hx hb dX2_readCommand_188 (by decide) ?_
          cases h
          exact zw_z hx hb hr hlocks (by decide) hP hS dX2_readCommand_189
        · replace h := zf c18 h
          refine lv_iconst (v := 1) hx hb dX2_readCommand_184 (by decide) ?_
          refine lv_goto (tgt := 189) hx hb dX2_readCommand_185 (by decide) ?_
          cases h
          exact zw_z hx hb hr hlocks (by decide) hP hS dX2_readCommand_189
    replace h := zf c14 h
    by_cases c19 : (ch ta.toNatClampNeg) = 119
    · replace h := zt c19 h
      refine lv_lookup (tgt := 80) (off := 50) hx hb dX2_readCommand_30 (by decide) (by rw [c19]; decide) (by decide) ?_
      refine lv_aload_n hx hb dX2_readCommand_80 rfl (lv_at hl 0 rfl) ?_
      refine lv_dup hx hb dX2_readCommand_81 rfl ?_
      refine va_get (ci := 2) (v := .int ta) (C := RX2) (T := TX2) (N := 5) hx hb hts uX2_readCommand_X2 hown hK hP 0 rfl rfl 3 (by decide) (hts _ mX2_readCommand_23) (fun _ h9 => h9) rfl dX2_readCommand_82 ?_
      refine lv_iconst (v := 1) hx hb dX2_readCommand_85 (by decide) ?_
      refine lv_iadd hx hb dX2_readCommand_86 ?_
      refine va_put (ci := 2) (v := .int (ta + 1)) (ty := .int) (C := RX2) (T := TX2) (N := 5) hx hb hts uX2_readCommand_X2 tyX2 tyX2_ok nmX2 hown hK hP hD hS 0 rfl rfl 3 (by decide) (hts _ mX2_readCommand_23) (fun _ h9 => h9) rfl (by decide +kernel) rfl rfl (Nat.le_of_ble_eq_true rfl) dX2_readCommand_87 (fun H locs hP hD hS => ?_)
      replace hP : zP g (zTx g h0 h1 h2 ch nu le (ta + 1) (ch ta.toNatClampNeg)) H := hP
      replace hD : va_D A (zTx g h0 h1 h2 ch nu le (ta + 1) (ch ta.toNatClampNeg)) := hD
      refine lv_aload_n hx hb dX2_readCommand_90 rfl (lv_at hl 0 rfl) ?_
      refine lv_iconst (v := 0) hx hb dX2_readCommand_91 (by decide) ?_
      obtain ⟨r20, nu20, ta20, e20, h⟩ := zb3 h
      refine zVw (As := [.int 0]) (rest := []) (zWi_q g _ _) ⟨hx, hb, hml, hown, hts⟩ (kX2_readSpan l g h0 h1 h2 ch nu le (ta + 1) (ch ta.toNatClampNeg) 0 e20) (cwV 1 hts gX2_readCommand_X2_readSpan rfl rfl rfl hdV_X2_readSpan ⟨Nat.le_of_ble_eq_true rfl, Nat.le_of_ble_eq_true rfl⟩) hK hP hD hS hA [0, 1, 2] (by decide) rfl rfl 0 rfl rfl rfl hl.1 rfl (Nat.le_of_ble_eq_true rfl) ⟨Nat.zero_le _, Nat.zero_le _⟩ dX2_readCommand_92 (fun H locs hP hD hS => ?_)
      replace hP : zP g (zTx g h0 h1 h2 ch nu20 le ta20 (ch ta.toNatClampNeg)) H := hP
      replace hD : va_D A (zTx g h0 h1 h2 ch nu20 le ta20 (ch ta.toNatClampNeg)) := hD
      obtain ⟨i21, h⟩ := zi h
      cases h
      exact zw_z hx hb hr hlocks (Decidable.of_not_not i21) hP hS dX2_readCommand_95
    replace h := zf c19 h
    refine lv_lookup (tgt := 190) (off := 160) hx hb dX2_readCommand_30 (by decide) (by show Op.lookupswitch.offset [(102, 50), (105, 66), (112, 86), (115, 121), (119, 50)] 160 _ = _; rw [lv_osw c3 (a := 102) (by decide), lv_osw c6 (a := 105) (by decide), lv_osw c9 (a := 112) (by decide), lv_osw c14 (a := 115) (by decide), lv_osw c19 (a := 119) (by decide)]; rfl) (by decide) ?_
    refine lv_iconst (v := 0) hx hb dX2_readCommand_190 (by decide) ?_
    cases h
    exact zw_z hx hb hr hlocks (by decide) hP hS dX2_readCommand_191
  · replace h := zf c1 h
    refine lv_iconst (v := 0) hx hb dX2_readCommand_11 (by decide) ?_
    cases h
    exact zw_z hx hb hr hlocks (by decide) hP hS dX2_readCommand_12
theorem hdV_X2_readCommand : yX2_readCommand.cls = RX2 ∧ yX2_readCommand.cls ≠ "java/lang/invoke/MethodHandle" ∧ yX2_readCommand.cls ≠ "java/lang/invoke/VarHandle" ∧ (parseMethodDescriptor yX2_readCommand.desc).map (fun d => d.parameters.length) = some 0 := by decide +kernel
def fX2_firstError_27 (ch : Nat → Int32) (le : Int32) : Nat → Int32 → (Nat → Int32) → (Int32) → (Int32) → Option (Int32 × (Nat → Int32) × (Int32) × (Int32))
  | 0, _, _, _, _ => none
  | n + 1, v1, nu, ta, lt =>
    if 120 ≤ v1 then
        some ((-1), nu, ta, lt)
      else
        if le ≤ ta then
          some ((-1), nu, ta, lt)
        else
          ob4 (fX2_readCommand ch nu le ta lt) fun r3 nu3 ta3 lt3 =>
          if r3 = 0 then
            some (ta3, nu3, ta3, lt3)
          else
            fX2_firstError_27 ch le n (v1 + 1) nu3 ta3 lt3
def fX2_firstError (ch : Nat → Int32) (nu : Nat → Int32) (le : Int32) (ta : Int32) (lt : Int32) : Option (Int32 × (Nat → Int32) × (Int32) × (Int32)) :=
  if le = 0 then
    some (0, nu, ta, lt)
  else
    if (ch 0) = 68 then
      fX2_firstError_27 ch le 1000 0 nu 1 lt
    else
      some (0, nu, ta, lt)
theorem mX2_firstError_23 : Cond.fieldLink RX2 23 "IdleDiscards$Text" "at" "I" ∈ wsX2_firstError := by decide +kernel
theorem uX2_firstError_X2 : ∀ w ∈ wsX20, w ∈ wsX2_firstError := by decide +kernel
theorem mX2_firstError_19 : Cond.fieldLink RX2 19 "IdleDiscards$Text" "length" "I" ∈ wsX2_firstError := by decide +kernel
theorem mX2_firstError_9 : Cond.fieldLink RX2 9 "IdleDiscards$Text" "chars" "[C" ∈ wsX2_firstError := by decide +kernel
set_option maxRecDepth 100000 in
set_option maxHeartbeats 4000000 in
theorem kX2_firstError (l : Launch) (g : zG) (h0 h1 h2 : Nat) (ch : Nat → Int32) (nu : Nat → Int32) (le : Int32) (ta : Int32) (lt : Int32) {r : Int32} {nu' : Nat → Int32} {ta' : Int32} {lt' : Int32} (h : fX2_firstError ch nu le ta lt = some (r, nu', ta', lt')) : Mw l g yX2_firstError wsX2_firstError { frames := 3, cells := 0, slots := 0, locals := 68 } [.ref h0] (zTx g h0 h1 h2 ch nu le ta lt) (zWi g (zTx g h0 h1 h2 ch nu' le ta' lt') r) := by
  refine zw_in (cc := cX2_firstError) (maxL := 2) (ret := (some .int)) (by decide) rfl (Nat.le_of_ble_eq_true rfl) ?_
  intro p e s m below meth c hx hb hr hml hts hown hlocks hK A hA hP hD hS ls hl
  replace hl : lv_has ls 2 [(0, .ref h0)] := hl
  have loop_27 : ∀ (n : Nat) (v1 : Int32) (nu : (Nat → Int32)) (ta : (Int32)) (lt : (Int32)), fX2_firstError_27 ch le n v1 nu ta lt = some (r, nu', ta', lt') → ∀ (H : Heap) (locs : List Loc), zP g (zTx g h0 h1 h2 ch nu le ta lt) H → va_D A (zTx g h0 h1 h2 ch nu le ta lt) → va_S A s.heap H locs → ∀ (ls : Array Slot), lv_has ls 2 [(0, .ref h0), (1, .int v1)] → W p l e ({ frames := 3, cells := 0, slots := 0, locals := 68 } : Room) s m [.ref h0].toArray below meth c H locs 0 0 (MQ below (zWi g (zTx g h0 h1 h2 ch nu' le ta' lt') r A) [.ref h0].toArray s 0 0 A) (F0 m 27 ls []) := by
    intro n
    induction n with
    | zero => intro v1 nu ta lt h H locs hP hD hS ls hl; exact zn h
    | succ n ih =>
      intro v1 nu ta lt h H locs hP hD hS ls hl
      rw [fX2_firstError_27] at h
      refine lv_iload_n hx hb dX2_firstError_27 rfl (lv_at hl 1 rfl) ?_
      refine lv_bipush (v := 120) hx hb dX2_firstError_28 (by decide) ?_
      refine lv_icmp_ge (tgt := 62) hx hb dX2_firstError_30 (by decide) (fun c1 => ?_) (fun c1 => ?_)
      · replace h := zt c1 h
        refine lv_iconst (v := (-1)) hx hb dX2_firstError_62 (by decide) ?_
        cases h
        exact zw_i hx hb hr hlocks hP hS dX2_firstError_63
      · replace h := zf c1 h
        refine lv_aload_n hx hb dX2_firstError_33 rfl (lv_at hl 0 rfl) ?_
        refine va_get (ci := 2) (v := .int ta) (C := RX2) (T := TX2) (N := 5) hx hb hts uX2_firstError_X2 hown hK hP 0 rfl rfl 3 (by decide) (hts _ mX2_firstError_23) (fun _ h9 => h9) rfl dX2_firstError_34 ?_
        refine lv_aload_n hx hb dX2_firstError_37 rfl (lv_at hl 0 rfl) ?_
        refine va_get (ci := 2) (v := .int le) (C := RX2) (T := TX2) (N := 5) hx hb hts uX2_firstError_X2 hown hK hP 0 rfl rfl 2 (by decide) (hts _ mX2_firstError_19) (fun _ h9 => h9) rfl dX2_firstError_38 ?_
        refine lv_icmp_ge (tgt := 62) hx hb dX2_firstError_41 (by decide) (fun c2 => ?_) (fun c2 => ?_)
        · replace h := zt c2 h
          refine lv_iconst (v := (-1)) hx hb dX2_firstError_62 (by decide) ?_
          cases h
          exact zw_i hx hb hr hlocks hP hS dX2_firstError_63
        · replace h := zf c2 h
          refine lv_aload_n hx hb dX2_firstError_44 rfl (lv_at hl 0 rfl) ?_
          obtain ⟨r3, nu3, ta3, lt3, e3, h⟩ := zb4 h
          refine zVw (As := []) (rest := []) (zWi_q g _ _) ⟨hx, hb, hml, hown, hts⟩ (kX2_readCommand l g h0 h1 h2 ch nu le ta lt e3) (cwV 0 hts gX2_firstError_X2_readCommand rfl rfl rfl hdV_X2_readCommand ⟨Nat.le_of_ble_eq_true rfl, Nat.le_of_ble_eq_true rfl⟩) hK hP hD hS hA [0, 1, 2] (by decide) rfl rfl 0 rfl rfl rfl hl.1 rfl (Nat.le_of_ble_eq_true rfl) ⟨Nat.zero_le _, Nat.zero_le _⟩ dX2_firstError_45 (fun H locs hP hD hS => ?_)
          replace hP : zP g (zTx g h0 h1 h2 ch nu3 le ta3 lt3) H := hP
          replace hD : va_D A (zTx g h0 h1 h2 ch nu3 le ta3 lt3) := hD
          refine lv_if_ne (tgt := 56) hx hb dX2_firstError_48 (by decide) (fun c4 => ?_) (fun c4 => ?_)
          · replace h := zf c4 h
            refine lv_iinc (v := (v1 + 1)) (lv' := [(1, .int (v1 + 1)), (0, .ref h0)]) hx hb dX2_firstError_56 hl (k := 1) rfl rfl (by decide) rfl (fun ls hl => ?_)
            refine lv_goto (tgt := 27) hx hb dX2_firstError_59 (by decide) ?_
            exact ih (v1 + 1) nu3 ta3 lt3 h H locs hP hD hS ls (lv_sub hl [1, 0] rfl)
          · replace h := zt c4 h
            refine lv_aload_n hx hb dX2_firstError_51 rfl (lv_at hl 0 rfl) ?_
            refine va_get (ci := 2) (v := .int ta3) (C := RX2) (T := TX2) (N := 5) hx hb hts uX2_firstError_X2 hown hK hP 0 rfl rfl 3 (by decide) (hts _ mX2_firstError_23) (fun _ h9 => h9) rfl dX2_firstError_52 ?_
            cases h
            exact zw_i hx hb hr hlocks hP hS dX2_firstError_55
  unfold fX2_firstError at h
  refine lv_aload_n hx hb dX2_firstError_0 rfl (lv_at hl 0 rfl) ?_
  refine va_get (ci := 2) (v := .int le) (C := RX2) (T := TX2) (N := 5) hx hb hts uX2_firstError_X2 hown hK hP 0 rfl rfl 2 (by decide) (hts _ mX2_firstError_19) (fun _ h9 => h9) rfl dX2_firstError_1 ?_
  refine lv_if_eq (tgt := 18) hx hb dX2_firstError_4 (by decide) (fun c5 => ?_) (fun c5 => ?_)
  · replace h := zt c5 h
    refine lv_iconst (v := 0) hx hb dX2_firstError_18 (by decide) ?_
    cases h
    exact zw_i hx hb hr hlocks hP hS dX2_firstError_19
  · replace h := zf c5 h
    refine lv_aload_n hx hb dX2_firstError_7 rfl (lv_at hl 0 rfl) ?_
    refine va_get (ci := 2) (v := .ref h1) (C := RX2) (T := TX2) (N := 5) hx hb hts uX2_firstError_X2 hown hK hP 0 rfl rfl 0 (by decide) (hts _ mX2_firstError_9) (fun _ h9 => h9) rfl dX2_firstError_8 ?_
    refine lv_iconst (v := 0) hx hb dX2_firstError_11 (by decide) ?_
    refine za_cld hx hb hK hP 1 rfl 0 (by decide) (by decide) dX2_firstError_12 ?_
    refine lv_bipush (v := 68) hx hb dX2_firstError_13 (by decide) ?_
    refine lv_icmp_eq (tgt := 20) hx hb dX2_firstError_15 (by decide) (fun c6 => ?_) (fun c6 => ?_)
    · replace h := zt c6 h
      refine lv_aload_n hx hb dX2_firstError_20 rfl (lv_at hl 0 rfl) ?_
      refine lv_iconst (v := 1) hx hb dX2_firstError_21 (by decide) ?_
      refine va_put (ci := 2) (v := .int 1) (ty := .int) (C := RX2) (T := TX2) (N := 5) hx hb hts uX2_firstError_X2 tyX2 tyX2_ok nmX2 hown hK hP hD hS 0 rfl rfl 3 (by decide) (hts _ mX2_firstError_23) (fun _ h9 => h9) rfl (by decide +kernel) rfl rfl (Nat.le_of_ble_eq_true rfl) dX2_firstError_22 (fun H locs hP hD hS => ?_)
      replace hP : zP g (zTx g h0 h1 h2 ch nu le 1 lt) H := hP
      replace hD : va_D A (zTx g h0 h1 h2 ch nu le 1 lt) := hD
      refine lv_iconst (v := 0) hx hb dX2_firstError_25 (by decide) ?_
      refine lv_istore_n (lv' := [(1, .int 0), (0, .ref h0)]) hx hb dX2_firstError_26 rfl hl (by decide) rfl (fun ls hl => ?_)
      exact loop_27 1000 0 nu 1 lt h H locs hP hD hS ls (lv_sub hl [1, 0] rfl)
    · replace h := zf c6 h
      refine lv_iconst (v := 0) hx hb dX2_firstError_18 (by decide) ?_
      cases h
      exact zw_i hx hb hr hlocks hP hS dX2_firstError_19
def fX1_size (pz : Int32) : Option (Int32) :=
  some pz
theorem mX1_size_18 : Cond.fieldLink RX1 18 "IdleDiscards$Past" "size" "I" ∈ wsX1_size := by decide +kernel
theorem uX1_size_X1 : ∀ w ∈ wsX10, w ∈ wsX1_size := by decide +kernel
set_option maxRecDepth 100000 in
set_option maxHeartbeats 4000000 in
theorem kX1_size (l : Launch) (g : zG) (h0 : Nat) (vs : Value) (ol : Int32) (pz : Int32) {r : Int32} (h : fX1_size pz = some r) : Mr l g yX1_size wsX1_size { frames := 0, cells := 0, slots := 0, locals := 0 } [.ref h0] (zP0 g h0 vs ol pz) (zQi r) := by
  refine zr_in (cc := cX1_size) (maxL := 1) (ret := (some .int)) (by decide) rfl (Nat.le_of_ble_eq_true rfl) ?_
  intro p e s m below meth c hx hb hr hml hts hown hlocks hP hK ls hl
  replace hl : lv_has ls 1 [(0, .ref h0)] := hl
  unfold fX1_size at h
  refine lv_aload_n hx hb dX1_size_0 rfl (lv_at hl 0 rfl) ?_
  refine va_get (ci := 1) (v := .int pz) (C := RX1) (T := TX1) (N := 3) hx hb hts uX1_size_X1 hown hK hP 0 rfl rfl 2 (by decide) (hts _ mX1_size_18) (fun _ h9 => h9) rfl dX1_size_1 ?_
  cases h
  exact zr_i hx hb hr hlocks dX1_size_4
def fX1_forget  : Option ((Int32)) :=
  some 0
theorem mX1_forget_18 : Cond.fieldLink RX1 18 "IdleDiscards$Past" "size" "I" ∈ wsX1_forget := by decide +kernel
theorem uX1_forget_X1 : ∀ w ∈ wsX10, w ∈ wsX1_forget := by decide +kernel
set_option maxRecDepth 100000 in
set_option maxHeartbeats 4000000 in
theorem kX1_forget (l : Launch) (g : zG) (h0 : Nat) (vs : Value) (ol : Int32) (pz : Int32) {pz' : Int32} (h : fX1_forget = some pz') : Mw l g yX1_forget wsX1_forget { frames := 0, cells := 0, slots := 0, locals := 0 } [.ref h0] (zP0 g h0 vs ol pz) (zWv g (zP0 g h0 vs ol pz')) := by
  refine zw_in (cc := cX1_forget) (maxL := 1) (ret := none) (by decide) rfl (Nat.le_of_ble_eq_true rfl) ?_
  intro p e s m below meth c hx hb hr hml hts hown hlocks hK A hA hP hD hS ls hl
  replace hl : lv_has ls 1 [(0, .ref h0)] := hl
  unfold fX1_forget at h
  refine lv_aload_n hx hb dX1_forget_0 rfl (lv_at hl 0 rfl) ?_
  refine lv_iconst (v := 0) hx hb dX1_forget_1 (by decide) ?_
  refine va_put (ci := 1) (v := .int 0) (ty := .int) (C := RX1) (T := TX1) (N := 3) hx hb hts uX1_forget_X1 tyX1 tyX1_ok nmX1 hown hK hP hD hS 0 rfl rfl 2 (by decide) (hts _ mX1_forget_18) (fun _ h9 => h9) rfl (by decide +kernel) rfl rfl (Nat.le_of_ble_eq_true rfl) dX1_forget_2 (fun H locs hP hD hS => ?_)
  replace hP : zP g (zP0 g h0 vs ol 0) H := hP
  replace hD : va_D A (zP0 g h0 vs ol 0) := hD
  cases h
  exact zw_v hx hb hr hlocks hP hS dX1_forget_5
def fX1_newest (ol : Int32) (pz : Int32) : Option (Int32) :=
  some (irem ((ol + pz) - 1) 14)
theorem mX1_newest_22 : Cond.fieldLink RX1 22 "IdleDiscards$Past" "oldest" "I" ∈ wsX1_newest := by decide +kernel
theorem uX1_newest_X1 : ∀ w ∈ wsX10, w ∈ wsX1_newest := by decide +kernel
theorem mX1_newest_18 : Cond.fieldLink RX1 18 "IdleDiscards$Past" "size" "I" ∈ wsX1_newest := by decide +kernel
set_option maxRecDepth 100000 in
set_option maxHeartbeats 4000000 in
theorem kX1_newest (l : Launch) (g : zG) (h0 : Nat) (vs : Value) (ol : Int32) (pz : Int32) {r : Int32} (h : fX1_newest ol pz = some r) : Mr l g yX1_newest wsX1_newest { frames := 0, cells := 0, slots := 0, locals := 0 } [.ref h0] (zP0 g h0 vs ol pz) (zQi r) := by
  refine zr_in (cc := cX1_newest) (maxL := 1) (ret := (some .int)) (by decide) rfl (Nat.le_of_ble_eq_true rfl) ?_
  intro p e s m below meth c hx hb hr hml hts hown hlocks hP hK ls hl
  replace hl : lv_has ls 1 [(0, .ref h0)] := hl
  unfold fX1_newest at h
  refine lv_aload_n hx hb dX1_newest_0 rfl (lv_at hl 0 rfl) ?_
  refine va_get (ci := 1) (v := .int ol) (C := RX1) (T := TX1) (N := 3) hx hb hts uX1_newest_X1 hown hK hP 0 rfl rfl 1 (by decide) (hts _ mX1_newest_22) (fun _ h9 => h9) rfl dX1_newest_1 ?_
  refine lv_aload_n hx hb dX1_newest_4 rfl (lv_at hl 0 rfl) ?_
  refine va_get (ci := 1) (v := .int pz) (C := RX1) (T := TX1) (N := 3) hx hb hts uX1_newest_X1 hown hK hP 0 rfl rfl 2 (by decide) (hts _ mX1_newest_18) (fun _ h9 => h9) rfl dX1_newest_5 ?_
  refine lv_iadd hx hb dX1_newest_8 ?_
  refine lv_iconst (v := 1) hx hb dX1_newest_9 (by decide) ?_
  refine lv_isub hx hb dX1_newest_10 ?_
  refine lv_bipush (v := 14) hx hb dX1_newest_11 (by decide) ?_
  refine lv_irem hx hb dX1_newest_13 (by decide) ?_
  cases h
  exact zr_i hx hb hr hlocks dX1_newest_14
