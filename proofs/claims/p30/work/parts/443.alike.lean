def fL_alike_173 : Nat → Int32 → Int32 → Int32 → zXS → zXS → Option (Int32 × zXS × zXS)
  | 0, _, _, _, _, _ => none
  | n + 1, v2, v3, v4, vo, vq =>
    if 16 ≤ v4 then
        if ¬ (v3 &&& 1 = v3) then none else some (v3, vo, vq)
      else
        if v3 = 0 then
          if ¬ (v3 &&& 1 = v3) then none else some (v3, vo, vq)
        else
          ob2 (fL_call vo 4 v4 0 0) fun r5 wo5 =>
          ob2 (fL_call vq 4 v4 0 0) fun r6 wq6 =>
          if r5 = r6 then
            ob2 (fL_call wo5 4 v4 1 0) fun r8 wo8 =>
            ob2 (fL_call wq6 4 v4 1 0) fun r9 wq9 =>
            if r8 = r9 then
              ob2 (fL_call wo8 4 v4 2 0) fun r11 wo11 =>
              ob2 (fL_call wq9 4 v4 2 0) fun r12 wq12 =>
              if r11 = r12 then
                ob2 (fL_call wo11 3 (irem (v2 + (17 * v4)) 256) (irem v2 4) 0) fun r14 wo14 =>
                ob2 (fL_call wq12 3 (irem (v2 + (17 * v4)) 256) (irem v2 4) 0) fun r15 wq15 =>
                if r14 = r15 then
                  fL_alike_173 n v2 1 (v4 + 1) wo14 wq15
                else
                  fL_alike_173 n v2 0 (v4 + 1) wo14 wq15
              else
                fL_alike_173 n v2 0 (v4 + 1) wo11 wq12
            else
              fL_alike_173 n v2 0 (v4 + 1) wo8 wq9
          else
            fL_alike_173 n v2 0 (v4 + 1) wo5 wq6
def fL_alike_78 : Nat → Int32 → Int32 → Int32 → zXS → zXS → Option (Int32 × zXS × zXS)
  | 0, _, _, _, _, _ => none
  | n + 1, v2, v3, v4, vo, vq =>
    if 11 ≤ v4 then
        fL_alike_173 17 v2 v3 0 vo vq
      else
        if v3 = 0 then
          fL_alike_173 17 v2 v3 0 vo vq
        else
          ob2 (fL_call vo 2 v4 0 0) fun r19 wo19 =>
          ob2 (fL_call vq 2 v4 0 0) fun r20 wq20 =>
          if r19 = r20 then
            ob2 (fL_call wo19 6 v4 0 0) fun r22 wo22 =>
            ob2 (fL_call wq20 6 v4 0 0) fun r23 wq23 =>
            if r22 = r23 then
              ob2 (fL_call wo22 5 v4 (irem v2 2) 0) fun r25 wo25 =>
              ob2 (fL_call wq23 5 v4 (irem v2 2) 0) fun r26 wq26 =>
              if r25 = r26 then
                fL_alike_78 n v2 1 (v4 + 1) wo25 wq26
              else
                fL_alike_78 n v2 0 (v4 + 1) wo25 wq26
            else
              fL_alike_78 n v2 0 (v4 + 1) wo22 wq23
          else
            fL_alike_78 n v2 0 (v4 + 1) wo19 wq20
def fL_alike (vo : zXS) (vq : zXS) (a2 : Int32) : Option (Int32 × zXS × zXS) :=
  ob2 (fL_trySimulate vo a2.toInt64 (1 + (irem a2 9))) fun r28 wo28 =>
  ob2 (fL_trySimulate vq a2.toInt64 (1 + (irem a2 9))) fun r29 wq29 =>
  if r28 = r29 then
    ob (fO_stuck wo28) fun r31 =>
    ob (fO_stuck wq29) fun r32 =>
    if r31 = r32 then
      ob2 (fL_call wo28 17 (1 + (irem a2 9)) 0 0) fun r34 wo34 =>
      ob2 (fL_call wq29 17 (1 + (irem a2 9)) 0 0) fun r35 wq35 =>
      if r34 = r35 then
        fL_alike_78 12 a2 1 0 wo34 wq35
      else
        fL_alike_78 12 a2 0 0 wo34 wq35
    else
      fL_alike_78 12 a2 0 0 wo28 wq29
  else
    fL_alike_78 12 a2 0 0 wo28 wq29
set_option maxRecDepth 100000 in
set_option maxHeartbeats 8000000 in
theorem kL_alike (l : Launch) (g : zG) (h0 hq : Nat) (u uq : zAd) (vo : zXS) (vq : zXS) (a2 : Int32) (htr : l.stackTraces = false) {r : Int32} {vo' : zXS} {vq' : zXS} (h : fL_alike vo vq a2 = some (r, vo', vq')) : Mn l g yL_alike wsL_alike { frames := 11, cells := 632, slots := 3792, locals := 212 } [.ref h0, .ref hq, .int a2] (zXW g hq uq vq ++ zXW g h0 u vo) (zWi g (zXW g hq uq vq' ++ zXW g h0 u vo') r) 632 3792 := by
  refine zn_in0 (cc := cL_alike) (maxL := 5) (ret := (some .boolean)) (by decide) rfl (Nat.le_of_ble_eq_true rfl) ?_
  intro p e s m below meth c hx hb hr hml hts hown hlocks hK hN A hA hP hD hS hAm ls hl
  replace hl : lv_has ls 5 [(0, .ref h0), (1, .ref hq), (2, .int a2)] := hl
  have loop_173 : ∀ (n : Nat) (v2 : Int32) (v3 : Int32) (v4 : Int32) (vo : zXS) (vq : zXS) (cells slots : Nat), fL_alike_173 n v2 v3 v4 vo vq = some (r, vo', vq') → cells + (n * 24 + 0) ≤ 632 → slots + 6 * (n * 24 + 0) ≤ 3792 → ∀ (H : Heap) (locs : List Loc), zP g (zXW g hq uq vq ++ zXW g h0 u vo) H → va_D A (zXW g hq uq vq ++ zXW g h0 u vo) → va_S A s.heap H locs → ∀ (ls : Array Slot), lv_has ls 5 [(0, .ref h0), (1, .ref hq), (2, .int v2), (3, .int v3), (4, .int v4)] → W p l e ({ frames := 11, cells := 632, slots := 3792, locals := 212 } : Room) s m [.ref h0, .ref hq, .int a2].toArray below meth c H locs cells slots (MQ below (zWi g (zXW g hq uq vq' ++ zXW g h0 u vo') r A) [.ref h0, .ref hq, .int a2].toArray s 632 3792 A) (F0 m 173 ls []) := by
    intro n
    induction n with
    | zero => intro v2 v3 v4 vo vq cells slots h; exact zn h
    | succ n ih =>
      intro v2 v3 v4 vo vq cells slots h hc hs H locs hP hD hS ls hl
      rw [fL_alike_173] at h
      refine lv_iload hx hb dL_alike_173 (lv_at hl 4 rfl) ?_
      refine lv_bipush (v := 16) hx hb dL_alike_175 (by decide) ?_
      refine lv_icmp_ge (tgt := 302) hx hb dL_alike_177 (by decide) (fun c1 => ?_) (fun c1 => ?_)
      · replace h := zt c1 h
        refine lv_iload_n hx hb dL_alike_302 rfl (lv_at hl 3 rfl) ?_
        obtain ⟨i2, h⟩ := zi h
        cases h
        exact W.widen (by omega) (by omega) (zw_z hx hb hr hlocks (Decidable.of_not_not i2) hP hS dL_alike_303)
      · replace h := zf c1 h
        refine lv_iload_n hx hb dL_alike_180 rfl (lv_at hl 3 rfl) ?_
        refine lv_if_eq (tgt := 302) hx hb dL_alike_181 (by decide) (fun c3 => ?_) (fun c3 => ?_)
        · replace h := zt c3 h
          refine lv_iload_n hx hb dL_alike_302 rfl (lv_at hl 3 rfl) ?_
          obtain ⟨i4, h⟩ := zi h
          cases h
          exact W.widen (by omega) (by omega) (zw_z hx hb hr hlocks (Decidable.of_not_not i4) hP hS dL_alike_303)
        · replace h := zf c3 h
          refine lv_aload_n hx hb dL_alike_184 rfl (lv_at hl 0 rfl) ?_
          refine lv_iconst (v := 4) hx hb dL_alike_185 (by decide) ?_
          refine lv_iload hx hb dL_alike_186 (lv_at hl 4 rfl) ?_
          refine lv_iconst (v := 0) hx hb dL_alike_188 (by decide) ?_
          refine lv_iconst (v := 0) hx hb dL_alike_189 (by decide) ?_
          obtain ⟨r5, wo5, e5, h⟩ := zb2 h
          refine zLSc (w := (zXW g hq uq vq ++ zXW g h0 u vo)) (wr := (zXW g hq uq vq)) (wc := (zXW g h0 u vo)) (wq := (zXW g h0 u wo5)) (wp := (zXW g hq uq vq ++ zXW g h0 u wo5)) (As := [.ref h0, .int 4, .int v4, .int 0, .int 0]) (rest := []) (zWi_q g _ _) ⟨hx, hb, hml, hown, hts⟩ (kL_call l g h0 u vo 4 v4 0 0 htr e5) (va_cwS 5 hts gL_alike_L_call rfl rfl rfl hdS_L_call ⟨Nat.le_of_ble_eq_true rfl, Nat.le_of_ble_eq_true rfl⟩) hK hP hD hS hA hAm hN (zXW_fst g h0 u _ _) (List.Perm.refl _) (List.Perm.refl _) rfl hl.1 rfl (Nat.le_of_ble_eq_true rfl) ⟨by show _ ≤ 632; omega, by show _ ≤ 3792; omega⟩ dL_alike_190 (fun H locs hP hD hS => ?_)
          replace hP : zP g (zXW g hq uq vq ++ zXW g h0 u wo5) H := hP
          replace hD : va_D A (zXW g hq uq vq ++ zXW g h0 u wo5) := hD
          refine lv_aload_n hx hb dL_alike_193 rfl (lv_at hl 1 rfl) ?_
          refine lv_iconst (v := 4) hx hb dL_alike_194 (by decide) ?_
          refine lv_iload hx hb dL_alike_195 (lv_at hl 4 rfl) ?_
          refine lv_iconst (v := 0) hx hb dL_alike_197 (by decide) ?_
          refine lv_iconst (v := 0) hx hb dL_alike_198 (by decide) ?_
          obtain ⟨r6, wq6, e6, h⟩ := zb2 h
          refine zLSc (w := (zXW g hq uq vq ++ zXW g h0 u wo5)) (wr := (zXW g h0 u wo5)) (wc := (zXW g hq uq vq)) (wq := (zXW g hq uq wq6)) (wp := (zXW g hq uq wq6 ++ zXW g h0 u wo5)) (As := [.ref hq, .int 4, .int v4, .int 0, .int 0]) (rest := [.int r5]) (zWi_q g _ _) ⟨hx, hb, hml, hown, hts⟩ (kL_call l g hq uq vq 4 v4 0 0 htr e6) (va_cwS 5 hts gL_alike_L_call rfl rfl rfl hdS_L_call ⟨Nat.le_of_ble_eq_true rfl, Nat.le_of_ble_eq_true rfl⟩) hK hP hD hS hA hAm hN (zXW_fst g hq uq _ _) List.perm_append_comm List.perm_append_comm rfl hl.1 rfl (Nat.le_of_ble_eq_true rfl) ⟨by show _ ≤ 632; omega, by show _ ≤ 3792; omega⟩ dL_alike_199 (fun H locs hP hD hS => ?_)
          replace hP : zP g (zXW g hq uq wq6 ++ zXW g h0 u wo5) H := hP
          replace hD : va_D A (zXW g hq uq wq6 ++ zXW g h0 u wo5) := hD
          refine lv_icmp_ne (tgt := 294) hx hb dL_alike_202 (by decide) (fun c7 => ?_) (fun c7 => ?_)
          · replace h := zf c7 h
            refine lv_iconst (v := 0) hx hb dL_alike_294 (by decide) ?_
            refine lv_istore_n (lv' := [(3, .int 0), (0, .ref h0), (1, .ref hq), (2, .int v2), (4, .int v4)]) hx hb dL_alike_295 rfl hl (by decide) rfl (fun ls hl => ?_)
            refine lv_iinc (v := (v4 + 1)) (lv' := [(4, .int (v4 + 1)), (3, .int 0), (0, .ref h0), (1, .ref hq), (2, .int v2)]) hx hb dL_alike_296 hl (k := 4) rfl rfl (by decide) rfl (fun ls hl => ?_)
            refine lv_goto (tgt := 173) hx hb dL_alike_299 (by decide) ?_
            exact ih v2 0 (v4 + 1) wo5 wq6 _ _ h (by omega) (by omega) H locs hP hD hS ls (lv_sub hl [2, 3, 4, 1, 0] rfl)
          · replace h := zt c7 h
            refine lv_aload_n hx hb dL_alike_205 rfl (lv_at hl 0 rfl) ?_
            refine lv_iconst (v := 4) hx hb dL_alike_206 (by decide) ?_
            refine lv_iload hx hb dL_alike_207 (lv_at hl 4 rfl) ?_
            refine lv_iconst (v := 1) hx hb dL_alike_209 (by decide) ?_
            refine lv_iconst (v := 0) hx hb dL_alike_210 (by decide) ?_
            obtain ⟨r8, wo8, e8, h⟩ := zb2 h
            refine zLSc (w := (zXW g hq uq wq6 ++ zXW g h0 u wo5)) (wr := (zXW g hq uq wq6)) (wc := (zXW g h0 u wo5)) (wq := (zXW g h0 u wo8)) (wp := (zXW g hq uq wq6 ++ zXW g h0 u wo8)) (As := [.ref h0, .int 4, .int v4, .int 1, .int 0]) (rest := []) (zWi_q g _ _) ⟨hx, hb, hml, hown, hts⟩ (kL_call l g h0 u wo5 4 v4 1 0 htr e8) (va_cwS 5 hts gL_alike_L_call rfl rfl rfl hdS_L_call ⟨Nat.le_of_ble_eq_true rfl, Nat.le_of_ble_eq_true rfl⟩) hK hP hD hS hA hAm hN (zXW_fst g h0 u _ _) (List.Perm.refl _) (List.Perm.refl _) rfl hl.1 rfl (Nat.le_of_ble_eq_true rfl) ⟨by show _ ≤ 632; omega, by show _ ≤ 3792; omega⟩ dL_alike_211 (fun H locs hP hD hS => ?_)
            replace hP : zP g (zXW g hq uq wq6 ++ zXW g h0 u wo8) H := hP
            replace hD : va_D A (zXW g hq uq wq6 ++ zXW g h0 u wo8) := hD
            refine lv_aload_n hx hb dL_alike_214 rfl (lv_at hl 1 rfl) ?_
            refine lv_iconst (v := 4) hx hb dL_alike_215 (by decide) ?_
            refine lv_iload hx hb dL_alike_216 (lv_at hl 4 rfl) ?_
            refine lv_iconst (v := 1) hx hb dL_alike_218 (by decide) ?_
            refine lv_iconst (v := 0) hx hb dL_alike_219 (by decide) ?_
            obtain ⟨r9, wq9, e9, h⟩ := zb2 h
            refine zLSc (w := (zXW g hq uq wq6 ++ zXW g h0 u wo8)) (wr := (zXW g h0 u wo8)) (wc := (zXW g hq uq wq6)) (wq := (zXW g hq uq wq9)) (wp := (zXW g hq uq wq9 ++ zXW g h0 u wo8)) (As := [.ref hq, .int 4, .int v4, .int 1, .int 0]) (rest := [.int r8]) (zWi_q g _ _) ⟨hx, hb, hml, hown, hts⟩ (kL_call l g hq uq wq6 4 v4 1 0 htr e9) (va_cwS 5 hts gL_alike_L_call rfl rfl rfl hdS_L_call ⟨Nat.le_of_ble_eq_true rfl, Nat.le_of_ble_eq_true rfl⟩) hK hP hD hS hA hAm hN (zXW_fst g hq uq _ _) List.perm_append_comm List.perm_append_comm rfl hl.1 rfl (Nat.le_of_ble_eq_true rfl) ⟨by show _ ≤ 632; omega, by show _ ≤ 3792; omega⟩ dL_alike_220 (fun H locs hP hD hS => ?_)
            replace hP : zP g (zXW g hq uq wq9 ++ zXW g h0 u wo8) H := hP
            replace hD : va_D A (zXW g hq uq wq9 ++ zXW g h0 u wo8) := hD
            refine lv_icmp_ne (tgt := 294) hx hb dL_alike_223 (by decide) (fun c10 => ?_) (fun c10 => ?_)
            · replace h := zf c10 h
              refine lv_iconst (v := 0) hx hb dL_alike_294 (by decide) ?_
              refine lv_istore_n (lv' := [(3, .int 0), (0, .ref h0), (1, .ref hq), (2, .int v2), (4, .int v4)]) hx hb dL_alike_295 rfl hl (by decide) rfl (fun ls hl => ?_)
              refine lv_iinc (v := (v4 + 1)) (lv' := [(4, .int (v4 + 1)), (3, .int 0), (0, .ref h0), (1, .ref hq), (2, .int v2)]) hx hb dL_alike_296 hl (k := 4) rfl rfl (by decide) rfl (fun ls hl => ?_)
              refine lv_goto (tgt := 173) hx hb dL_alike_299 (by decide) ?_
              exact ih v2 0 (v4 + 1) wo8 wq9 _ _ h (by omega) (by omega) H locs hP hD hS ls (lv_sub hl [2, 3, 4, 1, 0] rfl)
            · replace h := zt c10 h
              refine lv_aload_n hx hb dL_alike_226 rfl (lv_at hl 0 rfl) ?_
              refine lv_iconst (v := 4) hx hb dL_alike_227 (by decide) ?_
              refine lv_iload hx hb dL_alike_228 (lv_at hl 4 rfl) ?_
              refine lv_iconst (v := 2) hx hb dL_alike_230 (by decide) ?_
              refine lv_iconst (v := 0) hx hb dL_alike_231 (by decide) ?_
              obtain ⟨r11, wo11, e11, h⟩ := zb2 h
              refine zLSc (w := (zXW g hq uq wq9 ++ zXW g h0 u wo8)) (wr := (zXW g hq uq wq9)) (wc := (zXW g h0 u wo8)) (wq := (zXW g h0 u wo11)) (wp := (zXW g hq uq wq9 ++ zXW g h0 u wo11)) (As := [.ref h0, .int 4, .int v4, .int 2, .int 0]) (rest := []) (zWi_q g _ _) ⟨hx, hb, hml, hown, hts⟩ (kL_call l g h0 u wo8 4 v4 2 0 htr e11) (va_cwS 5 hts gL_alike_L_call rfl rfl rfl hdS_L_call ⟨Nat.le_of_ble_eq_true rfl, Nat.le_of_ble_eq_true rfl⟩) hK hP hD hS hA hAm hN (zXW_fst g h0 u _ _) (List.Perm.refl _) (List.Perm.refl _) rfl hl.1 rfl (Nat.le_of_ble_eq_true rfl) ⟨by show _ ≤ 632; omega, by show _ ≤ 3792; omega⟩ dL_alike_232 (fun H locs hP hD hS => ?_)
              replace hP : zP g (zXW g hq uq wq9 ++ zXW g h0 u wo11) H := hP
              replace hD : va_D A (zXW g hq uq wq9 ++ zXW g h0 u wo11) := hD
              refine lv_aload_n hx hb dL_alike_235 rfl (lv_at hl 1 rfl) ?_
              refine lv_iconst (v := 4) hx hb dL_alike_236 (by decide) ?_
              refine lv_iload hx hb dL_alike_237 (lv_at hl 4 rfl) ?_
              refine lv_iconst (v := 2) hx hb dL_alike_239 (by decide) ?_
              refine lv_iconst (v := 0) hx hb dL_alike_240 (by decide) ?_
              obtain ⟨r12, wq12, e12, h⟩ := zb2 h
              refine zLSc (w := (zXW g hq uq wq9 ++ zXW g h0 u wo11)) (wr := (zXW g h0 u wo11)) (wc := (zXW g hq uq wq9)) (wq := (zXW g hq uq wq12)) (wp := (zXW g hq uq wq12 ++ zXW g h0 u wo11)) (As := [.ref hq, .int 4, .int v4, .int 2, .int 0]) (rest := [.int r11]) (zWi_q g _ _) ⟨hx, hb, hml, hown, hts⟩ (kL_call l g hq uq wq9 4 v4 2 0 htr e12) (va_cwS 5 hts gL_alike_L_call rfl rfl rfl hdS_L_call ⟨Nat.le_of_ble_eq_true rfl, Nat.le_of_ble_eq_true rfl⟩) hK hP hD hS hA hAm hN (zXW_fst g hq uq _ _) List.perm_append_comm List.perm_append_comm rfl hl.1 rfl (Nat.le_of_ble_eq_true rfl) ⟨by show _ ≤ 632; omega, by show _ ≤ 3792; omega⟩ dL_alike_241 (fun H locs hP hD hS => ?_)
              replace hP : zP g (zXW g hq uq wq12 ++ zXW g h0 u wo11) H := hP
              replace hD : va_D A (zXW g hq uq wq12 ++ zXW g h0 u wo11) := hD
              refine lv_icmp_ne (tgt := 294) hx hb dL_alike_244 (by decide) (fun c13 => ?_) (fun c13 => ?_)
              · replace h := zf c13 h
                refine lv_iconst (v := 0) hx hb dL_alike_294 (by decide) ?_
                refine lv_istore_n (lv' := [(3, .int 0), (0, .ref h0), (1, .ref hq), (2, .int v2), (4, .int v4)]) hx hb dL_alike_295 rfl hl (by decide) rfl (fun ls hl => ?_)
                refine lv_iinc (v := (v4 + 1)) (lv' := [(4, .int (v4 + 1)), (3, .int 0), (0, .ref h0), (1, .ref hq), (2, .int v2)]) hx hb dL_alike_296 hl (k := 4) rfl rfl (by decide) rfl (fun ls hl => ?_)
                refine lv_goto (tgt := 173) hx hb dL_alike_299 (by decide) ?_
                exact ih v2 0 (v4 + 1) wo11 wq12 _ _ h (by omega) (by omega) H locs hP hD hS ls (lv_sub hl [2, 3, 4, 1, 0] rfl)
              · replace h := zt c13 h
                refine lv_aload_n hx hb dL_alike_247 rfl (lv_at hl 0 rfl) ?_
                refine lv_iconst (v := 3) hx hb dL_alike_248 (by decide) ?_
                refine lv_iload_n hx hb dL_alike_249 rfl (lv_at hl 2 rfl) ?_
                refine lv_bipush (v := 17) hx hb dL_alike_250 (by decide) ?_
                refine lv_iload hx hb dL_alike_252 (lv_at hl 4 rfl) ?_
                refine lv_imul hx hb dL_alike_254 ?_
                refine lv_iadd hx hb dL_alike_255 ?_
                refine lv_sipush (v := 256) hx hb dL_alike_256 (by decide) ?_
                refine lv_irem hx hb dL_alike_259 (by decide) ?_
                refine lv_iload_n hx hb dL_alike_260 rfl (lv_at hl 2 rfl) ?_
                refine lv_iconst (v := 4) hx hb dL_alike_261 (by decide) ?_
                refine lv_irem hx hb dL_alike_262 (by decide) ?_
                refine lv_iconst (v := 0) hx hb dL_alike_263 (by decide) ?_
                obtain ⟨r14, wo14, e14, h⟩ := zb2 h
                refine zLSc (w := (zXW g hq uq wq12 ++ zXW g h0 u wo11)) (wr := (zXW g hq uq wq12)) (wc := (zXW g h0 u wo11)) (wq := (zXW g h0 u wo14)) (wp := (zXW g hq uq wq12 ++ zXW g h0 u wo14)) (As := [.ref h0, .int 3, .int (irem (v2 + (17 * v4)) 256), .int (irem v2 4), .int 0]) (rest := []) (zWi_q g _ _) ⟨hx, hb, hml, hown, hts⟩ (kL_call l g h0 u wo11 3 (irem (v2 + (17 * v4)) 256) (irem v2 4) 0 htr e14) (va_cwS 5 hts gL_alike_L_call rfl rfl rfl hdS_L_call ⟨Nat.le_of_ble_eq_true rfl, Nat.le_of_ble_eq_true rfl⟩) hK hP hD hS hA hAm hN (zXW_fst g h0 u _ _) (List.Perm.refl _) (List.Perm.refl _) rfl hl.1 rfl (Nat.le_of_ble_eq_true rfl) ⟨by show _ ≤ 632; omega, by show _ ≤ 3792; omega⟩ dL_alike_264 (fun H locs hP hD hS => ?_)
                replace hP : zP g (zXW g hq uq wq12 ++ zXW g h0 u wo14) H := hP
                replace hD : va_D A (zXW g hq uq wq12 ++ zXW g h0 u wo14) := hD
                refine lv_aload_n hx hb dL_alike_267 rfl (lv_at hl 1 rfl) ?_
                refine lv_iconst (v := 3) hx hb dL_alike_268 (by decide) ?_
                refine lv_iload_n hx hb dL_alike_269 rfl (lv_at hl 2 rfl) ?_
                refine lv_bipush (v := 17) hx hb dL_alike_270 (by decide) ?_
                refine lv_iload hx hb dL_alike_272 (lv_at hl 4 rfl) ?_
                refine lv_imul hx hb dL_alike_274 ?_
                refine lv_iadd hx hb dL_alike_275 ?_
                refine lv_sipush (v := 256) hx hb dL_alike_276 (by decide) ?_
                refine lv_irem hx hb dL_alike_279 (by decide) ?_
                refine lv_iload_n hx hb dL_alike_280 rfl (lv_at hl 2 rfl) ?_
                refine lv_iconst (v := 4) hx hb dL_alike_281 (by decide) ?_
                refine lv_irem hx hb dL_alike_282 (by decide) ?_
                refine lv_iconst (v := 0) hx hb dL_alike_283 (by decide) ?_
                obtain ⟨r15, wq15, e15, h⟩ := zb2 h
                refine zLSc (w := (zXW g hq uq wq12 ++ zXW g h0 u wo14)) (wr := (zXW g h0 u wo14)) (wc := (zXW g hq uq wq12)) (wq := (zXW g hq uq wq15)) (wp := (zXW g hq uq wq15 ++ zXW g h0 u wo14)) (As := [.ref hq, .int 3, .int (irem (v2 + (17 * v4)) 256), .int (irem v2 4), .int 0]) (rest := [.int r14]) (zWi_q g _ _) ⟨hx, hb, hml, hown, hts⟩ (kL_call l g hq uq wq12 3 (irem (v2 + (17 * v4)) 256) (irem v2 4) 0 htr e15) (va_cwS 5 hts gL_alike_L_call rfl rfl rfl hdS_L_call ⟨Nat.le_of_ble_eq_true rfl, Nat.le_of_ble_eq_true rfl⟩) hK hP hD hS hA hAm hN (zXW_fst g hq uq _ _) List.perm_append_comm List.perm_append_comm rfl hl.1 rfl (Nat.le_of_ble_eq_true rfl) ⟨by show _ ≤ 632; omega, by show _ ≤ 3792; omega⟩ dL_alike_284 (fun H locs hP hD hS => ?_)
                replace hP : zP g (zXW g hq uq wq15 ++ zXW g h0 u wo14) H := hP
                replace hD : va_D A (zXW g hq uq wq15 ++ zXW g h0 u wo14) := hD
                refine lv_icmp_ne (tgt := 294) hx hb dL_alike_287 (by decide) (fun c16 => ?_) (fun c16 => ?_)
                · replace h := zf c16 h
                  refine lv_iconst (v := 0) hx hb dL_alike_294 (by decide) ?_
                  refine lv_istore_n (lv' := [(3, .int 0), (0, .ref h0), (1, .ref hq), (2, .int v2), (4, .int v4)]) hx hb dL_alike_295 rfl hl (by decide) rfl (fun ls hl => ?_)
                  refine lv_iinc (v := (v4 + 1)) (lv' := [(4, .int (v4 + 1)), (3, .int 0), (0, .ref h0), (1, .ref hq), (2, .int v2)]) hx hb dL_alike_296 hl (k := 4) rfl rfl (by decide) rfl (fun ls hl => ?_)
                  refine lv_goto (tgt := 173) hx hb dL_alike_299 (by decide) ?_
                  exact ih v2 0 (v4 + 1) wo14 wq15 _ _ h (by omega) (by omega) H locs hP hD hS ls (lv_sub hl [2, 3, 4, 1, 0] rfl)
                · replace h := zt c16 h
                  refine lv_iconst (v := 1) hx hb dL_alike_290 (by decide) ?_
                  refine lv_goto (tgt := 295) hx hb dL_alike_291 (by decide) ?_
                  refine lv_istore_n (lv' := [(3, .int 1), (0, .ref h0), (1, .ref hq), (2, .int v2), (4, .int v4)]) hx hb dL_alike_295 rfl hl (by decide) rfl (fun ls hl => ?_)
                  refine lv_iinc (v := (v4 + 1)) (lv' := [(4, .int (v4 + 1)), (3, .int 1), (0, .ref h0), (1, .ref hq), (2, .int v2)]) hx hb dL_alike_296 hl (k := 4) rfl rfl (by decide) rfl (fun ls hl => ?_)
                  refine lv_goto (tgt := 173) hx hb dL_alike_299 (by decide) ?_
                  exact ih v2 1 (v4 + 1) wo14 wq15 _ _ h (by omega) (by omega) H locs hP hD hS ls (lv_sub hl [2, 3, 4, 1, 0] rfl)
  have loop_78 : ∀ (n : Nat) (v2 : Int32) (v3 : Int32) (v4 : Int32) (vo : zXS) (vq : zXS) (cells slots : Nat), fL_alike_78 n v2 v3 v4 vo vq = some (r, vo', vq') → cells + (n * 18 + 408) ≤ 632 → slots + 6 * (n * 18 + 408) ≤ 3792 → ∀ (H : Heap) (locs : List Loc), zP g (zXW g hq uq vq ++ zXW g h0 u vo) H → va_D A (zXW g hq uq vq ++ zXW g h0 u vo) → va_S A s.heap H locs → ∀ (ls : Array Slot), lv_has ls 5 [(0, .ref h0), (1, .ref hq), (2, .int v2), (3, .int v3), (4, .int v4)] → W p l e ({ frames := 11, cells := 632, slots := 3792, locals := 212 } : Room) s m [.ref h0, .ref hq, .int a2].toArray below meth c H locs cells slots (MQ below (zWi g (zXW g hq uq vq' ++ zXW g h0 u vo') r A) [.ref h0, .ref hq, .int a2].toArray s 632 3792 A) (F0 m 78 ls []) := by
    intro n
    induction n with
    | zero => intro v2 v3 v4 vo vq cells slots h; exact zn h
    | succ n ih =>
      intro v2 v3 v4 vo vq cells slots h hc hs H locs hP hD hS ls hl
      rw [fL_alike_78] at h
      refine lv_iload hx hb dL_alike_78 (lv_at hl 4 rfl) ?_
      refine lv_bipush (v := 11) hx hb dL_alike_80 (by decide) ?_
      refine lv_icmp_ge (tgt := 170) hx hb dL_alike_82 (by decide) (fun c17 => ?_) (fun c17 => ?_)
      · replace h := zt c17 h
        refine lv_iconst (v := 0) hx hb dL_alike_170 (by decide) ?_
        refine lv_istore (lv' := [(4, .int 0), (0, .ref h0), (1, .ref hq), (2, .int v2), (3, .int v3)]) hx hb dL_alike_171 hl (by decide) rfl (fun ls hl => ?_)
        exact loop_173 17 v2 v3 0 vo vq _ _ h (by omega) (by omega) H locs hP hD hS ls (lv_sub hl [1, 2, 3, 4, 0] rfl)
      · replace h := zf c17 h
        refine lv_iload_n hx hb dL_alike_85 rfl (lv_at hl 3 rfl) ?_
        refine lv_if_eq (tgt := 170) hx hb dL_alike_86 (by decide) (fun c18 => ?_) (fun c18 => ?_)
        · replace h := zt c18 h
          refine lv_iconst (v := 0) hx hb dL_alike_170 (by decide) ?_
          refine lv_istore (lv' := [(4, .int 0), (0, .ref h0), (1, .ref hq), (2, .int v2), (3, .int v3)]) hx hb dL_alike_171 hl (by decide) rfl (fun ls hl => ?_)
          exact loop_173 17 v2 v3 0 vo vq _ _ h (by omega) (by omega) H locs hP hD hS ls (lv_sub hl [1, 2, 3, 4, 0] rfl)
        · replace h := zf c18 h
          refine lv_aload_n hx hb dL_alike_89 rfl (lv_at hl 0 rfl) ?_
          refine lv_iconst (v := 2) hx hb dL_alike_90 (by decide) ?_
          refine lv_iload hx hb dL_alike_91 (lv_at hl 4 rfl) ?_
          refine lv_iconst (v := 0) hx hb dL_alike_93 (by decide) ?_
          refine lv_iconst (v := 0) hx hb dL_alike_94 (by decide) ?_
          obtain ⟨r19, wo19, e19, h⟩ := zb2 h
          refine zLSc (w := (zXW g hq uq vq ++ zXW g h0 u vo)) (wr := (zXW g hq uq vq)) (wc := (zXW g h0 u vo)) (wq := (zXW g h0 u wo19)) (wp := (zXW g hq uq vq ++ zXW g h0 u wo19)) (As := [.ref h0, .int 2, .int v4, .int 0, .int 0]) (rest := []) (zWi_q g _ _) ⟨hx, hb, hml, hown, hts⟩ (kL_call l g h0 u vo 2 v4 0 0 htr e19) (va_cwS 5 hts gL_alike_L_call rfl rfl rfl hdS_L_call ⟨Nat.le_of_ble_eq_true rfl, Nat.le_of_ble_eq_true rfl⟩) hK hP hD hS hA hAm hN (zXW_fst g h0 u _ _) (List.Perm.refl _) (List.Perm.refl _) rfl hl.1 rfl (Nat.le_of_ble_eq_true rfl) ⟨by show _ ≤ 632; omega, by show _ ≤ 3792; omega⟩ dL_alike_95 (fun H locs hP hD hS => ?_)
          replace hP : zP g (zXW g hq uq vq ++ zXW g h0 u wo19) H := hP
          replace hD : va_D A (zXW g hq uq vq ++ zXW g h0 u wo19) := hD
          refine lv_aload_n hx hb dL_alike_98 rfl (lv_at hl 1 rfl) ?_
          refine lv_iconst (v := 2) hx hb dL_alike_99 (by decide) ?_
          refine lv_iload hx hb dL_alike_100 (lv_at hl 4 rfl) ?_
          refine lv_iconst (v := 0) hx hb dL_alike_102 (by decide) ?_
          refine lv_iconst (v := 0) hx hb dL_alike_103 (by decide) ?_
          obtain ⟨r20, wq20, e20, h⟩ := zb2 h
          refine zLSc (w := (zXW g hq uq vq ++ zXW g h0 u wo19)) (wr := (zXW g h0 u wo19)) (wc := (zXW g hq uq vq)) (wq := (zXW g hq uq wq20)) (wp := (zXW g hq uq wq20 ++ zXW g h0 u wo19)) (As := [.ref hq, .int 2, .int v4, .int 0, .int 0]) (rest := [.int r19]) (zWi_q g _ _) ⟨hx, hb, hml, hown, hts⟩ (kL_call l g hq uq vq 2 v4 0 0 htr e20) (va_cwS 5 hts gL_alike_L_call rfl rfl rfl hdS_L_call ⟨Nat.le_of_ble_eq_true rfl, Nat.le_of_ble_eq_true rfl⟩) hK hP hD hS hA hAm hN (zXW_fst g hq uq _ _) List.perm_append_comm List.perm_append_comm rfl hl.1 rfl (Nat.le_of_ble_eq_true rfl) ⟨by show _ ≤ 632; omega, by show _ ≤ 3792; omega⟩ dL_alike_104 (fun H locs hP hD hS => ?_)
          replace hP : zP g (zXW g hq uq wq20 ++ zXW g h0 u wo19) H := hP
          replace hD : va_D A (zXW g hq uq wq20 ++ zXW g h0 u wo19) := hD
          refine lv_icmp_ne (tgt := 162) hx hb dL_alike_107 (by decide) (fun c21 => ?_) (fun c21 => ?_)
          · replace h := zf c21 h
            refine lv_iconst (v := 0) hx hb dL_alike_162 (by decide) ?_
            refine lv_istore_n (lv' := [(3, .int 0), (0, .ref h0), (1, .ref hq), (2, .int v2), (4, .int v4)]) hx hb dL_alike_163 rfl hl (by decide) rfl (fun ls hl => ?_)
            refine lv_iinc (v := (v4 + 1)) (lv' := [(4, .int (v4 + 1)), (3, .int 0), (0, .ref h0), (1, .ref hq), (2, .int v2)]) hx hb dL_alike_164 hl (k := 4) rfl rfl (by decide) rfl (fun ls hl => ?_)
            refine lv_goto (tgt := 78) hx hb dL_alike_167 (by decide) ?_
            exact ih v2 0 (v4 + 1) wo19 wq20 _ _ h (by omega) (by omega) H locs hP hD hS ls (lv_sub hl [2, 3, 4, 1, 0] rfl)
          · replace h := zt c21 h
            refine lv_aload_n hx hb dL_alike_110 rfl (lv_at hl 0 rfl) ?_
            refine lv_bipush (v := 6) hx hb dL_alike_111 (by decide) ?_
            refine lv_iload hx hb dL_alike_113 (lv_at hl 4 rfl) ?_
            refine lv_iconst (v := 0) hx hb dL_alike_115 (by decide) ?_
            refine lv_iconst (v := 0) hx hb dL_alike_116 (by decide) ?_
            obtain ⟨r22, wo22, e22, h⟩ := zb2 h
            refine zLSc (w := (zXW g hq uq wq20 ++ zXW g h0 u wo19)) (wr := (zXW g hq uq wq20)) (wc := (zXW g h0 u wo19)) (wq := (zXW g h0 u wo22)) (wp := (zXW g hq uq wq20 ++ zXW g h0 u wo22)) (As := [.ref h0, .int 6, .int v4, .int 0, .int 0]) (rest := []) (zWi_q g _ _) ⟨hx, hb, hml, hown, hts⟩ (kL_call l g h0 u wo19 6 v4 0 0 htr e22) (va_cwS 5 hts gL_alike_L_call rfl rfl rfl hdS_L_call ⟨Nat.le_of_ble_eq_true rfl, Nat.le_of_ble_eq_true rfl⟩) hK hP hD hS hA hAm hN (zXW_fst g h0 u _ _) (List.Perm.refl _) (List.Perm.refl _) rfl hl.1 rfl (Nat.le_of_ble_eq_true rfl) ⟨by show _ ≤ 632; omega, by show _ ≤ 3792; omega⟩ dL_alike_117 (fun H locs hP hD hS => ?_)
            replace hP : zP g (zXW g hq uq wq20 ++ zXW g h0 u wo22) H := hP
            replace hD : va_D A (zXW g hq uq wq20 ++ zXW g h0 u wo22) := hD
            refine lv_aload_n hx hb dL_alike_120 rfl (lv_at hl 1 rfl) ?_
            refine lv_bipush (v := 6) hx hb dL_alike_121 (by decide) ?_
            refine lv_iload hx hb dL_alike_123 (lv_at hl 4 rfl) ?_
            refine lv_iconst (v := 0) hx hb dL_alike_125 (by decide) ?_
            refine lv_iconst (v := 0) hx hb dL_alike_126 (by decide) ?_
            obtain ⟨r23, wq23, e23, h⟩ := zb2 h
            refine zLSc (w := (zXW g hq uq wq20 ++ zXW g h0 u wo22)) (wr := (zXW g h0 u wo22)) (wc := (zXW g hq uq wq20)) (wq := (zXW g hq uq wq23)) (wp := (zXW g hq uq wq23 ++ zXW g h0 u wo22)) (As := [.ref hq, .int 6, .int v4, .int 0, .int 0]) (rest := [.int r22]) (zWi_q g _ _) ⟨hx, hb, hml, hown, hts⟩ (kL_call l g hq uq wq20 6 v4 0 0 htr e23) (va_cwS 5 hts gL_alike_L_call rfl rfl rfl hdS_L_call ⟨Nat.le_of_ble_eq_true rfl, Nat.le_of_ble_eq_true rfl⟩) hK hP hD hS hA hAm hN (zXW_fst g hq uq _ _) List.perm_append_comm List.perm_append_comm rfl hl.1 rfl (Nat.le_of_ble_eq_true rfl) ⟨by show _ ≤ 632; omega, by show _ ≤ 3792; omega⟩ dL_alike_127 (fun H locs hP hD hS => ?_)
            replace hP : zP g (zXW g hq uq wq23 ++ zXW g h0 u wo22) H := hP
            replace hD : va_D A (zXW g hq uq wq23 ++ zXW g h0 u wo22) := hD
            refine lv_icmp_ne (tgt := 162) hx hb dL_alike_130 (by decide) (fun c24 => ?_) (fun c24 => ?_)
            · replace h := zf c24 h
              refine lv_iconst (v := 0) hx hb dL_alike_162 (by decide) ?_
              refine lv_istore_n (lv' := [(3, .int 0), (0, .ref h0), (1, .ref hq), (2, .int v2), (4, .int v4)]) hx hb dL_alike_163 rfl hl (by decide) rfl (fun ls hl => ?_)
              refine lv_iinc (v := (v4 + 1)) (lv' := [(4, .int (v4 + 1)), (3, .int 0), (0, .ref h0), (1, .ref hq), (2, .int v2)]) hx hb dL_alike_164 hl (k := 4) rfl rfl (by decide) rfl (fun ls hl => ?_)
              refine lv_goto (tgt := 78) hx hb dL_alike_167 (by decide) ?_
              exact ih v2 0 (v4 + 1) wo22 wq23 _ _ h (by omega) (by omega) H locs hP hD hS ls (lv_sub hl [2, 3, 4, 1, 0] rfl)
            · replace h := zt c24 h
              refine lv_aload_n hx hb dL_alike_133 rfl (lv_at hl 0 rfl) ?_
              refine lv_iconst (v := 5) hx hb dL_alike_134 (by decide) ?_
              refine lv_iload hx hb dL_alike_135 (lv_at hl 4 rfl) ?_
              refine lv_iload_n hx hb dL_alike_137 rfl (lv_at hl 2 rfl) ?_
              refine lv_iconst (v := 2) hx hb dL_alike_138 (by decide) ?_
              refine lv_irem hx hb dL_alike_139 (by decide) ?_
              refine lv_iconst (v := 0) hx hb dL_alike_140 (by decide) ?_
              obtain ⟨r25, wo25, e25, h⟩ := zb2 h
              refine zLSc (w := (zXW g hq uq wq23 ++ zXW g h0 u wo22)) (wr := (zXW g hq uq wq23)) (wc := (zXW g h0 u wo22)) (wq := (zXW g h0 u wo25)) (wp := (zXW g hq uq wq23 ++ zXW g h0 u wo25)) (As := [.ref h0, .int 5, .int v4, .int (irem v2 2), .int 0]) (rest := []) (zWi_q g _ _) ⟨hx, hb, hml, hown, hts⟩ (kL_call l g h0 u wo22 5 v4 (irem v2 2) 0 htr e25) (va_cwS 5 hts gL_alike_L_call rfl rfl rfl hdS_L_call ⟨Nat.le_of_ble_eq_true rfl, Nat.le_of_ble_eq_true rfl⟩) hK hP hD hS hA hAm hN (zXW_fst g h0 u _ _) (List.Perm.refl _) (List.Perm.refl _) rfl hl.1 rfl (Nat.le_of_ble_eq_true rfl) ⟨by show _ ≤ 632; omega, by show _ ≤ 3792; omega⟩ dL_alike_141 (fun H locs hP hD hS => ?_)
              replace hP : zP g (zXW g hq uq wq23 ++ zXW g h0 u wo25) H := hP
              replace hD : va_D A (zXW g hq uq wq23 ++ zXW g h0 u wo25) := hD
              refine lv_aload_n hx hb dL_alike_144 rfl (lv_at hl 1 rfl) ?_
              refine lv_iconst (v := 5) hx hb dL_alike_145 (by decide) ?_
              refine lv_iload hx hb dL_alike_146 (lv_at hl 4 rfl) ?_
              refine lv_iload_n hx hb dL_alike_148 rfl (lv_at hl 2 rfl) ?_
              refine lv_iconst (v := 2) hx hb dL_alike_149 (by decide) ?_
              refine lv_irem hx hb dL_alike_150 (by decide) ?_
              refine lv_iconst (v := 0) hx hb dL_alike_151 (by decide) ?_
              obtain ⟨r26, wq26, e26, h⟩ := zb2 h
              refine zLSc (w := (zXW g hq uq wq23 ++ zXW g h0 u wo25)) (wr := (zXW g h0 u wo25)) (wc := (zXW g hq uq wq23)) (wq := (zXW g hq uq wq26)) (wp := (zXW g hq uq wq26 ++ zXW g h0 u wo25)) (As := [.ref hq, .int 5, .int v4, .int (irem v2 2), .int 0]) (rest := [.int r25]) (zWi_q g _ _) ⟨hx, hb, hml, hown, hts⟩ (kL_call l g hq uq wq23 5 v4 (irem v2 2) 0 htr e26) (va_cwS 5 hts gL_alike_L_call rfl rfl rfl hdS_L_call ⟨Nat.le_of_ble_eq_true rfl, Nat.le_of_ble_eq_true rfl⟩) hK hP hD hS hA hAm hN (zXW_fst g hq uq _ _) List.perm_append_comm List.perm_append_comm rfl hl.1 rfl (Nat.le_of_ble_eq_true rfl) ⟨by show _ ≤ 632; omega, by show _ ≤ 3792; omega⟩ dL_alike_152 (fun H locs hP hD hS => ?_)
              replace hP : zP g (zXW g hq uq wq26 ++ zXW g h0 u wo25) H := hP
              replace hD : va_D A (zXW g hq uq wq26 ++ zXW g h0 u wo25) := hD
              refine lv_icmp_ne (tgt := 162) hx hb dL_alike_155 (by decide) (fun c27 => ?_) (fun c27 => ?_)
              · replace h := zf c27 h
                refine lv_iconst (v := 0) hx hb dL_alike_162 (by decide) ?_
                refine lv_istore_n (lv' := [(3, .int 0), (0, .ref h0), (1, .ref hq), (2, .int v2), (4, .int v4)]) hx hb dL_alike_163 rfl hl (by decide) rfl (fun ls hl => ?_)
                refine lv_iinc (v := (v4 + 1)) (lv' := [(4, .int (v4 + 1)), (3, .int 0), (0, .ref h0), (1, .ref hq), (2, .int v2)]) hx hb dL_alike_164 hl (k := 4) rfl rfl (by decide) rfl (fun ls hl => ?_)
                refine lv_goto (tgt := 78) hx hb dL_alike_167 (by decide) ?_
                exact ih v2 0 (v4 + 1) wo25 wq26 _ _ h (by omega) (by omega) H locs hP hD hS ls (lv_sub hl [2, 3, 4, 1, 0] rfl)
              · replace h := zt c27 h
                refine lv_iconst (v := 1) hx hb dL_alike_158 (by decide) ?_
                refine lv_goto (tgt := 163) hx hb dL_alike_159 (by decide) ?_
                refine lv_istore_n (lv' := [(3, .int 1), (0, .ref h0), (1, .ref hq), (2, .int v2), (4, .int v4)]) hx hb dL_alike_163 rfl hl (by decide) rfl (fun ls hl => ?_)
                refine lv_iinc (v := (v4 + 1)) (lv' := [(4, .int (v4 + 1)), (3, .int 1), (0, .ref h0), (1, .ref hq), (2, .int v2)]) hx hb dL_alike_164 hl (k := 4) rfl rfl (by decide) rfl (fun ls hl => ?_)
                refine lv_goto (tgt := 78) hx hb dL_alike_167 (by decide) ?_
                exact ih v2 1 (v4 + 1) wo25 wq26 _ _ h (by omega) (by omega) H locs hP hD hS ls (lv_sub hl [2, 3, 4, 1, 0] rfl)
  unfold fL_alike at h
  refine lv_aload_n hx hb dL_alike_0 rfl (lv_at hl 0 rfl) ?_
  refine lv_iload_n hx hb dL_alike_1 rfl (lv_at hl 2 rfl) ?_
  refine lv_i2l (v := a2.toInt64) hx hb dL_alike_2 rfl ?_
  refine lv_iconst (v := 1) hx hb dL_alike_3 (by decide) ?_
  refine lv_iload_n hx hb dL_alike_4 rfl (lv_at hl 2 rfl) ?_
  refine lv_bipush (v := 9) hx hb dL_alike_5 (by decide) ?_
  refine lv_irem hx hb dL_alike_7 (by decide) ?_
  refine lv_iadd hx hb dL_alike_8 ?_
  obtain ⟨r28, wo28, e28, h⟩ := zb2 h
  refine zLSw (w := (zXW g hq uq vq ++ zXW g h0 u vo)) (wr := (zXW g hq uq vq)) (wc := (zXW g h0 u vo)) (wq := (zXW g h0 u wo28)) (wp := (zXW g hq uq vq ++ zXW g h0 u wo28)) (As := [.ref h0, .long a2.toInt64, .int (1 + (irem a2 9))]) (rest := []) (zWi_q g _ _) ⟨hx, hb, hml, hown, hts⟩ (kL_trySimulate l g h0 u vo a2.toInt64 (1 + (irem a2 9)) htr e28) (vx_cwSW 3 hts gL_alike_L_trySimulate rfl rfl rfl hdS_L_trySimulate ⟨Nat.le_of_ble_eq_true rfl, Nat.le_of_ble_eq_true rfl⟩) hK hP hD hS hA hAm hN (zXW_fst g h0 u _ _) (List.Perm.refl _) (List.Perm.refl _) rfl hl.1 rfl (Nat.le_of_ble_eq_true rfl) ⟨by show _ ≤ 632; omega, by show _ ≤ 3792; omega⟩ dL_alike_9 (fun H locs hP hD hS => ?_)
  replace hP : zP g (zXW g hq uq vq ++ zXW g h0 u wo28) H := hP
  replace hD : va_D A (zXW g hq uq vq ++ zXW g h0 u wo28) := hD
  refine lv_aload_n hx hb dL_alike_12 rfl (lv_at hl 1 rfl) ?_
  refine lv_iload_n hx hb dL_alike_13 rfl (lv_at hl 2 rfl) ?_
  refine lv_i2l (v := a2.toInt64) hx hb dL_alike_14 rfl ?_
  refine lv_iconst (v := 1) hx hb dL_alike_15 (by decide) ?_
  refine lv_iload_n hx hb dL_alike_16 rfl (lv_at hl 2 rfl) ?_
  refine lv_bipush (v := 9) hx hb dL_alike_17 (by decide) ?_
  refine lv_irem hx hb dL_alike_19 (by decide) ?_
  refine lv_iadd hx hb dL_alike_20 ?_
  obtain ⟨r29, wq29, e29, h⟩ := zb2 h
  refine zLSw (w := (zXW g hq uq vq ++ zXW g h0 u wo28)) (wr := (zXW g h0 u wo28)) (wc := (zXW g hq uq vq)) (wq := (zXW g hq uq wq29)) (wp := (zXW g hq uq wq29 ++ zXW g h0 u wo28)) (As := [.ref hq, .long a2.toInt64, .int (1 + (irem a2 9))]) (rest := [.int r28]) (zWi_q g _ _) ⟨hx, hb, hml, hown, hts⟩ (kL_trySimulate l g hq uq vq a2.toInt64 (1 + (irem a2 9)) htr e29) (vx_cwSW 3 hts gL_alike_L_trySimulate rfl rfl rfl hdS_L_trySimulate ⟨Nat.le_of_ble_eq_true rfl, Nat.le_of_ble_eq_true rfl⟩) hK hP hD hS hA hAm hN (zXW_fst g hq uq _ _) List.perm_append_comm List.perm_append_comm rfl hl.1 rfl (Nat.le_of_ble_eq_true rfl) ⟨by show _ ≤ 632; omega, by show _ ≤ 3792; omega⟩ dL_alike_21 (fun H locs hP hD hS => ?_)
  replace hP : zP g (zXW g hq uq wq29 ++ zXW g h0 u wo28) H := hP
  replace hD : va_D A (zXW g hq uq wq29 ++ zXW g h0 u wo28) := hD
  refine lv_icmp_ne (tgt := 73) hx hb dL_alike_24 (by decide) (fun c30 => ?_) (fun c30 => ?_)
  · replace h := zf c30 h
    refine lv_iconst (v := 0) hx hb dL_alike_73 (by decide) ?_
    refine lv_istore_n (lv' := [(3, .int 0), (0, .ref h0), (1, .ref hq), (2, .int a2)]) hx hb dL_alike_74 rfl hl (by decide) rfl (fun ls hl => ?_)
    refine lv_iconst (v := 0) hx hb dL_alike_75 (by decide) ?_
    refine lv_istore (lv' := [(4, .int 0), (3, .int 0), (0, .ref h0), (1, .ref hq), (2, .int a2)]) hx hb dL_alike_76 hl (by decide) rfl (fun ls hl => ?_)
    exact loop_78 12 a2 0 0 wo28 wq29 _ _ h (by omega) (by omega) H locs hP hD hS ls (lv_sub hl [2, 3, 4, 1, 0] rfl)
  · replace h := zt c30 h
    refine lv_aload_n hx hb dL_alike_27 rfl (lv_at hl 0 rfl) ?_
    obtain ⟨r31, e31, h⟩ := zb h
    refine zLVq (w := (zXW g hq uq wq29 ++ zXW g h0 u wo28)) (wr := (zXW g hq uq wq29)) (wc := (zXW g h0 u wo28)) (As := []) (rest := []) (zQi_q _) ⟨hx, hb, hml, hown, hts⟩ (kO_stuck l g h0 u wo28 e31) (cwV 0 hts gL_alike_X3_stuck rfl rfl rfl hdV_X3_stuck ⟨Nat.le_of_ble_eq_true rfl, Nat.le_of_ble_eq_true rfl⟩) hK hP (List.Perm.refl _) rfl rfl rfl hl.1 rfl (Nat.le_of_ble_eq_true rfl) ⟨by show _ ≤ 632; omega, by show _ ≤ 3792; omega⟩ dL_alike_28 ?_
    refine lv_aload_n hx hb dL_alike_31 rfl (lv_at hl 1 rfl) ?_
    obtain ⟨r32, e32, h⟩ := zb h
    refine zLVq (w := (zXW g hq uq wq29 ++ zXW g h0 u wo28)) (wr := (zXW g h0 u wo28)) (wc := (zXW g hq uq wq29)) (As := []) (rest := [.int r31]) (zQi_q _) ⟨hx, hb, hml, hown, hts⟩ (kO_stuck l g hq uq wq29 e32) (cwV 0 hts gL_alike_X3_stuck rfl rfl rfl hdV_X3_stuck ⟨Nat.le_of_ble_eq_true rfl, Nat.le_of_ble_eq_true rfl⟩) hK hP List.perm_append_comm rfl rfl rfl hl.1 rfl (Nat.le_of_ble_eq_true rfl) ⟨by show _ ≤ 632; omega, by show _ ≤ 3792; omega⟩ dL_alike_32 ?_
    refine lv_icmp_ne (tgt := 73) hx hb dL_alike_35 (by decide) (fun c33 => ?_) (fun c33 => ?_)
    · replace h := zf c33 h
      refine lv_iconst (v := 0) hx hb dL_alike_73 (by decide) ?_
      refine lv_istore_n (lv' := [(3, .int 0), (0, .ref h0), (1, .ref hq), (2, .int a2)]) hx hb dL_alike_74 rfl hl (by decide) rfl (fun ls hl => ?_)
      refine lv_iconst (v := 0) hx hb dL_alike_75 (by decide) ?_
      refine lv_istore (lv' := [(4, .int 0), (3, .int 0), (0, .ref h0), (1, .ref hq), (2, .int a2)]) hx hb dL_alike_76 hl (by decide) rfl (fun ls hl => ?_)
      exact loop_78 12 a2 0 0 wo28 wq29 _ _ h (by omega) (by omega) H locs hP hD hS ls (lv_sub hl [2, 3, 4, 1, 0] rfl)
    · replace h := zt c33 h
      refine lv_aload_n hx hb dL_alike_38 rfl (lv_at hl 0 rfl) ?_
      refine lv_bipush (v := 17) hx hb dL_alike_39 (by decide) ?_
      refine lv_iconst (v := 1) hx hb dL_alike_41 (by decide) ?_
      refine lv_iload_n hx hb dL_alike_42 rfl (lv_at hl 2 rfl) ?_
      refine lv_bipush (v := 9) hx hb dL_alike_43 (by decide) ?_
      refine lv_irem hx hb dL_alike_45 (by decide) ?_
      refine lv_iadd hx hb dL_alike_46 ?_
      refine lv_iconst (v := 0) hx hb dL_alike_47 (by decide) ?_
      refine lv_iconst (v := 0) hx hb dL_alike_48 (by decide) ?_
      obtain ⟨r34, wo34, e34, h⟩ := zb2 h
      refine zLSc (w := (zXW g hq uq wq29 ++ zXW g h0 u wo28)) (wr := (zXW g hq uq wq29)) (wc := (zXW g h0 u wo28)) (wq := (zXW g h0 u wo34)) (wp := (zXW g hq uq wq29 ++ zXW g h0 u wo34)) (As := [.ref h0, .int 17, .int (1 + (irem a2 9)), .int 0, .int 0]) (rest := []) (zWi_q g _ _) ⟨hx, hb, hml, hown, hts⟩ (kL_call l g h0 u wo28 17 (1 + (irem a2 9)) 0 0 htr e34) (va_cwS 5 hts gL_alike_L_call rfl rfl rfl hdS_L_call ⟨Nat.le_of_ble_eq_true rfl, Nat.le_of_ble_eq_true rfl⟩) hK hP hD hS hA hAm hN (zXW_fst g h0 u _ _) (List.Perm.refl _) (List.Perm.refl _) rfl hl.1 rfl (Nat.le_of_ble_eq_true rfl) ⟨by show _ ≤ 632; omega, by show _ ≤ 3792; omega⟩ dL_alike_49 (fun H locs hP hD hS => ?_)
      replace hP : zP g (zXW g hq uq wq29 ++ zXW g h0 u wo34) H := hP
      replace hD : va_D A (zXW g hq uq wq29 ++ zXW g h0 u wo34) := hD
      refine lv_aload_n hx hb dL_alike_52 rfl (lv_at hl 1 rfl) ?_
      refine lv_bipush (v := 17) hx hb dL_alike_53 (by decide) ?_
      refine lv_iconst (v := 1) hx hb dL_alike_55 (by decide) ?_
      refine lv_iload_n hx hb dL_alike_56 rfl (lv_at hl 2 rfl) ?_
      refine lv_bipush (v := 9) hx hb dL_alike_57 (by decide) ?_
      refine lv_irem hx hb dL_alike_59 (by decide) ?_
      refine lv_iadd hx hb dL_alike_60 ?_
      refine lv_iconst (v := 0) hx hb dL_alike_61 (by decide) ?_
      refine lv_iconst (v := 0) hx hb dL_alike_62 (by decide) ?_
      obtain ⟨r35, wq35, e35, h⟩ := zb2 h
      refine zLSc (w := (zXW g hq uq wq29 ++ zXW g h0 u wo34)) (wr := (zXW g h0 u wo34)) (wc := (zXW g hq uq wq29)) (wq := (zXW g hq uq wq35)) (wp := (zXW g hq uq wq35 ++ zXW g h0 u wo34)) (As := [.ref hq, .int 17, .int (1 + (irem a2 9)), .int 0, .int 0]) (rest := [.int r34]) (zWi_q g _ _) ⟨hx, hb, hml, hown, hts⟩ (kL_call l g hq uq wq29 17 (1 + (irem a2 9)) 0 0 htr e35) (va_cwS 5 hts gL_alike_L_call rfl rfl rfl hdS_L_call ⟨Nat.le_of_ble_eq_true rfl, Nat.le_of_ble_eq_true rfl⟩) hK hP hD hS hA hAm hN (zXW_fst g hq uq _ _) List.perm_append_comm List.perm_append_comm rfl hl.1 rfl (Nat.le_of_ble_eq_true rfl) ⟨by show _ ≤ 632; omega, by show _ ≤ 3792; omega⟩ dL_alike_63 (fun H locs hP hD hS => ?_)
      replace hP : zP g (zXW g hq uq wq35 ++ zXW g h0 u wo34) H := hP
      replace hD : va_D A (zXW g hq uq wq35 ++ zXW g h0 u wo34) := hD
      refine lv_icmp_ne (tgt := 73) hx hb dL_alike_66 (by decide) (fun c36 => ?_) (fun c36 => ?_)
      · replace h := zf c36 h
        refine lv_iconst (v := 0) hx hb dL_alike_73 (by decide) ?_
        refine lv_istore_n (lv' := [(3, .int 0), (0, .ref h0), (1, .ref hq), (2, .int a2)]) hx hb dL_alike_74 rfl hl (by decide) rfl (fun ls hl => ?_)
        refine lv_iconst (v := 0) hx hb dL_alike_75 (by decide) ?_
        refine lv_istore (lv' := [(4, .int 0), (3, .int 0), (0, .ref h0), (1, .ref hq), (2, .int a2)]) hx hb dL_alike_76 hl (by decide) rfl (fun ls hl => ?_)
        exact loop_78 12 a2 0 0 wo34 wq35 _ _ h (by omega) (by omega) H locs hP hD hS ls (lv_sub hl [2, 3, 4, 1, 0] rfl)
      · replace h := zt c36 h
        refine lv_iconst (v := 1) hx hb dL_alike_69 (by decide) ?_
        refine lv_goto (tgt := 74) hx hb dL_alike_70 (by decide) ?_
        refine lv_istore_n (lv' := [(3, .int 1), (0, .ref h0), (1, .ref hq), (2, .int a2)]) hx hb dL_alike_74 rfl hl (by decide) rfl (fun ls hl => ?_)
        refine lv_iconst (v := 0) hx hb dL_alike_75 (by decide) ?_
        refine lv_istore (lv' := [(4, .int 0), (3, .int 1), (0, .ref h0), (1, .ref hq), (2, .int a2)]) hx hb dL_alike_76 hl (by decide) rfl (fun ls hl => ?_)
        exact loop_78 12 a2 1 0 wo34 wq35 _ _ h (by omega) (by omega) H locs hP hD hS ls (lv_sub hl [2, 3, 4, 1, 0] rfl)
