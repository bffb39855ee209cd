theorem dJ9_min_7cf53_0 : decode cJ9_min_7cf53 0 = .ok (.iload_n 0, 1) := by decide +kernel
theorem dJ9_min_7cf53_1 : decode cJ9_min_7cf53 1 = .ok (.iload_n 1, 1) := by decide +kernel
theorem dJ9_min_7cf53_2 : decode cJ9_min_7cf53 2 = .ok (.if_icmp .gt 7, 3) := by decide +kernel
theorem dJ9_min_7cf53_5 : decode cJ9_min_7cf53 5 = .ok (.iload_n 0, 1) := by decide +kernel
theorem dJ9_min_7cf53_6 : decode cJ9_min_7cf53 6 = .ok (.goto 4, 3) := by decide +kernel
theorem dJ9_min_7cf53_9 : decode cJ9_min_7cf53 9 = .ok (.iload_n 1, 1) := by decide +kernel
theorem dJ9_min_7cf53_10 : decode cJ9_min_7cf53 10 = .ok (.ireturn, 1) := by decide +kernel
theorem dJ7_fill_53178_0 : decode cJ7_fill_53178 0 = .ok (.iconst 0, 1) := by decide +kernel
theorem dJ7_fill_53178_1 : decode cJ7_fill_53178 1 = .ok (.istore_n 2, 1) := by decide +kernel
theorem dJ7_fill_53178_2 : decode cJ7_fill_53178 2 = .ok (.aload_n 0, 1) := by decide +kernel
theorem dJ7_fill_53178_3 : decode cJ7_fill_53178 3 = .ok (.arraylength, 1) := by decide +kernel
theorem dJ7_fill_53178_4 : decode cJ7_fill_53178 4 = .ok (.istore_n 3, 1) := by decide +kernel
theorem dJ7_fill_53178_5 : decode cJ7_fill_53178 5 = .ok (.iload_n 2, 1) := by decide +kernel
theorem dJ7_fill_53178_6 : decode cJ7_fill_53178 6 = .ok (.iload_n 3, 1) := by decide +kernel
theorem dJ7_fill_53178_7 : decode cJ7_fill_53178 7 = .ok (.if_icmp .ge 13, 3) := by decide +kernel
theorem dJ7_fill_53178_10 : decode cJ7_fill_53178 10 = .ok (.aload_n 0, 1) := by decide +kernel
theorem dJ7_fill_53178_11 : decode cJ7_fill_53178 11 = .ok (.iload_n 2, 1) := by decide +kernel
theorem dJ7_fill_53178_12 : decode cJ7_fill_53178 12 = .ok (.iload_n 1, 1) := by decide +kernel
theorem dJ7_fill_53178_13 : decode cJ7_fill_53178 13 = .ok (.iastore, 1) := by decide +kernel
theorem dJ7_fill_53178_14 : decode cJ7_fill_53178 14 = .ok (.iinc 2 1, 3) := by decide +kernel
theorem dJ7_fill_53178_17 : decode cJ7_fill_53178 17 = .ok (.goto (-12), 3) := by decide +kernel
theorem dJ7_fill_53178_20 : decode cJ7_fill_53178 20 = .ok (.return_, 1) := by decide +kernel
abbrev zF1 (g : zG) (na : Nat) (qr : Nat) (ro : Nat → Int32) : va_W := [(qr, .inl (g.2.1, na, .inl ro))]
abbrev zDD (g : zG) (h0 h1 h2 h3 h4 k0 k1 k2 k3 k4 : Nat) (b : Nat → Int32) (pF : Nat → Int32) (pL : Nat → Int32) (st : Nat → Int32) (tm : Int32) (qt : Int32) (cm : Int32) (ds : Int32) (dr : Int32) (bo : Nat → Int32) (pFo : Nat → Int32) (pLo : Nat → Int32) (sto : Nat → Int32) (tmo : Int32) (qto : Int32) (cmo : Int32) (dso : Int32) (dro : Int32) : va_W := [(h0, .inr (0, [.ref h1, .ref h2, .ref h3, .ref h4, .int tm, .int qt, .int cm, .int ds, .int dr])), (h1, .inl (g.2.1, 256, .inl b)), (h2, .inl (g.2.1, 3, .inl pF)), (h3, .inl (g.2.1, 3, .inl pL)), (h4, .inl (g.2.1, 6, .inl st)), (k0, .inr (0, [.ref k1, .ref k2, .ref k3, .ref k4, .int tmo, .int qto, .int cmo, .int dso, .int dro])), (k1, .inl (g.2.1, 256, .inl bo)), (k2, .inl (g.2.1, 3, .inl pFo)), (k3, .inl (g.2.1, 3, .inl pLo)), (k4, .inl (g.2.1, 6, .inl sto))]
def fJ7_fill_53178_5 (na : Nat) : Nat → Int32 → Int32 → Int32 → (Nat → Int32) → Option ((Nat → Int32))
  | 0, _, _, _, _ => none
  | n + 1, v1, v2, v3, ro =>
    if v3 ≤ v2 then
        some ro
      else
        if v2 < 0 ∨ na ≤ v2.toNatClampNeg then none else
        fJ7_fill_53178_5 na n v1 (v2 + 1) v3 (upd ro v2.toNatClampNeg v1)
def fJ7_fill_53178 (na : Nat) (ro : Nat → Int32) (a1 : Int32) : Option ((Nat → Int32)) :=
  fJ7_fill_53178_5 na 1000 a1 0 (Int32.ofNat na) ro
set_option maxRecDepth 100000 in
set_option maxHeartbeats 4000000 in
theorem kJ7_fill_53178 (l : Launch) (g : zG) (na : Nat) (qr : Nat) (ro : Nat → Int32) (a1 : Int32) {ro' : Nat → Int32} (h : fJ7_fill_53178 na ro a1 = some ro') : Mw l g yJ7_fill_53178 wsJ7_fill_53178 { frames := 0, cells := 0, slots := 0, locals := 0 } [.ref qr, .int a1] (zF1 g na qr ro) (zWv g (zF1 g na qr ro')) := by
  refine zw_in (cc := cJ7_fill_53178) (maxL := 4) (ret := none) (by decide) rfl (Nat.le_of_ble_eq_true rfl) ?_
  intro p e s m below meth c hx hb hr hml hts hown hlocks hK A hA hP hD hS ls hl
  replace hl : lv_has ls 4 [(0, .ref qr), (1, .int a1)] := hl
  have loop_5 : ∀ (n : Nat) (v1 : Int32) (v2 : Int32) (v3 : Int32) (ro : (Nat → Int32)), fJ7_fill_53178_5 na n v1 v2 v3 ro = some ro' → ∀ (H : Heap) (locs : List Loc), zP g (zF1 g na qr ro) H → va_D A (zF1 g na qr ro) → va_S A s.heap H locs → ∀ (ls : Array Slot), lv_has ls 4 [(0, .ref qr), (1, .int v1), (2, .int v2), (3, .int v3)] → W p l e ({ frames := 0, cells := 0, slots := 0, locals := 0 } : Room) s m [.ref qr, .int a1].toArray below meth c H locs 0 0 (MQ below (zWv g (zF1 g na qr ro') A) [.ref qr, .int a1].toArray s 0 0 A) (F0 m 5 ls []) := by
    intro n
    induction n with
    | zero => intro v1 v2 v3 ro h H locs hP hD hS ls hl; exact zn h
    | succ n ih =>
      intro v1 v2 v3 ro h H locs hP hD hS ls hl
      rw [fJ7_fill_53178_5] at h
      refine lv_iload_n hx hb dJ7_fill_53178_5 rfl (lv_at hl 2 rfl) ?_
      refine lv_iload_n hx hb dJ7_fill_53178_6 rfl (lv_at hl 3 rfl) ?_
      refine lv_icmp_ge (tgt := 20) hx hb dJ7_fill_53178_7 (by decide) (fun c1 => ?_) (fun c1 => ?_)
      · replace h := zt c1 h
        cases h
        exact zw_v hx hb hr hlocks hP hS dJ7_fill_53178_20
      · replace h := zf c1 h
        refine lv_aload_n hx hb dJ7_fill_53178_10 rfl (lv_at hl 0 rfl) ?_
        refine lv_iload_n hx hb dJ7_fill_53178_11 rfl (lv_at hl 2 rfl) ?_
        refine lv_iload_n hx hb dJ7_fill_53178_12 rfl (lv_at hl 1 rfl) ?_
        obtain ⟨i2, h⟩ := zi h
        refine za_ist hx hb hK hP hD hS 0 rfl _ rfl i2 dJ7_fill_53178_13 (fun H locs hP hD hS => ?_)
        replace hP : zP g (zF1 g na qr (upd ro v2.toNatClampNeg v1)) H := hP
        replace hD : va_D A (zF1 g na qr (upd ro v2.toNatClampNeg v1)) := hD
        refine lv_iinc (v := (v2 + 1)) (lv' := [(2, .int (v2 + 1)), (0, .ref qr), (1, .int v1), (3, .int v3)]) hx hb dJ7_fill_53178_14 hl (k := 2) rfl rfl (by decide) rfl (fun ls hl => ?_)
        refine lv_goto (tgt := 5) hx hb dJ7_fill_53178_17 (by decide) ?_
        exact ih v1 (v2 + 1) v3 (upd ro v2.toNatClampNeg v1) h H locs hP hD hS ls (lv_sub hl [1, 2, 0, 3] rfl)
  unfold fJ7_fill_53178 at h
  refine lv_iconst (v := 0) hx hb dJ7_fill_53178_0 (by decide) ?_
  refine lv_istore_n (lv' := [(2, .int 0), (0, .ref qr), (1, .int a1)]) hx hb dJ7_fill_53178_1 rfl hl (by decide) rfl (fun ls hl => ?_)
  refine lv_aload_n hx hb dJ7_fill_53178_2 rfl (lv_at hl 1 rfl) ?_
  refine za_alen hx hb hK hP 0 rfl dJ7_fill_53178_3 ?_
  refine lv_istore_n (lv' := [(3, .int (Int32.ofNat na)), (2, .int 0), (0, .ref qr), (1, .int a1)]) hx hb dJ7_fill_53178_4 rfl hl (by decide) rfl (fun ls hl => ?_)
  exact loop_5 1000 a1 0 (Int32.ofNat na) ro h s.heap [] hP hD hS ls (lv_sub hl [2, 3, 1, 0] rfl)
def fX0_copyFrom (b : Nat → Int32) (pF : Nat → Int32) (pL : Nat → Int32) (st : Nat → Int32) (bo : Nat → Int32) (pFo : Nat → Int32) (pLo : Nat → Int32) (sto : Nat → Int32) (tmo : Int32) (qto : Int32) (cmo : Int32) (dso : Int32) (dro : Int32) : Option ((Nat → Int32) × (Nat → Int32) × (Nat → Int32) × (Nat → Int32) × (Int32) × (Int32) × (Int32) × (Int32) × (Int32)) :=
  some ((va_cpy bo b 0 0 256), (va_cpy pFo pF 0 0 3), (va_cpy pLo pL 0 0 3), (va_cpy sto st 0 0 6), tmo, qto, cmo, dso, dro)
theorem mX0_copyFrom_9 : Cond.fieldLink RX0 9 "IdleDiscards$Device" "blocks" "[I" ∈ wsX0_copyFrom := by decide +kernel
theorem uX0_copyFrom_X0 : ∀ w ∈ wsX00, w ∈ wsX0_copyFrom := by decide +kernel
theorem mX0_copyFrom_36 : Cond.methodLink RX0 36 arraycopyName ∈ wsX0_copyFrom := by decide +kernel
theorem mX0_copyFrom_acn : Cond.native arraycopyName ∈ wsX0_copyFrom := by decide +kernel
theorem mX0_copyFrom_acs : Cond.static arraycopyName ∈ wsX0_copyFrom := by decide +kernel
theorem mX0_copyFrom_aci : Cond.initialized "java/lang/System" ∈ wsX0_copyFrom := by decide +kernel
theorem mX0_copyFrom_15 : Cond.fieldLink RX0 15 "IdleDiscards$Device" "pinFirst" "[I" ∈ wsX0_copyFrom := by decide +kernel
theorem mX0_copyFrom_18 : Cond.fieldLink RX0 18 "IdleDiscards$Device" "pinLength" "[I" ∈ wsX0_copyFrom := by decide +kernel
theorem mX0_copyFrom_21 : Cond.fieldLink RX0 21 "IdleDiscards$Device" "settings" "[I" ∈ wsX0_copyFrom := by decide +kernel
theorem mX0_copyFrom_42 : Cond.fieldLink RX0 42 "IdleDiscards$Device" "time" "I" ∈ wsX0_copyFrom := by decide +kernel
theorem mX0_copyFrom_46 : Cond.fieldLink RX0 46 "IdleDiscards$Device" "quiet" "I" ∈ wsX0_copyFrom := by decide +kernel
theorem mX0_copyFrom_49 : Cond.fieldLink RX0 49 "IdleDiscards$Device" "commands" "I" ∈ wsX0_copyFrom := by decide +kernel
theorem mX0_copyFrom_52 : Cond.fieldLink RX0 52 "IdleDiscards$Device" "discarded" "I" ∈ wsX0_copyFrom := by decide +kernel
theorem mX0_copyFrom_55 : Cond.fieldLink RX0 55 "IdleDiscards$Device" "dropped" "I" ∈ wsX0_copyFrom := by decide +kernel
set_option maxRecDepth 100000 in
set_option maxHeartbeats 4000000 in
theorem kX0_copyFrom (l : Launch) (g : zG) (h0 h1 h2 h3 h4 k0 k1 k2 k3 k4 : Nat) (b : Nat → Int32) (pF : Nat → Int32) (pL : Nat → Int32) (st : Nat → Int32) (tm : Int32) (qt : Int32) (cm : Int32) (ds : Int32) (dr : Int32) (bo : Nat → Int32) (pFo : Nat → Int32) (pLo : Nat → Int32) (sto : Nat → Int32) (tmo : Int32) (qto : Int32) (cmo : Int32) (dso : Int32) (dro : Int32) {b' : Nat → Int32} {pF' : Nat → Int32} {pL' : Nat → Int32} {st' : Nat → Int32} {tm' : Int32} {qt' : Int32} {cm' : Int32} {ds' : Int32} {dr' : Int32} (h : fX0_copyFrom b pF pL st bo pFo pLo sto tmo qto cmo dso dro = some (b', pF', pL', st', tm', qt', cm', ds', dr')) : Mw l g yX0_copyFrom wsX0_copyFrom { frames := 1, cells := 0, slots := 0, locals := 40 } [.ref h0, .ref k0] (zDD g h0 h1 h2 h3 h4 k0 k1 k2 k3 k4 b pF pL st tm qt cm ds dr bo pFo pLo sto tmo qto cmo dso dro) (zWv g (zDD g h0 h1 h2 h3 h4 k0 k1 k2 k3 k4 b' pF' pL' st' tm' qt' cm' ds' dr' bo pFo pLo sto tmo qto cmo dso dro)) := by
  refine zw_in (cc := cX0_copyFrom) (maxL := 2) (ret := none) (by decide) rfl (Nat.le_of_ble_eq_true rfl) ?_
  intro p e s m below meth c hx hb hr hml hts hown hlocks hK A hA hP hD hS ls hl
  replace hl : lv_has ls 2 [(0, .ref h0), (1, .ref k0)] := hl
  unfold fX0_copyFrom at h
  refine lv_aload_n hx hb dX0_copyFrom_0 rfl (lv_at hl 1 rfl) ?_
  refine va_get (ci := 0) (v := .ref k1) (C := RX0) (T := TX0) (N := 9) hx hb hts uX0_copyFrom_X0 hown hK hP 5 rfl rfl 0 (by decide) (hts _ mX0_copyFrom_9) (fun _ h9 => h9) rfl dX0_copyFrom_1 ?_
  refine lv_iconst (v := 0) hx hb dX0_copyFrom_4 (by decide) ?_
  refine lv_aload_n hx hb dX0_copyFrom_5 rfl (lv_at hl 0 rfl) ?_
  refine va_get (ci := 0) (v := .ref h1) (C := RX0) (T := TX0) (N := 9) hx hb hts uX0_copyFrom_X0 hown hK hP 0 rfl rfl 0 (by decide) (hts _ mX0_copyFrom_9) (fun _ h9 => h9) rfl dX0_copyFrom_6 ?_
  refine lv_iconst (v := 0) hx hb dX0_copyFrom_9 (by decide) ?_
  refine lv_sipush (v := 256) hx hb dX0_copyFrom_10 (by decide) ?_
  refine za_cpy hx hb (hml.trans hl.1.symm) hown (hts _ mX0_copyFrom_36) (hts _ mX0_copyFrom_acn) (hts _ mX0_copyFrom_acs) (hts _ mX0_copyFrom_aci) hK hP hD hS 6 1 rfl rfl (by decide) (by decide) (by decide) 0 0 256 (by decide) (by decide) (by decide) (by decide) (by decide) (Nat.le_of_ble_eq_true rfl) (Nat.le_of_ble_eq_true rfl) dX0_copyFrom_13 (fun H locs hP hD hS => ?_)
  replace hP : zP g (zDD g h0 h1 h2 h3 h4 k0 k1 k2 k3 k4 (va_cpy bo b 0 0 256) pF pL st tm qt cm ds dr bo pFo pLo sto tmo qto cmo dso dro) H := hP
  replace hD : va_D A (zDD g h0 h1 h2 h3 h4 k0 k1 k2 k3 k4 (va_cpy bo b 0 0 256) pF pL st tm qt cm ds dr bo pFo pLo sto tmo qto cmo dso dro) := hD
  refine lv_aload_n hx hb dX0_copyFrom_16 rfl (lv_at hl 1 rfl) ?_
  refine va_get (ci := 0) (v := .ref k2) (C := RX0) (T := TX0) (N := 9) hx hb hts uX0_copyFrom_X0 hown hK hP 5 rfl rfl 1 (by decide) (hts _ mX0_copyFrom_15) (fun _ h9 => h9) rfl dX0_copyFrom_17 ?_
  refine lv_iconst (v := 0) hx hb dX0_copyFrom_20 (by decide) ?_
  refine lv_aload_n hx hb dX0_copyFrom_21 rfl (lv_at hl 0 rfl) ?_
  refine va_get (ci := 0) (v := .ref h2) (C := RX0) (T := TX0) (N := 9) hx hb hts uX0_copyFrom_X0 hown hK hP 0 rfl rfl 1 (by decide) (hts _ mX0_copyFrom_15) (fun _ h9 => h9) rfl dX0_copyFrom_22 ?_
  refine lv_iconst (v := 0) hx hb dX0_copyFrom_25 (by decide) ?_
  refine lv_iconst (v := 3) hx hb dX0_copyFrom_26 (by decide) ?_
  refine za_cpy hx hb (hml.trans hl.1.symm) hown (hts _ mX0_copyFrom_36) (hts _ mX0_copyFrom_acn) (hts _ mX0_copyFrom_acs) (hts _ mX0_copyFrom_aci) hK hP hD hS 7 2 rfl rfl (by decide) (by decide) (by decide) 0 0 3 (by decide) (by decide) (by decide) (by decide) (by decide) (Nat.le_of_ble_eq_true rfl) (Nat.le_of_ble_eq_true rfl) dX0_copyFrom_27 (fun H locs hP hD hS => ?_)
  replace hP : zP g (zDD g h0 h1 h2 h3 h4 k0 k1 k2 k3 k4 (va_cpy bo b 0 0 256) (va_cpy pFo pF 0 0 3) pL st tm qt cm ds dr bo pFo pLo sto tmo qto cmo dso dro) H := hP
  replace hD : va_D A (zDD g h0 h1 h2 h3 h4 k0 k1 k2 k3 k4 (va_cpy bo b 0 0 256) (va_cpy pFo pF 0 0 3) pL st tm qt cm ds dr bo pFo pLo sto tmo qto cmo dso dro) := hD
  refine lv_aload_n hx hb dX0_copyFrom_30 rfl (lv_at hl 1 rfl) ?_
  refine va_get (ci := 0) (v := .ref k3) (C := RX0) (T := TX0) (N := 9) hx hb hts uX0_copyFrom_X0 hown hK hP 5 rfl rfl 2 (by decide) (hts _ mX0_copyFrom_18) (fun _ h9 => h9) rfl dX0_copyFrom_31 ?_
  refine lv_iconst (v := 0) hx hb dX0_copyFrom_34 (by decide) ?_
  refine lv_aload_n hx hb dX0_copyFrom_35 rfl (lv_at hl 0 rfl) ?_
  refine va_get (ci := 0) (v := .ref h3) (C := RX0) (T := TX0) (N := 9) hx hb hts uX0_copyFrom_X0 hown hK hP 0 rfl rfl 2 (by decide) (hts _ mX0_copyFrom_18) (fun _ h9 => h9) rfl dX0_copyFrom_36 ?_
  refine lv_iconst (v := 0) hx hb dX0_copyFrom_39 (by decide) ?_
  refine lv_iconst (v := 3) hx hb dX0_copyFrom_40 (by decide) ?_
  refine za_cpy hx hb (hml.trans hl.1.symm) hown (hts _ mX0_copyFrom_36) (hts _ mX0_copyFrom_acn) (hts _ mX0_copyFrom_acs) (hts _ mX0_copyFrom_aci) hK hP hD hS 8 3 rfl rfl (by decide) (by decide) (by decide) 0 0 3 (by decide) (by decide) (by decide) (by decide) (by decide) (Nat.le_of_ble_eq_true rfl) (Nat.le_of_ble_eq_true rfl) dX0_copyFrom_41 (fun H locs hP hD hS => ?_)
  replace hP : zP g (zDD g h0 h1 h2 h3 h4 k0 k1 k2 k3 k4 (va_cpy bo b 0 0 256) (va_cpy pFo pF 0 0 3) (va_cpy pLo pL 0 0 3) st tm qt cm ds dr bo pFo pLo sto tmo qto cmo dso dro) H := hP
  replace hD : va_D A (zDD g h0 h1 h2 h3 h4 k0 k1 k2 k3 k4 (va_cpy bo b 0 0 256) (va_cpy pFo pF 0 0 3) (va_cpy pLo pL 0 0 3) st tm qt cm ds dr bo pFo pLo sto tmo qto cmo dso dro) := hD
  refine lv_aload_n hx hb dX0_copyFrom_44 rfl (lv_at hl 1 rfl) ?_
  refine va_get (ci := 0) (v := .ref k4) (C := RX0) (T := TX0) (N := 9) hx hb hts uX0_copyFrom_X0 hown hK hP 5 rfl rfl 3 (by decide) (hts _ mX0_copyFrom_21) (fun _ h9 => h9) rfl dX0_copyFrom_45 ?_
  refine lv_iconst (v := 0) hx hb dX0_copyFrom_48 (by decide) ?_
  refine lv_aload_n hx hb dX0_copyFrom_49 rfl (lv_at hl 0 rfl) ?_
  refine va_get (ci := 0) (v := .ref h4) (C := RX0) (T := TX0) (N := 9) hx hb hts uX0_copyFrom_X0 hown hK hP 0 rfl rfl 3 (by decide) (hts _ mX0_copyFrom_21) (fun _ h9 => h9) rfl dX0_copyFrom_50 ?_
  refine lv_iconst (v := 0) hx hb dX0_copyFrom_53 (by decide) ?_
  refine lv_bipush (v := 6) hx hb dX0_copyFrom_54 (by decide) ?_
  refine za_cpy hx hb (hml.trans hl.1.symm) hown (hts _ mX0_copyFrom_36) (hts _ mX0_copyFrom_acn) (hts _ mX0_copyFrom_acs) (hts _ mX0_copyFrom_aci) hK hP hD hS 9 4 rfl rfl (by decide) (by decide) (by decide) 0 0 6 (by decide) (by decide) (by decide) (by decide) (by decide) (Nat.le_of_ble_eq_true rfl) (Nat.le_of_ble_eq_true rfl) dX0_copyFrom_56 (fun H locs hP hD hS => ?_)
  replace hP : zP g (zDD g h0 h1 h2 h3 h4 k0 k1 k2 k3 k4 (va_cpy bo b 0 0 256) (va_cpy pFo pF 0 0 3) (va_cpy pLo pL 0 0 3) (va_cpy sto st 0 0 6) tm qt cm ds dr bo pFo pLo sto tmo qto cmo dso dro) H := hP
  replace hD : va_D A (zDD g h0 h1 h2 h3 h4 k0 k1 k2 k3 k4 (va_cpy bo b 0 0 256) (va_cpy pFo pF 0 0 3) (va_cpy pLo pL 0 0 3) (va_cpy sto st 0 0 6) tm qt cm ds dr bo pFo pLo sto tmo qto cmo dso dro) := hD
  refine lv_aload_n hx hb dX0_copyFrom_59 rfl (lv_at hl 0 rfl) ?_
  refine lv_aload_n hx hb dX0_copyFrom_60 rfl (lv_at hl 1 rfl) ?_
  refine va_get (ci := 0) (v := .int tmo) (C := RX0) (T := TX0) (N := 9) hx hb hts uX0_copyFrom_X0 hown hK hP 5 rfl rfl 4 (by decide) (hts _ mX0_copyFrom_42) (fun _ h9 => h9) rfl dX0_copyFrom_61 ?_
  refine va_put (ci := 0) (v := .int tmo) (ty := .int) (C := RX0) (T := TX0) (N := 9) hx hb hts uX0_copyFrom_X0 tyX0 tyX0_ok nmX0 hown hK hP hD hS 0 rfl rfl 4 (by decide) (hts _ mX0_copyFrom_42) (fun _ h9 => h9) rfl (by decide +kernel) rfl rfl (Nat.le_of_ble_eq_true rfl) dX0_copyFrom_64 (fun H locs hP hD hS => ?_)
  replace hP : zP g (zDD g h0 h1 h2 h3 h4 k0 k1 k2 k3 k4 (va_cpy bo b 0 0 256) (va_cpy pFo pF 0 0 3) (va_cpy pLo pL 0 0 3) (va_cpy sto st 0 0 6) tmo qt cm ds dr bo pFo pLo sto tmo qto cmo dso dro) H := hP
  replace hD : va_D A (zDD g h0 h1 h2 h3 h4 k0 k1 k2 k3 k4 (va_cpy bo b 0 0 256) (va_cpy pFo pF 0 0 3) (va_cpy pLo pL 0 0 3) (va_cpy sto st 0 0 6) tmo qt cm ds dr bo pFo pLo sto tmo qto cmo dso dro) := hD
  refine lv_aload_n hx hb dX0_copyFrom_67 rfl (lv_at hl 0 rfl) ?_
  refine lv_aload_n hx hb dX0_copyFrom_68 rfl (lv_at hl 1 rfl) ?_
  refine va_get (ci := 0) (v := .int qto) (C := RX0) (T := TX0) (N := 9) hx hb hts uX0_copyFrom_X0 hown hK hP 5 rfl rfl 5 (by decide) (hts _ mX0_copyFrom_46) (fun _ h9 => h9) rfl dX0_copyFrom_69 ?_
  refine va_put (ci := 0) (v := .int qto) (ty := .int) (C := RX0) (T := TX0) (N := 9) hx hb hts uX0_copyFrom_X0 tyX0 tyX0_ok nmX0 hown hK hP hD hS 0 rfl rfl 5 (by decide) (hts _ mX0_copyFrom_46) (fun _ h9 => h9) rfl (by decide +kernel) rfl rfl (Nat.le_of_ble_eq_true rfl) dX0_copyFrom_72 (fun H locs hP hD hS => ?_)
  replace hP : zP g (zDD g h0 h1 h2 h3 h4 k0 k1 k2 k3 k4 (va_cpy bo b 0 0 256) (va_cpy pFo pF 0 0 3) (va_cpy pLo pL 0 0 3) (va_cpy sto st 0 0 6) tmo qto cm ds dr bo pFo pLo sto tmo qto cmo dso dro) H := hP
  replace hD : va_D A (zDD g h0 h1 h2 h3 h4 k0 k1 k2 k3 k4 (va_cpy bo b 0 0 256) (va_cpy pFo pF 0 0 3) (va_cpy pLo pL 0 0 3) (va_cpy sto st 0 0 6) tmo qto cm ds dr bo pFo pLo sto tmo qto cmo dso dro) := hD
  refine lv_aload_n hx hb dX0_copyFrom_75 rfl (lv_at hl 0 rfl) ?_
  refine lv_aload_n hx hb dX0_copyFrom_76 rfl (lv_at hl 1 rfl) ?_
  refine va_get (ci := 0) (v := .int cmo) (C := RX0) (T := TX0) (N := 9) hx hb hts uX0_copyFrom_X0 hown hK hP 5 rfl rfl 6 (by decide) (hts _ mX0_copyFrom_49) (fun _ h9 => h9) rfl dX0_copyFrom_77 ?_
  refine va_put (ci := 0) (v := .int cmo) (ty := .int) (C := RX0) (T := TX0) (N := 9) hx hb hts uX0_copyFrom_X0 tyX0 tyX0_ok nmX0 hown hK hP hD hS 0 rfl rfl 6 (by decide) (hts _ mX0_copyFrom_49) (fun _ h9 => h9) rfl (by decide +kernel) rfl rfl (Nat.le_of_ble_eq_true rfl) dX0_copyFrom_80 (fun H locs hP hD hS => ?_)
  replace hP : zP g (zDD g h0 h1 h2 h3 h4 k0 k1 k2 k3 k4 (va_cpy bo b 0 0 256) (va_cpy pFo pF 0 0 3) (va_cpy pLo pL 0 0 3) (va_cpy sto st 0 0 6) tmo qto cmo ds dr bo pFo pLo sto tmo qto cmo dso dro) H := hP
  replace hD : va_D A (zDD g h0 h1 h2 h3 h4 k0 k1 k2 k3 k4 (va_cpy bo b 0 0 256) (va_cpy pFo pF 0 0 3) (va_cpy pLo pL 0 0 3) (va_cpy sto st 0 0 6) tmo qto cmo ds dr bo pFo pLo sto tmo qto cmo dso dro) := hD
  refine lv_aload_n hx hb dX0_copyFrom_83 rfl (lv_at hl 0 rfl) ?_
  refine lv_aload_n hx hb dX0_copyFrom_84 rfl (lv_at hl 1 rfl) ?_
  refine va_get (ci := 0) (v := .int dso) (C := RX0) (T := TX0) (N := 9) hx hb hts uX0_copyFrom_X0 hown hK hP 5 rfl rfl 7 (by decide) (hts _ mX0_copyFrom_52) (fun _ h9 => h9) rfl dX0_copyFrom_85 ?_
  refine va_put (ci := 0) (v := .int dso) (ty := .int) (C := RX0) (T := TX0) (N := 9) hx hb hts uX0_copyFrom_X0 tyX0 tyX0_ok nmX0 hown hK hP hD hS 0 rfl rfl 7 (by decide) (hts _ mX0_copyFrom_52) (fun _ h9 => h9) rfl (by decide +kernel) rfl rfl (Nat.le_of_ble_eq_true rfl) dX0_copyFrom_88 (fun H locs hP hD hS => ?_)
  replace hP : zP g (zDD g h0 h1 h2 h3 h4 k0 k1 k2 k3 k4 (va_cpy bo b 0 0 256) (va_cpy pFo pF 0 0 3) (va_cpy pLo pL 0 0 3) (va_cpy sto st 0 0 6) tmo qto cmo dso dr bo pFo pLo sto tmo qto cmo dso dro) H := hP
  replace hD : va_D A (zDD g h0 h1 h2 h3 h4 k0 k1 k2 k3 k4 (va_cpy bo b 0 0 256) (va_cpy pFo pF 0 0 3) (va_cpy pLo pL 0 0 3) (va_cpy sto st 0 0 6) tmo qto cmo dso dr bo pFo pLo sto tmo qto cmo dso dro) := hD
  refine lv_aload_n hx hb dX0_copyFrom_91 rfl (lv_at hl 0 rfl) ?_
  refine lv_aload_n hx hb dX0_copyFrom_92 rfl (lv_at hl 1 rfl) ?_
  refine va_get (ci := 0) (v := .int dro) (C := RX0) (T := TX0) (N := 9) hx hb hts uX0_copyFrom_X0 hown hK hP 5 rfl rfl 8 (by decide) (hts _ mX0_copyFrom_55) (fun _ h9 => h9) rfl dX0_copyFrom_93 ?_
  refine va_put (ci := 0) (v := .int dro) (ty := .int) (C := RX0) (T := TX0) (N := 9) hx hb hts uX0_copyFrom_X0 tyX0 tyX0_ok nmX0 hown hK hP hD hS 0 rfl rfl 8 (by decide) (hts _ mX0_copyFrom_55) (fun _ h9 => h9) rfl (by decide +kernel) rfl rfl (Nat.le_of_ble_eq_true rfl) dX0_copyFrom_96 (fun H locs hP hD hS => ?_)
  replace hP : zP g (zDD g h0 h1 h2 h3 h4 k0 k1 k2 k3 k4 (va_cpy bo b 0 0 256) (va_cpy pFo pF 0 0 3) (va_cpy pLo pL 0 0 3) (va_cpy sto st 0 0 6) tmo qto cmo dso dro bo pFo pLo sto tmo qto cmo dso dro) H := hP
  replace hD : va_D A (zDD g h0 h1 h2 h3 h4 k0 k1 k2 k3 k4 (va_cpy bo b 0 0 256) (va_cpy pFo pF 0 0 3) (va_cpy pLo pL 0 0 3) (va_cpy sto st 0 0 6) tmo qto cmo dso dro bo pFo pLo sto tmo qto cmo dso dro) := hD
  cases h
  exact zw_v hx hb hr hlocks hP hS dX0_copyFrom_99
theorem hdS_J7_fill_53178 : yJ7_fill_53178.cls ≠ "java/lang/invoke/MethodHandle" ∧ yJ7_fill_53178.cls ≠ "java/lang/invoke/VarHandle" ∧ (parseMethodDescriptor yJ7_fill_53178.desc).map (fun d => d.parameters.length) = some 2 := by decide +kernel
def fX0_makeNew (b : Nat → Int32) (pF : Nat → Int32) (pL : Nat → Int32) (st : Nat → Int32) : Option ((Nat → Int32) × (Nat → Int32) × (Nat → Int32) × (Nat → Int32) × (Int32) × (Int32) × (Int32) × (Int32) × (Int32)) :=
  ob (fJ7_fill_53178 256 b (-1)) fun b1 =>
  ob (fJ7_fill_53178 3 pF 0) fun pF2 =>
  ob (fJ7_fill_53178 3 pL 0) fun pL3 =>
  some (b1, pF2, pL3, (va_cpy zFs st 0 0 6), 0, 0, 0, 0, 0)
theorem mX0_makeNew_9 : Cond.fieldLink RX0 9 "IdleDiscards$Device" "blocks" "[I" ∈ wsX0_makeNew := by decide +kernel
theorem uX0_makeNew_X0 : ∀ w ∈ wsX00, w ∈ wsX0_makeNew := by decide +kernel
theorem mX0_makeNew_15 : Cond.fieldLink RX0 15 "IdleDiscards$Device" "pinFirst" "[I" ∈ wsX0_makeNew := by decide +kernel
theorem mX0_makeNew_18 : Cond.fieldLink RX0 18 "IdleDiscards$Device" "pinLength" "[I" ∈ wsX0_makeNew := by decide +kernel
theorem mX0_makeNew_21 : Cond.fieldLink RX0 21 "IdleDiscards$Device" "settings" "[I" ∈ wsX0_makeNew := by decide +kernel
theorem mX0_makeNew_36 : Cond.methodLink RX0 36 arraycopyName ∈ wsX0_makeNew := by decide +kernel
theorem mX0_makeNew_acn : Cond.native arraycopyName ∈ wsX0_makeNew := by decide +kernel
theorem mX0_makeNew_acs : Cond.static arraycopyName ∈ wsX0_makeNew := by decide +kernel
theorem mX0_makeNew_aci : Cond.initialized "java/lang/System" ∈ wsX0_makeNew := by decide +kernel
theorem mX0_makeNew_42 : Cond.fieldLink RX0 42 "IdleDiscards$Device" "time" "I" ∈ wsX0_makeNew := by decide +kernel
theorem mX0_makeNew_46 : Cond.fieldLink RX0 46 "IdleDiscards$Device" "quiet" "I" ∈ wsX0_makeNew := by decide +kernel
theorem mX0_makeNew_49 : Cond.fieldLink RX0 49 "IdleDiscards$Device" "commands" "I" ∈ wsX0_makeNew := by decide +kernel
theorem mX0_makeNew_52 : Cond.fieldLink RX0 52 "IdleDiscards$Device" "discarded" "I" ∈ wsX0_makeNew := by decide +kernel
theorem mX0_makeNew_55 : Cond.fieldLink RX0 55 "IdleDiscards$Device" "dropped" "I" ∈ wsX0_makeNew := by decide +kernel
set_option maxRecDepth 100000 in
set_option maxHeartbeats 4000000 in
theorem kX0_makeNew (l : Launch) (g : zG) (h0 h1 h2 h3 h4 : Nat) (b : Nat → Int32) (pF : Nat → Int32) (pL : Nat → Int32) (st : Nat → Int32) (tm : Int32) (qt : Int32) (cm : Int32) (ds : Int32) (dr : Int32) {b' : Nat → Int32} {pF' : Nat → Int32} {pL' : Nat → Int32} {st' : Nat → Int32} {tm' : Int32} {qt' : Int32} {cm' : Int32} {ds' : Int32} {dr' : Int32} (h : fX0_makeNew b pF pL st = some (b', pF', pL', st', tm', qt', cm', ds', dr')) : Ma l g yX0_makeNew wsX0_makeNew { frames := 1, cells := 0, slots := 0, locals := 40 } [.ref h0] (zD g h0 h1 h2 h3 h4 b pF pL st tm qt cm ds dr) (zWv g (zD g h0 h1 h2 h3 h4 b' pF' pL' st' tm' qt' cm' ds' dr')) := by
  refine zm_in (cc := cX0_makeNew) (maxL := 1) (ret := none) (by decide) rfl (Nat.le_of_ble_eq_true rfl) ?_
  intro p e s m below meth c hx hb hr hml hts hown hlocks hK A hA hP hD hS hAm ls hl
  replace hl : lv_has ls 1 [(0, .ref h0)] := hl
  obtain ⟨⟨tg1, hZ1, hT1⟩, ⟨tg2, hZ2, hT2⟩, -⟩ := id hAm
  unfold fX0_makeNew at h
  refine lv_aload_n hx hb dX0_makeNew_0 rfl (lv_at hl 0 rfl) ?_
  refine va_get (ci := 0) (v := .ref h1) (C := RX0) (T := TX0) (N := 9) hx hb hts uX0_makeNew_X0 hown hK hP 0 rfl rfl 0 (by decide) (hts _ mX0_makeNew_9) (fun _ h9 => h9) rfl dX0_makeNew_1 ?_
  refine lv_iconst (v := (-1)) hx hb dX0_makeNew_4 (by decide) ?_
  obtain ⟨b1, e1, h⟩ := zb h
  refine zSw (As := [.ref h1, .int (-1)]) (rest := []) (zWv_q g _) ⟨hx, hb, hml, hown, hts⟩ (kJ7_fill_53178 l g 256 h1 b (-1) e1) (va_cwS 2 hts gX0_makeNew_J7_fill_53178 rfl rfl rfl hdS_J7_fill_53178 ⟨Nat.le_of_ble_eq_true rfl, Nat.le_of_ble_eq_true rfl⟩) hK hP hD hS hA [1] (by decide) rfl rfl rfl hl.1 rfl (Nat.le_of_ble_eq_true rfl) ⟨Nat.zero_le _, Nat.zero_le _⟩ dX0_makeNew_5 (fun H locs hP hD hS => ?_)
  replace hP : zP g (zD g h0 h1 h2 h3 h4 b1 pF pL st tm qt cm ds dr) H := hP
  replace hD : va_D A (zD g h0 h1 h2 h3 h4 b1 pF pL st tm qt cm ds dr) := hD
  refine lv_aload_n hx hb dX0_makeNew_8 rfl (lv_at hl 0 rfl) ?_
  refine va_get (ci := 0) (v := .ref h2) (C := RX0) (T := TX0) (N := 9) hx hb hts uX0_makeNew_X0 hown hK hP 0 rfl rfl 1 (by decide) (hts _ mX0_makeNew_15) (fun _ h9 => h9) rfl dX0_makeNew_9 ?_
  refine lv_iconst (v := 0) hx hb dX0_makeNew_12 (by decide) ?_
  obtain ⟨pF2, e2, h⟩ := zb h
  refine zSw (As := [.ref h2, .int 0]) (rest := []) (zWv_q g _) ⟨hx, hb, hml, hown, hts⟩ (kJ7_fill_53178 l g 3 h2 pF 0 e2) (va_cwS 2 hts gX0_makeNew_J7_fill_53178 rfl rfl rfl hdS_J7_fill_53178 ⟨Nat.le_of_ble_eq_true rfl, Nat.le_of_ble_eq_true rfl⟩) hK hP hD hS hA [2] (by decide) rfl rfl rfl hl.1 rfl (Nat.le_of_ble_eq_true rfl) ⟨Nat.zero_le _, Nat.zero_le _⟩ dX0_makeNew_13 (fun H locs hP hD hS => ?_)
  replace hP : zP g (zD g h0 h1 h2 h3 h4 b1 pF2 pL st tm qt cm ds dr) H := hP
  replace hD : va_D A (zD g h0 h1 h2 h3 h4 b1 pF2 pL st tm qt cm ds dr) := hD
  refine lv_aload_n hx hb dX0_makeNew_16 rfl (lv_at hl 0 rfl) ?_
  refine va_get (ci := 0) (v := .ref h3) (C := RX0) (T := TX0) (N := 9) hx hb hts uX0_makeNew_X0 hown hK hP 0 rfl rfl 2 (by decide) (hts _ mX0_makeNew_18) (fun _ h9 => h9) rfl dX0_makeNew_17 ?_
  refine lv_iconst (v := 0) hx hb dX0_makeNew_20 (by decide) ?_
  obtain ⟨pL3, e3, h⟩ := zb h
  refine zSw (As := [.ref h3, .int 0]) (rest := []) (zWv_q g _) ⟨hx, hb, hml, hown, hts⟩ (kJ7_fill_53178 l g 3 h3 pL 0 e3) (va_cwS 2 hts gX0_makeNew_J7_fill_53178 rfl rfl rfl hdS_J7_fill_53178 ⟨Nat.le_of_ble_eq_true rfl, Nat.le_of_ble_eq_true rfl⟩) hK hP hD hS hA [3] (by decide) rfl rfl rfl hl.1 rfl (Nat.le_of_ble_eq_true rfl) ⟨Nat.zero_le _, Nat.zero_le _⟩ dX0_makeNew_21 (fun H locs hP hD hS => ?_)
  replace hP : zP g (zD g h0 h1 h2 h3 h4 b1 pF2 pL3 st tm qt cm ds dr) H := hP
  replace hD : va_D A (zD g h0 h1 h2 h3 h4 b1 pF2 pL3 st tm qt cm ds dr) := hD
  refine va_getsN hx hb hZ1 hS hown (va_Nw.use rfl hAm.2.2.2.2.2.2.1) (fun _ h9 => h9) dX0_makeNew_24 ?_
  refine lv_iconst (v := 0) hx hb dX0_makeNew_27 (by decide) ?_
  refine lv_aload_n hx hb dX0_makeNew_28 rfl (lv_at hl 0 rfl) ?_
  refine va_get (ci := 0) (v := .ref h4) (C := RX0) (T := TX0) (N := 9) hx hb hts uX0_makeNew_X0 hown hK hP 0 rfl rfl 3 (by decide) (hts _ mX0_makeNew_21) (fun _ h9 => h9) rfl dX0_makeNew_29 ?_
  refine lv_iconst (v := 0) hx hb dX0_makeNew_32 (by decide) ?_
  refine lv_bipush (v := 6) hx hb dX0_makeNew_33 (by decide) ?_
  refine za_cpyT hx hb (hml.trans hl.1.symm) hown (hts _ mX0_makeNew_36) (hts _ mX0_makeNew_acn) (hts _ mX0_makeNew_acs) (hts _ mX0_makeNew_aci) hK hP hD hS hT1 4 rfl 6 (by decide) (by decide) (by decide) (by decide) (Nat.le_of_ble_eq_true rfl) (Nat.le_of_ble_eq_true rfl) dX0_makeNew_35 (fun H locs hP hD hS => ?_)
  replace hP : zP g (zD g h0 h1 h2 h3 h4 b1 pF2 pL3 (va_cpy zFs st 0 0 6) tm qt cm ds dr) H := hP
  replace hD : va_D A (zD g h0 h1 h2 h3 h4 b1 pF2 pL3 (va_cpy zFs st 0 0 6) tm qt cm ds dr) := hD
  refine lv_aload_n hx hb dX0_makeNew_38 rfl (lv_at hl 0 rfl) ?_
  refine lv_iconst (v := 0) hx hb dX0_makeNew_39 (by decide) ?_
  refine va_put (ci := 0) (v := .int 0) (ty := .int) (C := RX0) (T := TX0) (N := 9) hx hb hts uX0_makeNew_X0 tyX0 tyX0_ok nmX0 hown hK hP hD hS 0 rfl rfl 4 (by decide) (hts _ mX0_makeNew_42) (fun _ h9 => h9) rfl (by decide +kernel) rfl rfl (Nat.le_of_ble_eq_true rfl) dX0_makeNew_40 (fun H locs hP hD hS => ?_)
  replace hP : zP g (zD g h0 h1 h2 h3 h4 b1 pF2 pL3 (va_cpy zFs st 0 0 6) 0 qt cm ds dr) H := hP
  replace hD : va_D A (zD g h0 h1 h2 h3 h4 b1 pF2 pL3 (va_cpy zFs st 0 0 6) 0 qt cm ds dr) := hD
  refine lv_aload_n hx hb dX0_makeNew_43 rfl (lv_at hl 0 rfl) ?_
  refine lv_iconst (v := 0) hx hb dX0_makeNew_44 (by decide) ?_
  refine va_put (ci := 0) (v := .int 0) (ty := .int) (C := RX0) (T := TX0) (N := 9) hx hb hts uX0_makeNew_X0 tyX0 tyX0_ok nmX0 hown hK hP hD hS 0 rfl rfl 5 (by decide) (hts _ mX0_makeNew_46) (fun _ h9 => h9) rfl (by decide +kernel) rfl rfl (Nat.le_of_ble_eq_true rfl) dX0_makeNew_45 (fun H locs hP hD hS => ?_)
  replace hP : zP g (zD g h0 h1 h2 h3 h4 b1 pF2 pL3 (va_cpy zFs st 0 0 6) 0 0 cm ds dr) H := hP
  replace hD : va_D A (zD g h0 h1 h2 h3 h4 b1 pF2 pL3 (va_cpy zFs st 0 0 6) 0 0 cm ds dr) := hD
  refine lv_aload_n hx hb dX0_makeNew_48 rfl (lv_at hl 0 rfl) ?_
  refine lv_iconst (v := 0) hx hb dX0_makeNew_49 (by decide) ?_
  refine va_put (ci := 0) (v := .int 0) (ty := .int) (C := RX0) (T := TX0) (N := 9) hx hb hts uX0_makeNew_X0 tyX0 tyX0_ok nmX0 hown hK hP hD hS 0 rfl rfl 6 (by decide) (hts _ mX0_makeNew_49) (fun _ h9 => h9) rfl (by decide +kernel) rfl rfl (Nat.le_of_ble_eq_true rfl) dX0_makeNew_50 (fun H locs hP hD hS => ?_)
  replace hP : zP g (zD g h0 h1 h2 h3 h4 b1 pF2 pL3 (va_cpy zFs st 0 0 6) 0 0 0 ds dr) H := hP
  replace hD : va_D A (zD g h0 h1 h2 h3 h4 b1 pF2 pL3 (va_cpy zFs st 0 0 6) 0 0 0 ds dr) := hD
  refine lv_aload_n hx hb dX0_makeNew_53 rfl (lv_at hl 0 rfl) ?_
  refine lv_iconst (v := 0) hx hb dX0_makeNew_54 (by decide) ?_
  refine va_put (ci := 0) (v := .int 0) (ty := .int) (C := RX0) (T := TX0) (N := 9) hx hb hts uX0_makeNew_X0 tyX0 tyX0_ok nmX0 hown hK hP hD hS 0 rfl rfl 7 (by decide) (hts _ mX0_makeNew_52) (fun _ h9 => h9) rfl (by decide +kernel) rfl rfl (Nat.le_of_ble_eq_true rfl) dX0_makeNew_55 (fun H locs hP hD hS => ?_)
  replace hP : zP g (zD g h0 h1 h2 h3 h4 b1 pF2 pL3 (va_cpy zFs st 0 0 6) 0 0 0 0 dr) H := hP
  replace hD : va_D A (zD g h0 h1 h2 h3 h4 b1 pF2 pL3 (va_cpy zFs st 0 0 6) 0 0 0 0 dr) := hD
  refine lv_aload_n hx hb dX0_makeNew_58 rfl (lv_at hl 0 rfl) ?_
  refine lv_iconst (v := 0) hx hb dX0_makeNew_59 (by decide) ?_
  refine va_put (ci := 0) (v := .int 0) (ty := .int) (C := RX0) (T := TX0) (N := 9) hx hb hts uX0_makeNew_X0 tyX0 tyX0_ok nmX0 hown hK hP hD hS 0 rfl rfl 8 (by decide) (hts _ mX0_makeNew_55) (fun _ h9 => h9) rfl (by decide +kernel) rfl rfl (Nat.le_of_ble_eq_true rfl) dX0_makeNew_60 (fun H locs hP hD hS => ?_)
  replace hP : zP g (zD g h0 h1 h2 h3 h4 b1 pF2 pL3 (va_cpy zFs st 0 0 6) 0 0 0 0 0) H := hP
  replace hD : va_D A (zD g h0 h1 h2 h3 h4 b1 pF2 pL3 (va_cpy zFs st 0 0 6) 0 0 0 0 0) := hD
  cases h
  exact zw_v hx hb hr hlocks hP hS dX0_makeNew_63
