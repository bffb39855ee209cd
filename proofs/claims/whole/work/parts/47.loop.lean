/-! the law's loop -/
theorem zL_next {p : Program} {l : Launch} {e : Env} {s : State} {m : MethodId} {sa : Nat} {below : List Frame} {meth : Method} {c : Code} {g : zG} {hm : Nat} {um : Nat → Nat} {ho h0 : Nat} {u : zAd} {A : Nat → Prop} {Q : State → Prop} {L : Nat} {xs : Nat → Int32} {B cells slots i : Nat} (C : zLc p l s m sa c g A L xs) (loop : zGo p l e s m sa below meth c g hm um ho h0 u A Q B cells slots (i + 4) 23) : zGo p l e s m sa below meth c g hm um ho h0 u A Q B cells slots i 1684 := by
  obtain ⟨hx, hb, -⟩ := id C
  intro x v f H locs ls hR hP hD hS hl
  refine lv_iinc (k := 4) (v := Int32.ofNat (i + 4)) hx hb dL_law_1684 hl rfl (zN_add i 4) (by decide) rfl (fun ls hl => ?_)
  refine lv_goto (tgt := 23) hx hb dL_law_1687 (by decide) ?_
  exact loop x v f H locs ls hR hP hD hS (lv_sub hl [1, 2, 3, 4, 0] rfl)
theorem zL_case {p : Program} {l : Launch} {e : Env} {s : State} {m : MethodId} {sa : Nat} {below : List Frame} {meth : Method} {c : Code} {g : zG} {hm : Nat} {um : Nat → Nat} {ho h0 : Nat} {u : zAd} {A : Nat → Prop} {Q : State → Prop} {L : Nat} {xs : Nat → Int32} {B cells slots i : Nat} (C : zLc p l s m sa c g A L xs) (hi : i + 3 < L) (hB : B + 10000 < 2147483647) (hc : cells + 3 ≤ 601024) (hs : slots + 18 ≤ 7293034) (loop : zGo p l e s m sa below meth c g hm um ho h0 u A Q (B + 7200) (cells + 3) (slots + 18) i 1684) : ∀ (x : zXS) (v : zMS) (f : Nat → Int64) (H : Heap) (locs : List Loc) (ls : Array Slot), ZS x v B → zP g (zLW g hm um ho h0 u x v f) H → va_D A (zLW g hm um ho h0 u x v f) → va_S A s.heap H locs → lv_has ls 7 (zLl sa h0 hm ho i) → ∀ k : Nat, k < 32 →
    W p l e room_1 s m #[.ref sa] below meth c H locs cells slots Q (F0 m 39 ls [.int (Int32.ofNat k)]) := by
  obtain ⟨hx, hb, -⟩ := id C
  intro x v f H locs ls hR hP hD hS hl k hk
  rcases (show k = 0 ∨ k = 1 ∨ k = 2 ∨ k = 3 ∨ k = 4 ∨ k = 5 ∨ k = 6 ∨ k = 7 ∨ k = 8 ∨ k = 9 ∨ k = 10 ∨ k = 11 ∨ k = 12 ∨ k = 13 ∨ k = 14 ∨ k = 15 ∨ k = 16 ∨ k = 17 ∨ k = 18 ∨ k = 19 ∨ k = 20 ∨ k = 21 ∨ k = 22 ∨ k = 23 ∨ k = 24 ∨ k = 25 ∨ k = 26 ∨ 27 ≤ k by omega) with rfl | rfl | rfl | rfl | rfl | rfl | rfl | rfl | rfl | rfl | rfl | rfl | rfl | rfl | rfl | rfl | rfl | rfl | rfl | rfl | rfl | rfl | rfl | rfl | rfl | rfl | rfl | h27
  · exact lv_tableIn (tgt := 160) (off := 121) hx hb dL_law_39 (by decide) (by decide) (by rfl) (by decide) (lc_append C hi hB hc hs loop x v f H locs ls hR hP hD hS hl)
  · exact lv_tableIn (tgt := 216) (off := 177) hx hb dL_law_39 (by decide) (by decide) (by rfl) (by decide) (lc_clearText C hi hB hc hs loop x v f H locs ls hR hP hD hS hl)
  · exact lv_tableIn (tgt := 229) (off := 190) hx hb dL_law_39 (by decide) (by decide) (by rfl) (by decide) (lc_errorPosition C hi hB hc hs loop x v f H locs ls hR hP hD hS hl)
  · exact lv_tableIn (tgt := 242) (off := 203) hx hb dL_law_39 (by decide) (by decide) (by rfl) (by decide) (lc_load C hi hB hc hs loop x v f H locs ls hR hP hD hS hl)
  · exact lv_tableIn (tgt := 286) (off := 247) hx hb dL_law_39 (by decide) (by decide) (by rfl) (by decide) (lc_about C hi hB hc hs loop x v f H locs ls hR hP hD hS hl)
  · exact lv_tableIn (tgt := 342) (off := 303) hx hb dL_law_39 (by decide) (by decide) (by rfl) (by decide) (lc_block C hi hB hc hs loop x v f H locs ls hR hP hD hS hl)
  · exact lv_tableIn (tgt := 410) (off := 371) hx hb dL_law_39 (by decide) (by decide) (by rfl) (by decide) (lc_range C hi hB hc hs loop x v f H locs ls hR hP hD hS hl)
  · exact lv_tableIn (tgt := 478) (off := 439) hx hb dL_law_39 (by decide) (by decide) (by rfl) (by decide) (lc_pinned C hi hB hc hs loop x v f H locs ls hR hP hD hS hl)
  · exact lv_tableIn (tgt := 546) (off := 507) hx hb dL_law_39 (by decide) (by decide) (by rfl) (by decide) (lc_setting C hi hB hc hs loop x v f H locs ls hR hP hD hS hl)
  · exact lv_tableIn (tgt := 602) (off := 563) hx hb dL_law_39 (by decide) (by decide) (by rfl) (by decide) (lc_write C hi hB hc hs loop x v f H locs ls hR hP hD hS hl)
  · exact lv_tableIn (tgt := 670) (off := 631) hx hb dL_law_39 (by decide) (by decide) (by rfl) (by decide) (lc_free C hi hB hc hs loop x v f H locs ls hR hP hD hS hl)
  · exact lv_tableIn (tgt := 738) (off := 699) hx hb dL_law_39 (by decide) (by decide) (by rfl) (by decide) (lc_pin C hi hB hc hs loop x v f H locs ls hR hP hD hS hl)
  · exact lv_tableIn (tgt := 818) (off := 779) hx hb dL_law_39 (by decide) (by decide) (by rfl) (by decide) (lc_unpin C hi hB hc hs loop x v f H locs ls hR hP hD hS hl)
  · exact lv_tableIn (tgt := 874) (off := 835) hx hb dL_law_39 (by decide) (by decide) (by rfl) (by decide) (lc_run C hi hB hc hs loop x v f H locs ls hR hP hD hS hl)
  · exact lv_tableIn (tgt := 930) (off := 891) hx hb dL_law_39 (by decide) (by decide) (by rfl) (by decide) (lc_flush C hi hB hc hs loop x v f H locs ls hR hP hD hS hl)
  · exact lv_tableIn (tgt := 943) (off := 904) hx hb dL_law_39 (by decide) (by decide) (by rfl) (by decide) (lc_set C hi hB hc hs loop x v f H locs ls hR hP hD hS hl)
  · exact lv_tableIn (tgt := 1011) (off := 972) hx hb dL_law_39 (by decide) (by decide) (by rfl) (by decide) (lc_undo C hi hB hc hs loop x v f H locs ls hR hP hD hS hl)
  · exact lv_tableIn (tgt := 1055) (off := 1016) hx hb dL_law_39 (by decide) (by decide) (by rfl) (by decide) (lc_next C hi hB hc hs loop x v f H locs ls hR hP hD hS hl)
  · exact lv_tableIn (tgt := 1111) (off := 1072) hx hb dL_law_39 (by decide) (by decide) (by rfl) (by decide) (lc_goneIn C hi hB hc hs loop x v f H locs ls hR hP hD hS hl)
  · exact lv_tableIn (tgt := 1167) (off := 1128) hx hb dL_law_39 (by decide) (by decide) (by rfl) (by decide) (lc_coming C hi hB hc hs loop x v f H locs ls hR hP hD hS hl)
  · exact lv_tableIn (tgt := 1235) (off := 1196) hx hb dL_law_39 (by decide) (by decide) (by rfl) (by decide) (lc_bestGranule C hi hB hc hs loop x v f H locs ls hR hP hD hS hl)
  · exact lv_tableIn (tgt := 1291) (off := 1252) hx hb dL_law_39 (by decide) (by decide) (by rfl) (by decide) (lc_ifWritten C hi hB hc hs loop x v f H locs ls hR hP hD hS hl)
  · exact lv_tableIn (tgt := 1359) (off := 1320) hx hb dL_law_39 (by decide) (by decide) (by rfl) (by decide) (lc_stuck C hi hB hc hs loop x v f H locs ls hR hP hD hS hl)
  · exact lv_tableIn (tgt := 1372) (off := 1333) hx hb dL_law_39 (by decide) (by decide) (by rfl) (by decide) (lc_runScript C hi hB hc hs loop x v f H locs ls hR hP hD hS hl)
  · exact lv_tableIn (tgt := 1472) (off := 1433) hx hb dL_law_39 (by decide) (by decide) (by rfl) (by decide) (lc_simulate C hi hB hc hs loop x v f H locs ls hR hP hD hS hl)
  · exact lv_tableIn (tgt := 1572) (off := 1533) hx hb dL_law_39 (by decide) (by decide) (by rfl) (by decide) (lc_save C hi hB hc hs loop x v f H locs ls hR hP hD hS hl)
  · exact lv_tableIn (tgt := 1628) (off := 1589) hx hb dL_law_39 (by decide) (by decide) (by rfl) (by decide) (lc_restore C hi hB hc hs loop x v f H locs ls hR hP hD hS hl)
  · refine lv_tableOut (tgt := 1684) hx hb dL_law_39 (Or.inr (by rw [zN_toInt (by omega)]; omega)) (by decide) ?_
    exact W.widen (by omega) (by omega) (loop x v f H locs ls (hR.mono (by omega)) hP hD hS hl)
theorem zL_loop {p : Program} {l : Launch} {e : Env} {s : State} {m : MethodId} {sa : Nat} {below : List Frame} {meth : Method} {c : Code} {g : zG} {hm : Nat} {um : Nat → Nat} {ho h0 : Nat} {u : zAd} {A : Nat → Prop} {Q : State → Prop} {L : Nat} {xs : Nat → Int32} (C : zLc p l s m sa c g A L xs)
    (fin : ∀ (H : Heap) (locs : List Loc) (ls : Array Slot) (cells slots : Nat), va_S A s.heap H locs → cells ≤ 601024 → slots ≤ 7293034 → W p l e room_1 s m #[.ref sa] below meth c H locs cells slots Q (F0 m 1690 ls [])) :
    ∀ (n i B cells slots : Nat), i ≤ 2048 → L ≤ i + 4 * n + 3 → B + 7200 * n + 10000 < 2147483647 → cells + 3 * n ≤ 601024 → slots + 18 * n ≤ 7293034 → zGo p l e s m sa below meth c g hm um ho h0 u A Q B cells slots i 23 := by
  obtain ⟨hx, hb, hml, hown, hts, hK, hN, hA, hAm, hX, hbl, hbA, htr, hL⟩ := id C
  have h4 : ∀ L : Nat, L ≤ 2048 → (Int32.ofNat L - 4).toInt = (L : Int) - 4 := fun L hL => by
    rw [Int32.toInt_sub, zN_toInt (by omega), show (4 : Int32).toInt = 4 by decide]
    exact Int.bmod_eq_of_le (by omega) (by omega)
  intro n
  induction n with
  | zero =>
    intro i B cells slots hi hLn hB hc hs x v f H locs ls hR hP hD hS hl
    refine lv_iload hx hb dL_law_23 (lv_at hl 4 rfl) ?_
    refine lv_aload_n hx hb dL_law_25 rfl (lv_at hl 0 rfl) ?_
    refine va_slen hx hb hX hbl hbA hS dL_law_26 ?_
    refine lv_iconst (v := 4) hx hb dL_law_27 (by decide) ?_
    refine lv_isub hx hb dL_law_28 ?_
    refine lv_icmp_gt (tgt := 1690) hx hb dL_law_29 (by decide) (fun _ => fin H locs ls cells slots hS (by omega) (by omega)) (fun q => absurd ?_ q)
    rw [Int32.lt_iff_toInt_lt, h4 L hL, zN_toInt (by omega)]
    omega
  | succ n ih =>
    intro i B cells slots hi hLn hB hc hs x v f H locs ls hR hP hD hS hl
    refine lv_iload hx hb dL_law_23 (lv_at hl 4 rfl) ?_
    refine lv_aload_n hx hb dL_law_25 rfl (lv_at hl 0 rfl) ?_
    refine va_slen hx hb hX hbl hbA hS dL_law_26 ?_
    refine lv_iconst (v := 4) hx hb dL_law_27 (by decide) ?_
    refine lv_isub hx hb dL_law_28 ?_
    refine lv_icmp_gt (tgt := 1690) hx hb dL_law_29 (by decide) (fun _ => fin H locs ls cells slots hS (by omega) (by omega)) (fun q => ?_)
    rw [Int32.lt_iff_toInt_lt, h4 L hL, zN_toInt (by omega)] at q
    have hi3 : i + 3 < L := by omega
    refine lv_aload_n hx hb dL_law_32 rfl (lv_at hl 0 rfl) ?_
    refine lv_iload hx hb dL_law_33 (lv_at hl 4 rfl) ?_
    refine va_sld hx hb hX hbl hbA hS (zN_in (show i < L by omega) (by omega)) dL_law_35 ?_
    refine lv_bipush (v := 31) hx hb dL_law_36 (by decide) ?_
    refine lv_iand hx hb dL_law_38 ?_
    obtain ⟨k, hk, ek⟩ := and31 (xs (Int32.ofNat i).toNatClampNeg)
    rw [ek]
    exact zL_case C hi3 (by omega) (by omega) (by omega) (zL_next C (ih (i + 4) (B + 7200) (cells + 3) (slots + 18) (by omega) (by omega) (by omega) (by omega) (by omega))) x v f H locs ls hR hP hD hS hl k hk
