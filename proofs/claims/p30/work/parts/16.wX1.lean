abbrev zPR (g : zG) (h0 h1 k0 k1 k2 k3 k4 : Nat) (ad : Nat → Nat → Nat) (ol : Int32) (pz : Int32) (dvs : Nat → zDv) (bo : Nat → Int32) (pFo : Nat → Int32) (pLo : Nat → Int32) (sto : Nat → Int32) (tmo : Int32) (qto : Int32) (cmo : Int32) (dso : Int32) (dro : Int32) : va_W := [(h0, .inr (1, [.ref h1, .int ol, .int pz])), (h1, .inl (g.2.2.2.2.1, 14, .inr (.inr (.inr (.inr (fun i => some (ad i 0))))))), (k0, .inr (0, [.ref k1, .ref k2, .ref k3, .ref k4, .int tmo, .int qto, .int cmo, .int dso, .int dro])), (k1, .inl (g.2.1, 256, .inl bo)), (k2, .inl (g.2.1, 3, .inl pFo)), (k3, .inl (g.2.1, 3, .inl pLo)), (k4, .inl (g.2.1, 6, .inl sto))] ++ zpool g ad dvs 14
theorem zset_right (b : va_W) (i : Nat) (q : Nat × va_E) : ∀ a : va_W, List.set (a ++ b) (a.length + i) q = a ++ List.set b i q
  | [] => by show List.set b (0 + i) q = List.set b i q; rw [Nat.zero_add]
  | x :: a => by
    show List.set (x :: (a ++ b)) (a.length + 1 + i) q = x :: (a ++ List.set b i q)
    rw [show a.length + 1 + i = (a.length + i) + 1 by omega]
    exact congrArg (fun t => x :: t) (zset_right b i q a)
theorem zput_right : ∀ (is : List Nat) (a b qs : va_W), zput (a ++ b) (is.map (fun i => a.length + i)) qs = a ++ zput b is qs
  | [], a, b, qs => by cases qs <;> rfl
  | i :: is, a, b, [] => rfl
  | i :: is, a, b, q :: qs => by
    rw [List.map_cons, zput, zput, zset_right]
    exact zput_right is a _ qs
theorem zput_left : ∀ (is : List Nat) (a b qs : va_W), (∀ i ∈ is, i < a.length) → zput (a ++ b) is qs = zput a is qs ++ b
  | [], a, b, qs, _ => by cases qs <;> rfl
  | i :: is, a, b, [], _ => rfl
  | i :: is, a, b, q :: qs, h => by
    rw [zput, zput, List.set_append_left (h := h i List.mem_cons_self)]
    exact zput_left is _ b qs (fun k hk => by rw [List.length_set]; exact h k (List.mem_cons_of_mem _ hk))
theorem zpool_put (g : zG) (ad : Nat → Nat → Nat) (ds : Nat → zDv) (j : Nat) (d : zDv) : ∀ n, j < n → zput (zpool g ad ds n) [5 * j, 5 * j + 1, 5 * j + 2, 5 * j + 3, 5 * j + 4] (zDw g (ad j) d) = zpool g ad (fun i => if i = j then d else ds i) n
  | 0, h => absurd h (Nat.not_lt_zero j)
  | n + 1, h => by
    have hl := zpool_len g ad ds n
    by_cases hj : j < n
    · rw [zpool, zput_left _ _ _ _ (by intro i hi; simp at hi; omega), zpool_put g ad ds j d n hj, zpool, if_neg (by omega)]
    · have hjn : j = n := by omega
      subst hjn
      rw [zpool, zpool, if_pos rfl, zpool_congr g ad ds (fun i => if i = j then d else ds i) j (fun i hi => if_neg (by omega))]
      have e : [5 * j, 5 * j + 1, 5 * j + 2, 5 * j + 3, 5 * j + 4] = [0, 1, 2, 3, 4].map (fun i => (zpool g ad ds j).length + i) := by rw [hl]; rfl
      rw [e, zput_right]
      rfl
theorem zpool_same (g : zG) (ad : Nat → Nat → Nat) (ds : Nat → zDv) (j n : Nat) (h : j < n) : zput (zpool g ad ds n) [5 * j, 5 * j + 1, 5 * j + 2, 5 * j + 3, 5 * j + 4] (zDw g (ad j) (ds j)) = zpool g ad ds n := by
  rw [zpool_put g ad ds j (ds j) n h]
  refine zpool_congr g ad ds _ n (fun i _ => ?_)
  by_cases e : i = j
  · rw [e]; exact if_pos rfl
  · exact if_neg e
/-- the cells of the j-th remembered device, behind seven others -/
theorem zpool_at7 (g : zG) (ad : Nat → Nat → Nat) (ds : Nat → zDv) (pre : va_W) (j t : Nat) (hp : pre.length = 7) (hj : j < 14) (ht : t < 5) : (pre ++ zpool g ad ds 14)[7 + (5 * j + t)]? = (zDw g (ad j) (ds j))[t]? := by
  rw [List.getElem?_append_right (by omega), hp, show 7 + (5 * j + t) - 7 = 5 * j + t by omega]
  exact zpool_at g ad ds 14 j t hj ht
theorem zput7 (pre tl qs : va_W) (j : Nat) (hp : pre.length = 7) : zput (pre ++ tl) [7 + (5 * j + 0), 7 + (5 * j + 1), 7 + (5 * j + 2), 7 + (5 * j + 3), 7 + (5 * j + 4)] qs = pre ++ zput tl [5 * j, 5 * j + 1, 5 * j + 2, 5 * j + 3, 5 * j + 4] qs := by
  have e : [7 + (5 * j + 0), 7 + (5 * j + 1), 7 + (5 * j + 2), 7 + (5 * j + 3), 7 + (5 * j + 4)] = [5 * j, 5 * j + 1, 5 * j + 2, 5 * j + 3, 5 * j + 4].map (fun i => pre.length + i) := by rw [hp]; rfl
  rw [e, zput_right]
def fX1_rem (ol pz : Int32) (dvs : Nat → zDv) (bo pFo pLo sto : Nat → Int32) (tmo qto cmo dso dro : Int32) : Option (Int32 × Int32 × (Nat → zDv)) :=
  ob (fX1_newest ol pz) fun r1 =>
  if r1 < 0 ∨ 14 ≤ r1.toNatClampNeg then none else
  ob9 (fX0_copyFrom (dvs r1.toNatClampNeg).1 (dvs r1.toNatClampNeg).2.1 (dvs r1.toNatClampNeg).2.2.1 (dvs r1.toNatClampNeg).2.2.2.1 bo pFo pLo sto tmo qto cmo dso dro) fun b1 pF1 pL1 st1 tm1 qt1 cm1 ds1 dr1 =>
  some (ol, pz, fun i => if i = r1.toNatClampNeg then (b1, pF1, pL1, st1, tm1, qt1, cm1, ds1, dr1) else dvs i)
def fX1_remember (ol pz : Int32) (dvs : Nat → zDv) (bo pFo pLo sto : Nat → Int32) (tmo qto cmo dso dro : Int32) : Option (Int32 × Int32 × (Nat → zDv)) :=
  if pz = 14 then fX1_rem (irem (ol + 1) 14) pz dvs bo pFo pLo sto tmo qto cmo dso dro else fX1_rem ol (pz + 1) dvs bo pFo pLo sto tmo qto cmo dso dro
theorem mX1_remember_18 : Cond.fieldLink RX1 18 "IdleDiscards$Past" "size" "I" ∈ wsX1_remember := by decide +kernel
theorem mX1_remember_22 : Cond.fieldLink RX1 22 "IdleDiscards$Past" "oldest" "I" ∈ wsX1_remember := by decide +kernel
theorem mX1_remember_11 : Cond.fieldLink RX1 11 "IdleDiscards$Past" "states" "[LIdleDiscards$Device;" ∈ wsX1_remember := by decide +kernel
theorem uX1_remember_X1 : ∀ w ∈ wsX10, w ∈ wsX1_remember := by decide +kernel
theorem mX1_takeBack_18 : Cond.fieldLink RX1 18 "IdleDiscards$Past" "size" "I" ∈ wsX1_takeBack := by decide +kernel
theorem mX1_takeBack_11 : Cond.fieldLink RX1 11 "IdleDiscards$Past" "states" "[LIdleDiscards$Device;" ∈ wsX1_takeBack := by decide +kernel
theorem uX1_takeBack_X1 : ∀ w ∈ wsX10, w ∈ wsX1_takeBack := by decide +kernel
theorem hdV_X1_newest : yX1_newest.cls = RX1 ∧ yX1_newest.cls ≠ "java/lang/invoke/MethodHandle" ∧ yX1_newest.cls ≠ "java/lang/invoke/VarHandle" ∧ (parseMethodDescriptor yX1_newest.desc).map (fun d => d.parameters.length) = some 0 := by decide +kernel
theorem hdV_X0_copyFrom : yX0_copyFrom.cls = RX0 ∧ yX0_copyFrom.cls ≠ "java/lang/invoke/MethodHandle" ∧ yX0_copyFrom.cls ≠ "java/lang/invoke/VarHandle" ∧ (parseMethodDescriptor yX0_copyFrom.desc).map (fun d => d.parameters.length) = some 1 := by decide +kernel
set_option maxRecDepth 100000 in
set_option maxHeartbeats 4000000 in
theorem kX1_remember (l : Launch) (g : zG) (h0 h1 k0 k1 k2 k3 k4 : Nat) (ad : Nat → Nat → Nat) (ol pz : Int32) (dvs : Nat → zDv) (bo pFo pLo sto : Nat → Int32) (tmo qto cmo dso dro : Int32) {ol' pz' : Int32} {dvs' : Nat → zDv} (h : fX1_remember ol pz dvs bo pFo pLo sto tmo qto cmo dso dro = some (ol', pz', dvs')) : Mw l g yX1_remember wsX1_remember { frames := 2, cells := 0, slots := 0, locals := 61 } [.ref h0, .ref k0] (zPR g h0 h1 k0 k1 k2 k3 k4 ad ol pz dvs bo pFo pLo sto tmo qto cmo dso dro) (zWv g (zPR g h0 h1 k0 k1 k2 k3 k4 ad ol' pz' dvs' bo pFo pLo sto tmo qto cmo dso dro)) := by
  refine zw_in (cc := cX1_remember) (maxL := 2) (ret := none) (by decide) rfl (Nat.le_of_ble_eq_true rfl) ?_
  intro p e s m below meth c hx hb hr hml hts hown hlocks hK A hA hP hD hS ls hl
  replace hl : lv_has ls 2 [(0, .ref h0), (1, .ref k0)] := hl
  have tail : ∀ (ol pz : Int32), fX1_rem ol pz dvs bo pFo pLo sto tmo qto cmo dso dro = some (ol', pz', dvs') → ∀ (H : Heap) (locs : List Loc), zP g (zPR g h0 h1 k0 k1 k2 k3 k4 ad ol pz dvs bo pFo pLo sto tmo qto cmo dso dro) H → va_D A (zPR g h0 h1 k0 k1 k2 k3 k4 ad ol pz dvs bo pFo pLo sto tmo qto cmo dso dro) → va_S A s.heap H locs → ∀ (ls : Array Slot), lv_has ls 2 [(0, .ref h0), (1, .ref k0)] → W p l e ({ frames := 2, cells := 0, slots := 0, locals := 61 } : Room) s m [.ref h0, .ref k0].toArray below meth c H locs 0 0 (MQ below (zWv g (zPR g h0 h1 k0 k1 k2 k3 k4 ad ol' pz' dvs' bo pFo pLo sto tmo qto cmo dso dro) A) [.ref h0, .ref k0].toArray s 0 0 A) (F0 m 35 ls []) := by
    intro ol pz h H locs hP hD hS ls hl
    unfold fX1_rem at h
    refine lv_aload_n hx hb dX1_remember_35 rfl (lv_at hl 0 rfl) ?_
    refine va_get (ci := 1) (v := .ref h1) (C := RX1) (T := TX1) (N := 3) hx hb hts uX1_remember_X1 hown hK hP 0 rfl rfl 0 (by decide) (hts _ mX1_remember_11) (fun _ h9 => h9) rfl dX1_remember_36 ?_
    refine lv_aload_n hx hb dX1_remember_39 rfl (lv_at hl 0 rfl) ?_
    obtain ⟨r1, e1, h⟩ := zb h
    refine zV (As := []) (rest := [.ref h1]) (zQi_q _) ⟨hx, hb, hml, hown, hts⟩ (kX1_newest l g h0 (.ref h1) ol pz e1) (cwV 0 hts gX1_remember_X1_newest rfl rfl rfl hdV_X1_newest ⟨Nat.le_of_ble_eq_true rfl, Nat.le_of_ble_eq_true rfl⟩) hK hP [0] rfl 0 rfl rfl rfl hl.1 rfl (Nat.le_of_ble_eq_true rfl) ⟨Nat.zero_le _, Nat.zero_le _⟩ dX1_remember_40 ?_
    obtain ⟨i2, h⟩ := zi h
    refine va_aldq hx hb hK hP 1 3 rfl rfl i2 dX1_remember_43 ?_
    refine W.eq (g2 := F0 m 44 ls [.ref (ad r1.toNatClampNeg 0)]) rfl ?_
    refine lv_aload_n hx hb dX1_remember_44 rfl (lv_at hl 1 rfl) ?_
    obtain ⟨b1, pF1, pL1, st1, tm1, qt1, cm1, ds1, dr1, e3, h⟩ := zb9 h
    have hj : r1.toNatClampNeg < 14 := Nat.not_le.mp fun q => i2 (Or.inr q)
    generalize hje : r1.toNatClampNeg = j at hj h e3 ⊢
    have ha : ∀ t, t < 5 → ((zPR g h0 h1 k0 k1 k2 k3 k4 ad ol pz dvs bo pFo pLo sto tmo qto cmo dso dro))[7 + (5 * j + t)]? = (zDw g (ad j) (dvs j))[t]? := fun t ht => zpool_at7 g ad dvs [(h0, .inr (1, [.ref h1, .int ol, .int pz])), (h1, .inl (g.2.2.2.2.1, 14, .inr (.inr (.inr (.inr (fun i => some (ad i 0))))))), (k0, .inr (0, [.ref k1, .ref k2, .ref k3, .ref k4, .int tmo, .int qto, .int cmo, .int dso, .int dro])), (k1, .inl (g.2.1, 256, .inl bo)), (k2, .inl (g.2.1, 3, .inl pFo)), (k3, .inl (g.2.1, 3, .inl pLo)), (k4, .inl (g.2.1, 6, .inl sto))] j t rfl hj ht
    refine zVw (As := [.ref k0]) (rest := []) (zWv_q g _) ⟨hx, hb, hml, hown, hts⟩ (kX0_copyFrom l g (ad j 0) (ad j 1) (ad j 2) (ad j 3) (ad j 4) k0 k1 k2 k3 k4 (dvs j).1 (dvs j).2.1 (dvs j).2.2.1 (dvs j).2.2.2.1 (dvs j).2.2.2.2.1 (dvs j).2.2.2.2.2.1 (dvs j).2.2.2.2.2.2.1 (dvs j).2.2.2.2.2.2.2.1 (dvs j).2.2.2.2.2.2.2.2 bo pFo pLo sto tmo qto cmo dso dro e3) (cwV 1 hts gX1_remember_X0_copyFrom rfl rfl rfl hdV_X0_copyFrom ⟨Nat.le_of_ble_eq_true rfl, Nat.le_of_ble_eq_true rfl⟩) hK hP hD hS hA [7 + (5 * j + 0), 7 + (5 * j + 1), 7 + (5 * j + 2), 7 + (5 * j + 3), 7 + (5 * j + 4), 2, 3, 4, 5, 6] (by simp [va_nd]; omega) (by simp only [List.map_cons, List.map_nil]; rw [ha 0 (by omega), ha 1 (by omega), ha 2 (by omega), ha 3 (by omega), ha 4 (by omega)]; rfl) rfl (7 + (5 * j + 0)) (ha 0 (by omega)) rfl rfl hl.1 rfl (Nat.le_of_ble_eq_true rfl) ⟨Nat.zero_le _, Nat.zero_le _⟩ dX1_remember_45 (fun H locs hP hD hS => ?_)
    have hz : zput (zPR g h0 h1 k0 k1 k2 k3 k4 ad ol pz dvs bo pFo pLo sto tmo qto cmo dso dro) [7 + (5 * j + 0), 7 + (5 * j + 1), 7 + (5 * j + 2), 7 + (5 * j + 3), 7 + (5 * j + 4), 2, 3, 4, 5, 6] (zDD g (ad j 0) (ad j 1) (ad j 2) (ad j 3) (ad j 4) k0 k1 k2 k3 k4 b1 pF1 pL1 st1 tm1 qt1 cm1 ds1 dr1 bo pFo pLo sto tmo qto cmo dso dro) = (zPR g h0 h1 k0 k1 k2 k3 k4 ad ol pz (fun i => if i = j then (b1, pF1, pL1, st1, tm1, qt1, cm1, ds1, dr1) else dvs i) bo pFo pLo sto tmo qto cmo dso dro) := by
      show zput (zput ([(h0, .inr (1, [.ref h1, .int ol, .int pz])), (h1, .inl (g.2.2.2.2.1, 14, .inr (.inr (.inr (.inr (fun i => some (ad i 0))))))), (k0, .inr (0, [.ref k1, .ref k2, .ref k3, .ref k4, .int tmo, .int qto, .int cmo, .int dso, .int dro])), (k1, .inl (g.2.1, 256, .inl bo)), (k2, .inl (g.2.1, 3, .inl pFo)), (k3, .inl (g.2.1, 3, .inl pLo)), (k4, .inl (g.2.1, 6, .inl sto))] ++ zpool g ad dvs 14) [7 + (5 * j + 0), 7 + (5 * j + 1), 7 + (5 * j + 2), 7 + (5 * j + 3), 7 + (5 * j + 4)] (zDw g (ad j) (b1, pF1, pL1, st1, tm1, qt1, cm1, ds1, dr1))) [2, 3, 4, 5, 6] (zD g k0 k1 k2 k3 k4 bo pFo pLo sto tmo qto cmo dso dro) = _
      rw [zput7 _ _ _ j rfl, zpool_put g ad dvs j (b1, pF1, pL1, st1, tm1, qt1, cm1, ds1, dr1) 14 hj]
      rfl
    replace hP : zP g (zPR g h0 h1 k0 k1 k2 k3 k4 ad ol pz (fun i => if i = j then (b1, pF1, pL1, st1, tm1, qt1, cm1, ds1, dr1) else dvs i) bo pFo pLo sto tmo qto cmo dso dro) H := by rw [← hz]; exact hP
    cases h
    exact zw_v hx hb hr hlocks hP hS dX1_remember_48
  unfold fX1_remember at h
  refine lv_aload_n hx hb dX1_remember_0 rfl (lv_at hl 0 rfl) ?_
  refine va_get (ci := 1) (v := .int pz) (C := RX1) (T := TX1) (N := 3) hx hb hts uX1_remember_X1 hown hK hP 0 rfl rfl 2 (by decide) (hts _ mX1_remember_18) (fun _ h9 => h9) rfl dX1_remember_1 ?_
  refine lv_bipush (v := 14) hx hb dX1_remember_4 (by decide) ?_
  refine lv_icmp_ne (tgt := 25) hx hb dX1_remember_6 (by decide) (fun c1 => ?_) (fun c1 => ?_)
  · replace h := zf c1 h
    refine lv_aload_n hx hb dX1_remember_25 rfl (lv_at hl 0 rfl) ?_
    refine lv_dup hx hb dX1_remember_26 rfl ?_
    refine va_get (ci := 1) (v := .int pz) (C := RX1) (T := TX1) (N := 3) hx hb hts uX1_remember_X1 hown hK hP 0 rfl rfl 2 (by decide) (hts _ mX1_remember_18) (fun _ h9 => h9) rfl dX1_remember_27 ?_
    refine lv_iconst (v := 1) hx hb dX1_remember_30 (by decide) ?_
    refine lv_iadd hx hb dX1_remember_31 ?_
    refine va_put (ci := 1) (v := .int (pz + 1)) (ty := .int) (C := RX1) (T := TX1) (N := 3) hx hb hts uX1_remember_X1 tyX1 tyX1_ok nmX1 hown hK hP hD hS 0 rfl rfl 2 (by decide) (hts _ mX1_remember_18) (fun _ h9 => h9) rfl (by decide +kernel) rfl rfl (Nat.le_of_ble_eq_true rfl) dX1_remember_32 (fun H locs hP hD hS => ?_)
    replace hP : zP g (zPR g h0 h1 k0 k1 k2 k3 k4 ad ol (pz + 1) dvs bo pFo pLo sto tmo qto cmo dso dro) H := hP
    replace hD : va_D A (zPR g h0 h1 k0 k1 k2 k3 k4 ad ol (pz + 1) dvs bo pFo pLo sto tmo qto cmo dso dro) := hD
    exact tail ol (pz + 1) h H locs hP hD hS ls hl
  · replace h := zt c1 h
    refine lv_aload_n hx hb dX1_remember_9 rfl (lv_at hl 0 rfl) ?_
    refine lv_aload_n hx hb dX1_remember_10 rfl (lv_at hl 0 rfl) ?_
    refine va_get (ci := 1) (v := .int ol) (C := RX1) (T := TX1) (N := 3) hx hb hts uX1_remember_X1 hown hK hP 0 rfl rfl 1 (by decide) (hts _ mX1_remember_22) (fun _ h9 => h9) rfl dX1_remember_11 ?_
    refine lv_iconst (v := 1) hx hb dX1_remember_14 (by decide) ?_
    refine lv_iadd hx hb dX1_remember_15 ?_
    refine lv_bipush (v := 14) hx hb dX1_remember_16 (by decide) ?_
    refine lv_irem hx hb dX1_remember_18 (by decide) ?_
    refine va_put (ci := 1) (v := .int (irem (ol + 1) 14)) (ty := .int) (C := RX1) (T := TX1) (N := 3) hx hb hts uX1_remember_X1 tyX1 tyX1_ok nmX1 hown hK hP hD hS 0 rfl rfl 1 (by decide) (hts _ mX1_remember_22) (fun _ h9 => h9) rfl (by decide +kernel) rfl rfl (Nat.le_of_ble_eq_true rfl) dX1_remember_19 (fun H locs hP hD hS => ?_)
    replace hP : zP g (zPR g h0 h1 k0 k1 k2 k3 k4 ad (irem (ol + 1) 14) pz dvs bo pFo pLo sto tmo qto cmo dso dro) H := hP
    replace hD : va_D A (zPR g h0 h1 k0 k1 k2 k3 k4 ad (irem (ol + 1) 14) pz dvs bo pFo pLo sto tmo qto cmo dso dro) := hD
    refine lv_goto (tgt := 35) hx hb dX1_remember_22 (by decide) ?_
    exact tail (irem (ol + 1) 14) pz h H locs hP hD hS ls hl
def fX1_takeBack (ol pz : Int32) (dvs : Nat → zDv) (bo pFo pLo sto : Nat → Int32) : Option (Int32 × (Nat → Int32) × (Nat → Int32) × (Nat → Int32) × (Nat → Int32) × Int32 × Int32 × Int32 × Int32 × Int32) :=
  ob (fX1_newest ol pz) fun r1 =>
  if r1 < 0 ∨ 14 ≤ r1.toNatClampNeg then none else
  ob9 (fX0_copyFrom bo pFo pLo sto (dvs r1.toNatClampNeg).1 (dvs r1.toNatClampNeg).2.1 (dvs r1.toNatClampNeg).2.2.1 (dvs r1.toNatClampNeg).2.2.2.1 (dvs r1.toNatClampNeg).2.2.2.2.1 (dvs r1.toNatClampNeg).2.2.2.2.2.1 (dvs r1.toNatClampNeg).2.2.2.2.2.2.1 (dvs r1.toNatClampNeg).2.2.2.2.2.2.2.1 (dvs r1.toNatClampNeg).2.2.2.2.2.2.2.2) fun b1 pF1 pL1 st1 tm1 qt1 cm1 ds1 dr1 =>
  some (pz - 1, b1, pF1, pL1, st1, tm1, qt1, cm1, ds1, dr1)
set_option maxRecDepth 100000 in
set_option maxHeartbeats 4000000 in
theorem kX1_takeBack (l : Launch) (g : zG) (h0 h1 k0 k1 k2 k3 k4 : Nat) (ad : Nat → Nat → Nat) (ol pz : Int32) (dvs : Nat → zDv) (bo pFo pLo sto : Nat → Int32) (tmo qto cmo dso dro : Int32) {pz' : Int32} {bo' pFo' pLo' sto' : Nat → Int32} {tmo' qto' cmo' dso' dro' : Int32} (h : fX1_takeBack ol pz dvs bo pFo pLo sto = some (pz', bo', pFo', pLo', sto', tmo', qto', cmo', dso', dro')) : Mw l g yX1_takeBack wsX1_takeBack { frames := 2, cells := 0, slots := 0, locals := 61 } [.ref h0, .ref k0] (zPR g h0 h1 k0 k1 k2 k3 k4 ad ol pz dvs bo pFo pLo sto tmo qto cmo dso dro) (zWv g (zPR g h0 h1 k0 k1 k2 k3 k4 ad ol pz' dvs bo' pFo' pLo' sto' tmo' qto' cmo' dso' dro')) := by
  refine zw_in (cc := cX1_takeBack) (maxL := 2) (ret := none) (by decide) rfl (Nat.le_of_ble_eq_true rfl) ?_
  intro p e s m below meth c hx hb hr hml hts hown hlocks hK A hA hP hD hS ls hl
  replace hl : lv_has ls 2 [(0, .ref h0), (1, .ref k0)] := hl
  unfold fX1_takeBack at h
  refine lv_aload_n hx hb dX1_takeBack_0 rfl (lv_at hl 1 rfl) ?_
  refine lv_aload_n hx hb dX1_takeBack_1 rfl (lv_at hl 0 rfl) ?_
  refine va_get (ci := 1) (v := .ref h1) (C := RX1) (T := TX1) (N := 3) hx hb hts uX1_takeBack_X1 hown hK hP 0 rfl rfl 0 (by decide) (hts _ mX1_takeBack_11) (fun _ h9 => h9) rfl dX1_takeBack_2 ?_
  refine lv_aload_n hx hb dX1_takeBack_5 rfl (lv_at hl 0 rfl) ?_
  obtain ⟨r1, e1, h⟩ := zb h
  refine zV (As := []) (rest := [.ref h1, .ref k0]) (zQi_q _) ⟨hx, hb, hml, hown, hts⟩ (kX1_newest l g h0 (.ref h1) ol pz e1) (cwV 0 hts gX1_takeBack_X1_newest rfl rfl rfl hdV_X1_newest ⟨Nat.le_of_ble_eq_true rfl, Nat.le_of_ble_eq_true rfl⟩) hK hP [0] rfl 0 rfl rfl rfl hl.1 rfl (Nat.le_of_ble_eq_true rfl) ⟨Nat.zero_le _, Nat.zero_le _⟩ dX1_takeBack_6 ?_
  obtain ⟨i2, h⟩ := zi h
  refine va_aldq hx hb hK hP 1 3 rfl rfl i2 dX1_takeBack_9 ?_
  refine W.eq (g2 := F0 m 10 ls [.ref (ad r1.toNatClampNeg 0), .ref k0]) rfl ?_
  obtain ⟨b1, pF1, pL1, st1, tm1, qt1, cm1, ds1, dr1, e3, h⟩ := zb9 h
  have hj : r1.toNatClampNeg < 14 := Nat.not_le.mp fun q => i2 (Or.inr q)
  generalize hje : r1.toNatClampNeg = j at hj h e3 ⊢
  have ha : ∀ t, t < 5 → ((zPR g h0 h1 k0 k1 k2 k3 k4 ad ol pz dvs bo pFo pLo sto tmo qto cmo dso dro))[7 + (5 * j + t)]? = (zDw g (ad j) (dvs j))[t]? := fun t ht => zpool_at7 g ad dvs [(h0, .inr (1, [.ref h1, .int ol, .int pz])), (h1, .inl (g.2.2.2.2.1, 14, .inr (.inr (.inr (.inr (fun i => some (ad i 0))))))), (k0, .inr (0, [.ref k1, .ref k2, .ref k3, .ref k4, .int tmo, .int qto, .int cmo, .int dso, .int dro])), (k1, .inl (g.2.1, 256, .inl bo)), (k2, .inl (g.2.1, 3, .inl pFo)), (k3, .inl (g.2.1, 3, .inl pLo)), (k4, .inl (g.2.1, 6, .inl sto))] j t rfl hj ht
  refine zVw (As := [.ref (ad j 0)]) (rest := []) (zWv_q g _) ⟨hx, hb, hml, hown, hts⟩ (kX0_copyFrom l g k0 k1 k2 k3 k4 (ad j 0) (ad j 1) (ad j 2) (ad j 3) (ad j 4) bo pFo pLo sto tmo qto cmo dso dro (dvs j).1 (dvs j).2.1 (dvs j).2.2.1 (dvs j).2.2.2.1 (dvs j).2.2.2.2.1 (dvs j).2.2.2.2.2.1 (dvs j).2.2.2.2.2.2.1 (dvs j).2.2.2.2.2.2.2.1 (dvs j).2.2.2.2.2.2.2.2 e3) (cwV 1 hts gX1_takeBack_X0_copyFrom rfl rfl rfl hdV_X0_copyFrom ⟨Nat.le_of_ble_eq_true rfl, Nat.le_of_ble_eq_true rfl⟩) hK hP hD hS hA [2, 3, 4, 5, 6, 7 + (5 * j + 0), 7 + (5 * j + 1), 7 + (5 * j + 2), 7 + (5 * j + 3), 7 + (5 * j + 4)] (by simp [va_nd]; omega) (by simp only [List.map_cons, List.map_nil]; rw [ha 0 (by omega), ha 1 (by omega), ha 2 (by omega), ha 3 (by omega), ha 4 (by omega)]; rfl) rfl 2 rfl rfl rfl hl.1 rfl (Nat.le_of_ble_eq_true rfl) ⟨Nat.zero_le _, Nat.zero_le _⟩ dX1_takeBack_10 (fun H locs hP hD hS => ?_)
  have hz : zput (zPR g h0 h1 k0 k1 k2 k3 k4 ad ol pz dvs bo pFo pLo sto tmo qto cmo dso dro) [2, 3, 4, 5, 6, 7 + (5 * j + 0), 7 + (5 * j + 1), 7 + (5 * j + 2), 7 + (5 * j + 3), 7 + (5 * j + 4)] (zDD g k0 k1 k2 k3 k4 (ad j 0) (ad j 1) (ad j 2) (ad j 3) (ad j 4) b1 pF1 pL1 st1 tm1 qt1 cm1 ds1 dr1 (dvs j).1 (dvs j).2.1 (dvs j).2.2.1 (dvs j).2.2.2.1 (dvs j).2.2.2.2.1 (dvs j).2.2.2.2.2.1 (dvs j).2.2.2.2.2.2.1 (dvs j).2.2.2.2.2.2.2.1 (dvs j).2.2.2.2.2.2.2.2) = (zPR g h0 h1 k0 k1 k2 k3 k4 ad ol pz dvs b1 pF1 pL1 st1 tm1 qt1 cm1 ds1 dr1) := by
    show zput ([(h0, .inr (1, [.ref h1, .int ol, .int pz])), (h1, .inl (g.2.2.2.2.1, 14, .inr (.inr (.inr (.inr (fun i => some (ad i 0))))))), (k0, .inr (0, [.ref k1, .ref k2, .ref k3, .ref k4, .int tm1, .int qt1, .int cm1, .int ds1, .int dr1])), (k1, .inl (g.2.1, 256, .inl b1)), (k2, .inl (g.2.1, 3, .inl pF1)), (k3, .inl (g.2.1, 3, .inl pL1)), (k4, .inl (g.2.1, 6, .inl st1))] ++ zpool g ad dvs 14) [7 + (5 * j + 0), 7 + (5 * j + 1), 7 + (5 * j + 2), 7 + (5 * j + 3), 7 + (5 * j + 4)] (zDw g (ad j) (dvs j)) = _
    rw [zput7 _ _ _ j rfl, zpool_same g ad dvs j 14 hj]
  replace hP : zP g (zPR g h0 h1 k0 k1 k2 k3 k4 ad ol pz dvs b1 pF1 pL1 st1 tm1 qt1 cm1 ds1 dr1) H := by rw [← hz]; exact hP
  replace hD : va_D A (zPR g h0 h1 k0 k1 k2 k3 k4 ad ol pz dvs b1 pF1 pL1 st1 tm1 qt1 cm1 ds1 dr1) := by rw [← hz]; exact hD
  refine lv_aload_n hx hb dX1_takeBack_13 rfl (lv_at hl 0 rfl) ?_
  refine lv_dup hx hb dX1_takeBack_14 rfl ?_
  refine va_get (ci := 1) (v := .int pz) (C := RX1) (T := TX1) (N := 3) hx hb hts uX1_takeBack_X1 hown hK hP 0 rfl rfl 2 (by decide) (hts _ mX1_takeBack_18) (fun _ h9 => h9) rfl dX1_takeBack_15 ?_
  refine lv_iconst (v := 1) hx hb dX1_takeBack_18 (by decide) ?_
  refine lv_isub hx hb dX1_takeBack_19 ?_
  refine va_put (ci := 1) (v := .int (pz - 1)) (ty := .int) (C := RX1) (T := TX1) (N := 3) hx hb hts uX1_takeBack_X1 tyX1 tyX1_ok nmX1 hown hK hP hD hS 0 rfl rfl 2 (by decide) (hts _ mX1_takeBack_18) (fun _ h9 => h9) rfl (by decide +kernel) rfl rfl (Nat.le_of_ble_eq_true rfl) dX1_takeBack_20 (fun H locs hP hD hS => ?_)
  replace hP : zP g (zPR g h0 h1 k0 k1 k2 k3 k4 ad ol (pz - 1) dvs b1 pF1 pL1 st1 tm1 qt1 cm1 ds1 dr1) H := hP
  replace hD : va_D A (zPR g h0 h1 k0 k1 k2 k3 k4 ad ol (pz - 1) dvs b1 pF1 pL1 st1 tm1 qt1 cm1 ds1 dr1) := hD
  cases h
  exact zw_v hx hb hr hlocks hP hS dX1_takeBack_23
