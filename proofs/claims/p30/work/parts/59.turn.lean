/-! the acts: alike before, alike behind, one answer -/
def RF_act (e : zRS) (x : Int32) : Int32 × zRS :=
  if (irem x 16) = 0 then RF_write e (irem (x / 16) 256) (1 + (irem (x / 4096) 20)) else if (irem x 16) = 1 then RF_write e (irem (x / 16) 256) (1 + (irem (x / 4096) 20)) else if (irem x 16) = 2 then RF_write e (irem (x / 16) 256) (1 + (irem (x / 4096) 20)) else if (irem x 16) = 3 then RF_free e (irem (x / 16) 256) (1 + (irem (x / 4096) 20)) else if (irem x 16) = 4 then RF_free e (irem (x / 16) 256) (1 + (irem (x / 4096) 20)) else if (irem x 16) = 5 then RF_free e (irem (x / 16) 256) (1 + (irem (x / 4096) 20)) else if (irem x 16) = 6 then RF_free e (irem (x / 16) 256) (1 + (irem (x / 4096) 20)) else if (irem x 16) = 7 then RF_pin e (irem (x / 16) 3) (irem (x / 16) 256) (1 + (irem (x / 4096) 20)) else if (irem x 16) = 8 then RF_unpin e (irem (x / 16) 3) else if (irem x 16) = 9 then RF_set e (irem (x / 16) 6) (irem (x / 128) 9) else if (irem x 16) = 10 then RF_undo e else if (irem x 16) = 11 then RF_save e (irem (x / 16) 2) else if (irem x 16) = 12 then RF_restore e (irem (x / 16) 2) else if (irem x 16) = 13 then (if (irem (x / 16) 4) = 0 then RF_flush e else RF_run e (1 + (irem (x / 64) 20))) else RF_run e (1 + (irem (x / 16) 6))
set_option maxHeartbeats 1000000 in
theorem act_ok {v : zXS} {e : zRS} {B : Nat} (h : LK v e B) (hB : B + 200 < 2147483647) (x : Int32) : ∃ v2, fL_act v x = some ((RF_act e x).1, v2) ∧ LK v2 (RF_act e x).2 (B + 60) := by
  unfold fL_act RF_act
  by_cases c0 : irem x 16 = 0
  · rw [if_pos c0, if_pos c0, call_7, ob2_id]
    obtain ⟨v2, e1, h2⟩ := lk_write h _ _
    exact ⟨v2, e1, h2.mono (by omega)⟩
  rw [if_neg c0, if_neg c0]
  by_cases c1 : irem x 16 = 1
  · rw [if_pos c1, if_pos c1, call_7, ob2_id]
    obtain ⟨v2, e1, h2⟩ := lk_write h _ _
    exact ⟨v2, e1, h2.mono (by omega)⟩
  rw [if_neg c1, if_neg c1]
  by_cases c2 : irem x 16 = 2
  · rw [if_pos c2, if_pos c2, call_7, ob2_id]
    obtain ⟨v2, e1, h2⟩ := lk_write h _ _
    exact ⟨v2, e1, h2.mono (by omega)⟩
  rw [if_neg c2, if_neg c2]
  by_cases c3 : irem x 16 = 3
  · rw [if_pos c3, if_pos c3, call_8, ob2_id]
    obtain ⟨v2, e1, h2⟩ := lk_free h (by omega) _ _
    exact ⟨v2, e1, h2.mono (by omega)⟩
  rw [if_neg c3, if_neg c3]
  by_cases c4 : irem x 16 = 4
  · rw [if_pos c4, if_pos c4, call_8, ob2_id]
    obtain ⟨v2, e1, h2⟩ := lk_free h (by omega) _ _
    exact ⟨v2, e1, h2.mono (by omega)⟩
  rw [if_neg c4, if_neg c4]
  by_cases c5 : irem x 16 = 5
  · rw [if_pos c5, if_pos c5, call_8, ob2_id]
    obtain ⟨v2, e1, h2⟩ := lk_free h (by omega) _ _
    exact ⟨v2, e1, h2.mono (by omega)⟩
  rw [if_neg c5, if_neg c5]
  by_cases c6 : irem x 16 = 6
  · rw [if_pos c6, if_pos c6, call_8, ob2_id]
    obtain ⟨v2, e1, h2⟩ := lk_free h (by omega) _ _
    exact ⟨v2, e1, h2.mono (by omega)⟩
  rw [if_neg c6, if_neg c6]
  by_cases c7 : irem x 16 = 7
  · rw [if_pos c7, if_pos c7, call_9, ob2_id]
    obtain ⟨v2, e1, h2⟩ := lk_pin h _ _ _
    exact ⟨v2, e1, h2.mono (by omega)⟩
  rw [if_neg c7, if_neg c7]
  by_cases c8 : irem x 16 = 8
  · rw [if_pos c8, if_pos c8, call_10, ob2_id]
    obtain ⟨v2, e1, h2⟩ := lk_unpin h _
    exact ⟨v2, e1, h2.mono (by omega)⟩
  rw [if_neg c8, if_neg c8]
  by_cases c9 : irem x 16 = 9
  · rw [if_pos c9, if_pos c9, call_12, ob2_id]
    obtain ⟨v2, e1, h2⟩ := lk_set h _ _
    exact ⟨v2, e1, h2.mono (by omega)⟩
  rw [if_neg c9, if_neg c9]
  by_cases c10 : irem x 16 = 10
  · rw [if_pos c10, if_pos c10, call_13, ob2_id]
    obtain ⟨v2, e1, h2⟩ := lk_undo h
    exact ⟨v2, e1, h2.mono (by omega)⟩
  rw [if_neg c10, if_neg c10]
  by_cases c11 : irem x 16 = 11
  · rw [if_pos c11, if_pos c11, call_19, ob2_id]
    obtain ⟨v2, e1, h2⟩ := lk_save h _
    exact ⟨v2, e1, h2.mono (by omega)⟩
  rw [if_neg c11, if_neg c11]
  by_cases c12 : irem x 16 = 12
  · rw [if_pos c12, if_pos c12, call_20, ob2_id]
    obtain ⟨v2, e1, h2⟩ := lk_restore h _
    exact ⟨v2, e1, h2.mono (by omega)⟩
  rw [if_neg c12, if_neg c12]
  by_cases c13 : irem x 16 = 13
  · rw [if_pos c13, if_pos c13]
    by_cases c : irem (x / 16) 4 = 0
    · rw [if_pos c, if_pos c, ob2_id]
      obtain ⟨v2, e1, h2⟩ := lk_flush h
      exact ⟨v2, e1, h2.mono (by omega)⟩
    · rw [if_neg c, if_neg c, call_11, ob2_id]
      exact lk_run h (by omega) _
  rw [if_neg c13, if_neg c13, call_11, ob2_id]
  exact lk_run h (by omega) _
/-! two devices that are alike look alike -/
section AL
variable {e : zRS} {B : Nat} {vo vq : zXS} (ho : LK vo e B) (hq : LK vq e B)
theorem al_173 (ho : LK vo e B) (hq : LK vq e B) (x : Int32) : ∀ m k n, k + m = 16 → m < n → fL_alike_173 n x 1 (Int32.ofNat k) vo vq = some (1, vo, vq) := by
  intro m
  induction m with
  | zero =>
    intro k n hk hn
    obtain ⟨n, rfl⟩ := zfuel hn
    obtain rfl : k = 16 := by omega
    rw [fL_alike_173, if_pos (show (16 : Int32) ≤ Int32.ofNat 16 by decide), if_neg (by decide)]
  | succ m ih =>
    intro k n hk hn
    obtain ⟨n, rfl⟩ := zfuel hn
    rw [fL_alike_173, if_neg (show ¬ (16 : Int32) ≤ Int32.ofNat k from fun q => by have := (zN_le (a := 16) (by omega) (by omega)).mp q; omega), if_neg n10]
    simp only [call_4, call_3, lk_range ho, lk_range hq, lk_block ho, lk_block hq, ob2_some, if_true, zN_1]
    exact ih (k + 1) n (by omega) (by omega)
theorem al_78 (ho : LK vo e B) (hq : LK vq e B) (x : Int32) : ∀ m k n, k + m = 11 → m < n → fL_alike_78 n x 1 (Int32.ofNat k) vo vq = some (1, vo, vq) := by
  intro m
  induction m with
  | zero =>
    intro k n hk hn
    obtain ⟨n, rfl⟩ := zfuel hn
    obtain rfl : k = 11 := by omega
    rw [fL_alike_78, if_pos (show (11 : Int32) ≤ Int32.ofNat 11 by decide)]
    exact al_173 ho hq x 16 0 17 rfl (by omega)
  | succ m ih =>
    intro k n hk hn
    obtain ⟨n, rfl⟩ := zfuel hn
    rw [fL_alike_78, if_neg (show ¬ (11 : Int32) ≤ Int32.ofNat k from fun q => by have := (zN_le (a := 11) (by omega) (by omega)).mp q; omega), if_neg n10]
    simp only [call_2, call_6, call_5, lk_about ho, lk_about hq, lk_setting ho, lk_setting hq, lk_pinned ho, lk_pinned hq, ob2_some, if_true, zN_1]
    exact ih (k + 1) n (by omega) (by omega)
theorem alike_ok (ho : LK vo e B) (hq : LK vq e B) (hB : B + 4000 < 2147483647) (x : Int32) : ∃ vo2 vq2, fL_alike vo vq x = some (1, vo2, vq2) ∧ LK vo2 e B ∧ LK vq2 e B := by
  obtain ⟨o1, e1, h1⟩ := lk_simulate ho hB x.toInt64 (1 + (irem x 9))
  obtain ⟨q1, e2, h2⟩ := lk_simulate hq hB x.toInt64 (1 + (irem x 9))
  obtain ⟨o2, e3, h3⟩ := lk_bestGranule h1 (by omega) (1 + (irem x 9))
  obtain ⟨q2, e4, h4⟩ := lk_bestGranule h2 (by omega) (1 + (irem x 9))
  unfold fL_alike
  rw [e1, ob2_some, e2, ob2_some, if_pos rfl, lk_stuck h1, ob_some, lk_stuck h2, ob_some, if_pos rfl, call_17, e3, ob2_some, call_17, e4, ob2_some, if_pos rfl]
  exact ⟨o2, q2, al_78 h3 h4 x 11 0 12 rfl (by omega), h3, h4⟩
end AL

/-! ticks as they were told, and their undo -/
theorem thrown_no {r : Int32} (h : 0 ≤ r.toInt) : fL_thrown r = some 0 := by
  unfold fL_thrown
  rw [if_neg (fun q => by rw [q, show (-9999001 : Int32).toInt = -9999001 by decide] at h; omega), if_neg (fun q => by rw [q, show (-9999002 : Int32).toInt = -9999002 by decide] at h; omega), if_neg (fun q => by rw [q, show (-9999003 : Int32).toInt = -9999003 by decide] at h; omega)]
theorem rem_new {ol pz : Int32} {dvs : Nat → zDv} {b pF pL st : Nat → Int32} {tm qt cm ds dr : Int32} {ol2 pz2 : Int32} {dvs2 : Nat → zDv} (h : fX1_rem ol pz dvs b pF pL st tm qt cm ds dr = some (ol2, pz2, dvs2)) : pz2 = pz ∧ ∃ r b1 pF1 pL1 st1, fX1_newest ol2 pz2 = some r ∧ dvs2 r.toNatClampNeg = (b1, pF1, pL1, st1, tm, qt, cm, ds, dr) ∧ ∀ i, i < 256 → b1 i = b i := by
  unfold fX1_rem at h
  obtain ⟨r1, e1, h⟩ := zb h
  obtain ⟨-, h⟩ := zi h
  obtain ⟨b1, pF1, pL1, st1, tm1, qt1, cm1, ds1, dr1, e, h⟩ := zb9 h
  unfold fX0_copyFrom at e
  cases e
  cases h
  exact ⟨rfl, r1, _, _, _, _, e1, if_pos rfl, fun i hi => cpy_at _ _ hi⟩
theorem remember_new {ol pz : Int32} {dvs : Nat → zDv} {b pF pL st : Nat → Int32} {tm qt cm ds dr : Int32} {ol2 pz2 : Int32} {dvs2 : Nat → zDv} (h : fX1_remember ol pz dvs b pF pL st tm qt cm ds dr = some (ol2, pz2, dvs2)) : pz2 = (if pz = 14 then pz else pz + 1) ∧ ∃ r b1 pF1 pL1 st1, fX1_newest ol2 pz2 = some r ∧ dvs2 r.toNatClampNeg = (b1, pF1, pL1, st1, tm, qt, cm, ds, dr) ∧ ∀ i, i < 256 → b1 i = b i := by
  unfold fX1_remember at h
  by_cases c : pz = 14
  · rw [if_pos c]
    exact rem_new (zt c h)
  · rw [if_neg c]
    exact rem_new (zf c h)
theorem take_new {ol pz : Int32} {dvs : Nat → zDv} {bo pFo pLo sto : Nat → Int32} {pz3 : Int32} {b3 pF3 pL3 st3 : Nat → Int32} {tm3 qt3 cm3 ds3 dr3 : Int32} (h : fX1_takeBack ol pz dvs bo pFo pLo sto = some (pz3, b3, pF3, pL3, st3, tm3, qt3, cm3, ds3, dr3)) {r : Int32} (hr : fX1_newest ol pz = some r) {b pF pL st : Nat → Int32} {tm qt cm ds dr : Int32} (hd : dvs r.toNatClampNeg = (b, pF, pL, st, tm, qt, cm, ds, dr)) : pz3 = pz - 1 ∧ cm3 = cm ∧ ∀ i, i < 256 → b3 i = b i := by
  unfold fX1_takeBack at h
  rw [hr, ob_some] at h
  obtain ⟨-, h⟩ := zi h
  rw [hd] at h
  obtain ⟨b1, pF1, pL1, st1, tm1, qt1, cm1, ds1, dr1, e, h⟩ := zb9 h
  unfold fX0_copyFrom at e
  cases e
  cases h
  exact ⟨rfl, rfl, fun i hi => cpy_at _ _ hi⟩

set_option maxHeartbeats 1000000 in
/-- a run, and its undo, over contents whose device is known -/
theorem run_undo {v : zXS} {e : zRS} {B : Nat} (hL : LK v e B) {b pF pL st : Nat → Int32} {T : Nat} {qt cm ds dr : Int32} (hd : zDev v = (b, pF, pL, st, Int32.ofNat T, qt, cm, ds, dr)) (hp : PV pF pL) (hS : SV st) (hI : IV b (Int32.ofNat T)) (hT : T + 200 < 2147483648) {n : Nat} (h1 : 1 ≤ n) (hn : n ≤ 12) {r : Int32} {v2 : zXS} (h : fL_tryRun v (Int32.ofNat n) = some (r, v2)) :
    r = (tkn pF pL st (b, Int32.ofNat T, qt, cm, ds, dr) n).2.2.2.2.1 - ds ∧ zDev v2 = ((tkn pF pL st (b, Int32.ofNat T, qt, cm, ds, dr) n).1, pF, pL, st, (tkn pF pL st (b, Int32.ofNat T, qt, cm, ds, dr) n).2) ∧ ∀ r3 v3, fL_tryUndo v2 = some (r3, v3) → 0 ≤ r3.toInt ∧ ∃ b3 pF3 pL3 st3 tm3 qt3 ds3 dr3, zDev v3 = (b3, pF3, pL3, st3, tm3, qt3, cm, ds3, dr3) ∧ ∀ i, i < 256 → b3 i = b i := by
  obtain ⟨ch, nu, le, ta, lt, ⟨b', pF', pL', st', tm', qt', cm', ds', dr'⟩, ⟨bC, pFC, pLC, stC, tmC, qtC, cmC, dsC, drC⟩, ol, pz, dvs, us, ⟨bS, pFS, pLS, stS, tmS, qtS, cmS, dsS, drS⟩, ⟨bT, pFT, pLT, stT, tmT, qtT, cmT, dsT, drT⟩⟩ := v
  replace hd : (b', pF', pL', st', tm', qt', cm', ds', dr') = (b, pF, pL, st, Int32.ofNat T, qt, cm, ds, dr) := hd
  cases hd
  obtain ⟨⟨-, ⟨-, O, Pp, g1, g2, g3, g4, g5, g6⟩, -⟩, -⟩ := hL
  replace g4 : pz = Int32.ofNat Pp := g4
  replace h : ob11 (fX3_run b pF pL st (Int32.ofNat T) qt cm ds dr ol pz dvs (Int32.ofNat n)) (fun k r b2 tm2 qt2 cm2 ds2 dr2 ol2 pz2 dvs2 => if k = 0 then some (r, (ch, nu, le, ta, lt, (b2, pF, pL, st, tm2, qt2, cm2, ds2, dr2), (bC, pFC, pLC, stC, tmC, qtC, cmC, dsC, drC), ol2, pz2, dvs2, us, (bS, pFS, pLS, stS, tmS, qtS, cmS, dsS, drS), (bT, pFT, pLT, stT, tmT, qtT, cmT, dsT, drT))) else if k = 2 then some ((-9999002), (ch, nu, le, ta, lt, (b2, pF, pL, st, tm2, qt2, cm2, ds2, dr2), (bC, pFC, pLC, stC, tmC, qtC, cmC, dsC, drC), ol2, pz2, dvs2, us, (bS, pFS, pLS, stS, tmS, qtS, cmS, dsS, drS), (bT, pFT, pLT, stT, tmT, qtT, cmT, dsT, drT))) else none) = some (r, v2) := h
  unfold fX3_run at h
  rw [cx_checkTicks, if_pos ⟨by rw [zN_toInt (by omega)]; omega, by rw [zN_toInt (by omega), i60]; omega⟩, ob_some, if_pos rfl] at h
  obtain ⟨k5, r5, b5, tm5, qt5, cm5, ds5, dr5, ol5, pz5, dvs5, e1, h⟩ := zb11 h
  obtain ⟨ol2, pz2, dvs2, e2, e1⟩ := zb3 e1
  rw [pass hp hS hI (show n ≤ 100 by omega) (show T + n < 2147483648 by omega)] at e1
  cases e1
  replace h := zt rfl h
  cases h
  refine ⟨rfl, rfl, fun r3 v3 hu => ?_⟩
  obtain ⟨hz2, rr, b1, pF1, pL1, st1, n1, n2, n3⟩ := remember_new e2
  have hz3 : ∃ P2 : Nat, 1 ≤ P2 ∧ P2 ≤ 14 ∧ pz5 = Int32.ofNat P2 := by
    rw [hz2, g4]
    by_cases c : Int32.ofNat Pp = 14
    · rw [if_pos c, c]; exact ⟨14, by omega, by omega, rfl⟩
    · rw [if_neg c, zN_1]
      have : Pp ≠ 14 := fun q => c (by rw [q]; rfl)
      exact ⟨Pp + 1, by omega, by omega, rfl⟩
  obtain ⟨P2, p1, p2, p3⟩ := hz3
  replace hu : ob12 (fX3_undo (tkn pF pL st (b, Int32.ofNat T, qt, cm, ds, dr) n).1 pF pL st (tkn pF pL st (b, Int32.ofNat T, qt, cm, ds, dr) n).2.1 (tkn pF pL st (b, Int32.ofNat T, qt, cm, ds, dr) n).2.2.1 (tkn pF pL st (b, Int32.ofNat T, qt, cm, ds, dr) n).2.2.2.1 (tkn pF pL st (b, Int32.ofNat T, qt, cm, ds, dr) n).2.2.2.2.1 (tkn pF pL st (b, Int32.ofNat T, qt, cm, ds, dr) n).2.2.2.2.2 ol5 pz5 dvs5) (fun k r b2 pF2 pL2 st2 tm2 qt2 cm2 ds2 dr2 pz2 => if k = 0 then some (r, (ch, nu, le, ta, lt, (b2, pF2, pL2, st2, tm2, qt2, cm2, ds2, dr2), (bC, pFC, pLC, stC, tmC, qtC, cmC, dsC, drC), ol5, pz2, dvs5, us, (bS, pFS, pLS, stS, tmS, qtS, cmS, dsS, drS), (bT, pFT, pLT, stT, tmT, qtT, cmT, dsT, drT))) else if k = 3 then some ((-9999003), (ch, nu, le, ta, lt, (b2, pF2, pL2, st2, tm2, qt2, cm2, ds2, dr2), (bC, pFC, pLC, stC, tmC, qtC, cmC, dsC, drC), ol5, pz2, dvs5, us, (bS, pFS, pLS, stS, tmS, qtS, cmS, dsS, drS), (bT, pFT, pLT, stT, tmT, qtT, cmT, dsT, drT))) else none) = some (r3, v3) := hu
  unfold fX3_undo fX1_size at hu
  rw [ob_some, if_neg (show ¬ pz5 = 0 by rw [p3]; exact nofne (c := 0) (by omega) (by omega) (by omega))] at hu
  obtain ⟨k6, r6, b6, pF6, pL6, st6, tm6, qt6, cm6, ds6, dr6, pz6, e3, hu⟩ := zb12 hu
  obtain ⟨pz7, b7, pF7, pL7, st7, tm7, qt7, cm7, ds7, dr7, e4, e3⟩ := zb10 e3
  rw [ob_some] at e3
  cases e3
  obtain ⟨t1, t2, t3⟩ := take_new e4 n1 n2
  replace hu := zt rfl hu
  cases hu
  refine ⟨?_, b6, pF6, pL6, st6, tm6, qt6, ds6, dr6, ?_, fun i hi => by rw [t3 i hi, n3 i hi]⟩
  · rw [t1, p3, show Int32.ofNat P2 - 1 = Int32.ofNat (P2 - 1) from zN_sub (c := 1) (by omega), zN_toInt (by omega)]
    omega
  · rw [← t2]
theorem pH_em (b : Nat → Int32) : cn (fun i => !decide (b i = -1)) 256 + em b = 256 := cn_not (fun i => decide (b i = -1)) 256

