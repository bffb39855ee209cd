/-! calls that are refused by their arguments leave everything as it was -/
theorem cb1 {x : Int32} (h : ¬ (0 ≤ x.toInt ∧ x.toInt ≤ 255)) : fX3_checkBlock x = some 1 := by
  unfold fX3_checkBlock
  rw [cx_isBlock, decide_eq_false h]
  rfl
theorem cb0 {x : Int32} (h : 0 ≤ x.toInt ∧ x.toInt ≤ 255) : fX3_checkBlock x = some 0 := by
  unfold fX3_checkBlock
  rw [cx_isBlock, decide_eq_true h]
  rfl
theorem cs1 {x y : Int32} (h : ¬ (0 ≤ x.toInt ∧ x.toInt ≤ 255)) : fX3_checkSpan x y = some 1 := by
  unfold fX3_checkSpan
  rw [cb1 h, ob_some, if_neg n10]
theorem cs2 {x y : Int32} (h : 0 ≤ x.toInt ∧ x.toInt ≤ 255) (h2 : ¬ (1 ≤ y.toInt ∧ y.toInt ≤ 99)) : fX3_checkSpan x y = some 2 := by
  unfold fX3_checkSpan
  rw [cb0 h, ob_some, if_pos rfl, cx_isLength, decide_eq_false h2]
  rfl
theorem cs3 {a n : Nat} (h : a ≤ 255) (h1 : 1 ≤ n) (h2 : n ≤ 99) (h3 : 256 < a + n) : fX3_checkSpan (Int32.ofNat a) (Int32.ofNat n) = some 3 := by
  have e : fX3_isSpan (Int32.ofNat a) (Int32.ofNat n) = some 0 := by
    unfold fX3_isSpan
    rw [cx_isBlock, zN_toInt (by omega), decide_eq_true (by omega), ob_some, if_neg (show ¬ bi true = 0 from n10), cx_isLength, zN_toInt (by omega), decide_eq_true (by omega), ob_some, if_neg (show ¬ bi true = 0 from n10), zN_add, if_pos (show (256 : Int32) < Int32.ofNat (a + n) from (zN_lt (a := 256) (by omega) (by omega)).mpr h3)]
  unfold fX3_checkSpan
  rw [cb0 (by rw [zN_toInt (by omega)]; omega), ob_some, if_pos rfl, cx_isLength, zN_toInt (by omega), decide_eq_true (by omega), ob_some, if_neg (show ¬ bi true = 0 from n10), e]
  rfl
theorem cp1 {x : Int32} (h : ¬ (0 ≤ x.toInt ∧ x.toInt ≤ 2)) : fX3_checkPin x = some 1 := by rw [cx_checkPin, if_neg h]
theorem cp0 {x : Int32} (h : 0 ≤ x.toInt ∧ x.toInt ≤ 2) : fX3_checkPin x = some 0 := by rw [cx_checkPin, if_pos h]
theorem ck2 {x m : Int32} (h : ¬ (1 ≤ x.toInt ∧ x.toInt ≤ m.toInt)) : fX3_checkTicks x m = some 2 := by rw [cx_checkTicks, if_neg h]
theorem ne_of {x : Int32} {k : Nat} (hk : k < 2147483648) (h : (k : Int) < x.toInt) : ¬ x = Int32.ofNat k := fun q => by
  rw [q, zN_toInt hk] at h
  omega
theorem th_append {v : zXS} {a2 : Int32} (h : a2.toInt < 0 ∨ 255 < a2.toInt) (a3 a4 : Int32) : fL_call v 0 a2 a3 a4 = some (-9999002, v) := by
  obtain ⟨ch, nu, le, ta, lt, ⟨b, pF, pL, st, tm, qt, cm, ds, dr⟩, ⟨bC, pFC, pLC, stC, tmC, qtC, cmC, dsC, drC⟩, ol, pz, dvs, us, ⟨bS, pFS, pLS, stS, tmS, qtS, cmS, dsS, drS⟩, ⟨bT, pFT, pLT, stT, tmT, qtT, cmT, dsT, drT⟩⟩ := v
  have e : fX3_append ch le a2 = some (2, 0, ch, le) := by
    unfold fX3_append
    by_cases c : a2 < 0
    · rw [if_pos c]
    · rw [if_neg c, if_neg (fun q => by
        rw [int_lt, i0] at c
        rw [int_le, show (255 : Int32).toInt = 255 by decide] at q
        omega)]
  rw [call_0]
  show ob4 (fX3_append ch le a2) (fun k r ch2 le2 => if k = 0 then some (r, (ch2, nu, le2, ta, lt, (b, pF, pL, st, tm, qt, cm, ds, dr), (bC, pFC, pLC, stC, tmC, qtC, cmC, dsC, drC), ol, pz, dvs, us, (bS, pFS, pLS, stS, tmS, qtS, cmS, dsS, drS), (bT, pFT, pLT, stT, tmT, qtT, cmT, dsT, drT))) else if k = 2 then some ((-9999002), (ch2, nu, le2, ta, lt, (b, pF, pL, st, tm, qt, cm, ds, dr), (bC, pFC, pLC, stC, tmC, qtC, cmC, dsC, drC), ol, pz, dvs, us, (bS, pFS, pLS, stS, tmS, qtS, cmS, dsS, drS), (bT, pFT, pLT, stT, tmT, qtT, cmT, dsT, drT))) else if k = 3 then some ((-9999003), (ch2, nu, le2, ta, lt, (b, pF, pL, st, tm, qt, cm, ds, dr), (bC, pFC, pLC, stC, tmC, qtC, cmC, dsC, drC), ol, pz, dvs, us, (bS, pFS, pLS, stS, tmS, qtS, cmS, dsS, drS), (bT, pFT, pLT, stT, tmT, qtT, cmT, dsT, drT))) else none) = _
  rw [e]
  rfl
theorem th_about {v : zXS} {a2 : Int32} (h : 10 < a2.toInt) (a3 a4 : Int32) : fL_call v 2 a2 a3 a4 = some (-9999002, v) := by
  obtain ⟨ch, nu, le, ta, lt, ⟨b, pF, pL, st, tm, qt, cm, ds, dr⟩, ⟨bC, pFC, pLC, stC, tmC, qtC, cmC, dsC, drC⟩, ol, pz, dvs, us, ⟨bS, pFS, pLS, stS, tmS, qtS, cmS, dsS, drS⟩, ⟨bT, pFT, pLT, stT, tmT, qtT, cmT, dsT, drT⟩⟩ := v
  have e : fX3_about b pF pL tm qt cm ds dr a2 = some (2, 0) := by
    unfold fX3_about
    rw [if_neg (show ¬ a2 = 0 from ne_of (k := 0) (by omega) (by omega)), if_neg (show ¬ a2 = 1 from ne_of (k := 1) (by omega) (by omega)), if_neg (show ¬ a2 = 2 from ne_of (k := 2) (by omega) (by omega)), if_neg (show ¬ a2 = 3 from ne_of (k := 3) (by omega) (by omega)), if_neg (show ¬ a2 = 4 from ne_of (k := 4) (by omega) (by omega)), if_neg (show ¬ a2 = 5 from ne_of (k := 5) (by omega) (by omega)), if_neg (show ¬ a2 = 6 from ne_of (k := 6) (by omega) (by omega)), if_neg (show ¬ a2 = 7 from ne_of (k := 7) (by omega) (by omega)), if_neg (show ¬ a2 = 8 from ne_of (k := 8) (by omega) (by omega)), if_neg (show ¬ a2 = 9 from ne_of (k := 9) (by omega) (by omega)), if_neg (show ¬ a2 = 10 from ne_of (k := 10) (by omega) (by omega))]
  rw [call_2]
  show ob2 (fX3_about b pF pL tm qt cm ds dr a2) (fun k r => if k = 0 then some (r, (ch, nu, le, ta, lt, (b, pF, pL, st, tm, qt, cm, ds, dr), (bC, pFC, pLC, stC, tmC, qtC, cmC, dsC, drC), ol, pz, dvs, us, (bS, pFS, pLS, stS, tmS, qtS, cmS, dsS, drS), (bT, pFT, pLT, stT, tmT, qtT, cmT, dsT, drT))) else if k = 2 then some ((-9999002), (ch, nu, le, ta, lt, (b, pF, pL, st, tm, qt, cm, ds, dr), (bC, pFC, pLC, stC, tmC, qtC, cmC, dsC, drC), ol, pz, dvs, us, (bS, pFS, pLS, stS, tmS, qtS, cmS, dsS, drS), (bT, pFT, pLT, stT, tmT, qtT, cmT, dsT, drT))) else none) = _
  rw [e]
  rfl
theorem th_block1 {v : zXS} {a2 a3 : Int32} (h : ¬ (0 ≤ a2.toInt ∧ a2.toInt ≤ 255)) (a4 : Int32) : fL_call v 3 a2 a3 a4 = some (-9999001, v) := by
  obtain ⟨ch, nu, le, ta, lt, ⟨b, pF, pL, st, tm, qt, cm, ds, dr⟩, ⟨bC, pFC, pLC, stC, tmC, qtC, cmC, dsC, drC⟩, ol, pz, dvs, us, ⟨bS, pFS, pLS, stS, tmS, qtS, cmS, dsS, drS⟩, ⟨bT, pFT, pLT, stT, tmT, qtT, cmT, dsT, drT⟩⟩ := v
  have e : fX3_block b pF pL a2 a3 = some (1, 0) := by
    unfold fX3_block
    rw [cb1 h, ob_some, if_neg n10]
  rw [call_3]
  show ob2 (fX3_block b pF pL a2 a3) (fun k r => if k = 0 then some (r, (ch, nu, le, ta, lt, (b, pF, pL, st, tm, qt, cm, ds, dr), (bC, pFC, pLC, stC, tmC, qtC, cmC, dsC, drC), ol, pz, dvs, us, (bS, pFS, pLS, stS, tmS, qtS, cmS, dsS, drS), (bT, pFT, pLT, stT, tmT, qtT, cmT, dsT, drT))) else if k = 1 then some ((-9999001), (ch, nu, le, ta, lt, (b, pF, pL, st, tm, qt, cm, ds, dr), (bC, pFC, pLC, stC, tmC, qtC, cmC, dsC, drC), ol, pz, dvs, us, (bS, pFS, pLS, stS, tmS, qtS, cmS, dsS, drS), (bT, pFT, pLT, stT, tmT, qtT, cmT, dsT, drT))) else if k = 2 then some ((-9999002), (ch, nu, le, ta, lt, (b, pF, pL, st, tm, qt, cm, ds, dr), (bC, pFC, pLC, stC, tmC, qtC, cmC, dsC, drC), ol, pz, dvs, us, (bS, pFS, pLS, stS, tmS, qtS, cmS, dsS, drS), (bT, pFT, pLT, stT, tmT, qtT, cmT, dsT, drT))) else none) = _
  rw [e]
  rfl
theorem th_block2 {v : zXS} {a2 a3 : Int32} (h : 0 ≤ a2.toInt ∧ a2.toInt ≤ 255) (h2 : 3 < a3.toInt) (a4 : Int32) : fL_call v 3 a2 a3 a4 = some (-9999002, v) := by
  obtain ⟨ch, nu, le, ta, lt, ⟨b, pF, pL, st, tm, qt, cm, ds, dr⟩, ⟨bC, pFC, pLC, stC, tmC, qtC, cmC, dsC, drC⟩, ol, pz, dvs, us, ⟨bS, pFS, pLS, stS, tmS, qtS, cmS, dsS, drS⟩, ⟨bT, pFT, pLT, stT, tmT, qtT, cmT, dsT, drT⟩⟩ := v
  have e : fX3_block b pF pL a2 a3 = some (2, 0) := by
    unfold fX3_block
    rw [cb0 h, ob_some, if_pos rfl, if_neg (show ¬ a3 = 0 from ne_of (k := 0) (by omega) (by omega)), if_neg (show ¬ a3 = 1 from ne_of (k := 1) (by omega) (by omega)), if_neg (show ¬ a3 = 2 from ne_of (k := 2) (by omega) (by omega)), if_neg (show ¬ a3 = 3 from ne_of (k := 3) (by omega) (by omega))]
  rw [call_3]
  show ob2 (fX3_block b pF pL a2 a3) (fun k r => if k = 0 then some (r, (ch, nu, le, ta, lt, (b, pF, pL, st, tm, qt, cm, ds, dr), (bC, pFC, pLC, stC, tmC, qtC, cmC, dsC, drC), ol, pz, dvs, us, (bS, pFS, pLS, stS, tmS, qtS, cmS, dsS, drS), (bT, pFT, pLT, stT, tmT, qtT, cmT, dsT, drT))) else if k = 1 then some ((-9999001), (ch, nu, le, ta, lt, (b, pF, pL, st, tm, qt, cm, ds, dr), (bC, pFC, pLC, stC, tmC, qtC, cmC, dsC, drC), ol, pz, dvs, us, (bS, pFS, pLS, stS, tmS, qtS, cmS, dsS, drS), (bT, pFT, pLT, stT, tmT, qtT, cmT, dsT, drT))) else if k = 2 then some ((-9999002), (ch, nu, le, ta, lt, (b, pF, pL, st, tm, qt, cm, ds, dr), (bC, pFC, pLC, stC, tmC, qtC, cmC, dsC, drC), ol, pz, dvs, us, (bS, pFS, pLS, stS, tmS, qtS, cmS, dsS, drS), (bT, pFT, pLT, stT, tmT, qtT, cmT, dsT, drT))) else none) = _
  rw [e]
  rfl
theorem th_range {v : zXS} {b pF pL st : Nat → Int32} {tm qt cm ds dr : Int32} (hd : zDev v = (b, pF, pL, st, tm, qt, cm, ds, dr)) {k : Nat} (hk : k < 2147483648) (h : cn (bg (zq b)) 256 ≤ k) (a3 a4 : Int32) : fL_call v 4 (Int32.ofNat k) a3 a4 = some (-9999001, v) := by
  have hR := cn_le (bg (zq b)) 256
  obtain ⟨ch, nu, le, ta, lt, ⟨b', pF', pL', st', tm', qt', cm', ds', dr'⟩, ⟨bC, pFC, pLC, stC, tmC, qtC, cmC, dsC, drC⟩, ol, pz, dvs, us, ⟨bS, pFS, pLS, stS, tmS, qtS, cmS, dsS, drS⟩, ⟨bT, pFT, pLT, stT, tmT, qtT, cmT, dsT, drT⟩⟩ := v
  replace hd : (b', pF', pL', st', tm', qt', cm', ds', dr') = (b, pF, pL, st, tm, qt, cm, ds, dr) := hd
  cases hd
  have e : fX3_range b pF pL st tm (Int32.ofNat k) a3 = some (1, 0) := by
    unfold fX3_range
    rw [if_neg (zN_neg hk), fx_countRanges, ob_some, if_neg (fun q => by have := (zN_lt hk (by omega)).mp q; omega)]
  rw [call_4]
  show ob2 (fX3_range b pF pL st tm (Int32.ofNat k) a3) (fun k r => if k = 0 then some (r, (ch, nu, le, ta, lt, (b, pF, pL, st, tm, qt, cm, ds, dr), (bC, pFC, pLC, stC, tmC, qtC, cmC, dsC, drC), ol, pz, dvs, us, (bS, pFS, pLS, stS, tmS, qtS, cmS, dsS, drS), (bT, pFT, pLT, stT, tmT, qtT, cmT, dsT, drT))) else if k = 1 then some ((-9999001), (ch, nu, le, ta, lt, (b, pF, pL, st, tm, qt, cm, ds, dr), (bC, pFC, pLC, stC, tmC, qtC, cmC, dsC, drC), ol, pz, dvs, us, (bS, pFS, pLS, stS, tmS, qtS, cmS, dsS, drS), (bT, pFT, pLT, stT, tmT, qtT, cmT, dsT, drT))) else if k = 2 then some ((-9999002), (ch, nu, le, ta, lt, (b, pF, pL, st, tm, qt, cm, ds, dr), (bC, pFC, pLC, stC, tmC, qtC, cmC, dsC, drC), ol, pz, dvs, us, (bS, pFS, pLS, stS, tmS, qtS, cmS, dsS, drS), (bT, pFT, pLT, stT, tmT, qtT, cmT, dsT, drT))) else none) = _
  rw [e]
  rfl
theorem th_pinned {v : zXS} {a2 a3 : Int32} (h : 2 < a2.toInt) (a4 : Int32) : fL_call v 5 a2 a3 a4 = some (-9999001, v) := by
  obtain ⟨ch, nu, le, ta, lt, ⟨b, pF, pL, st, tm, qt, cm, ds, dr⟩, ⟨bC, pFC, pLC, stC, tmC, qtC, cmC, dsC, drC⟩, ol, pz, dvs, us, ⟨bS, pFS, pLS, stS, tmS, qtS, cmS, dsS, drS⟩, ⟨bT, pFT, pLT, stT, tmT, qtT, cmT, dsT, drT⟩⟩ := v
  have e : fX3_pinned pF pL a2 a3 = some (1, 0) := by
    unfold fX3_pinned
    rw [cp1 (by omega), ob_some, if_neg n10]
  rw [call_5]
  show ob2 (fX3_pinned pF pL a2 a3) (fun k r => if k = 0 then some (r, (ch, nu, le, ta, lt, (b, pF, pL, st, tm, qt, cm, ds, dr), (bC, pFC, pLC, stC, tmC, qtC, cmC, dsC, drC), ol, pz, dvs, us, (bS, pFS, pLS, stS, tmS, qtS, cmS, dsS, drS), (bT, pFT, pLT, stT, tmT, qtT, cmT, dsT, drT))) else if k = 1 then some ((-9999001), (ch, nu, le, ta, lt, (b, pF, pL, st, tm, qt, cm, ds, dr), (bC, pFC, pLC, stC, tmC, qtC, cmC, dsC, drC), ol, pz, dvs, us, (bS, pFS, pLS, stS, tmS, qtS, cmS, dsS, drS), (bT, pFT, pLT, stT, tmT, qtT, cmT, dsT, drT))) else if k = 2 then some ((-9999002), (ch, nu, le, ta, lt, (b, pF, pL, st, tm, qt, cm, ds, dr), (bC, pFC, pLC, stC, tmC, qtC, cmC, dsC, drC), ol, pz, dvs, us, (bS, pFS, pLS, stS, tmS, qtS, cmS, dsS, drS), (bT, pFT, pLT, stT, tmT, qtT, cmT, dsT, drT))) else none) = _
  rw [e]
  rfl
theorem th_setting {v : zXS} {a2 : Int32} (h : 5 < a2.toInt) (a3 a4 : Int32) : fL_call v 6 a2 a3 a4 = some (-9999002, v) := by
  obtain ⟨ch, nu, le, ta, lt, ⟨b, pF, pL, st, tm, qt, cm, ds, dr⟩, ⟨bC, pFC, pLC, stC, tmC, qtC, cmC, dsC, drC⟩, ol, pz, dvs, us, ⟨bS, pFS, pLS, stS, tmS, qtS, cmS, dsS, drS⟩, ⟨bT, pFT, pLT, stT, tmT, qtT, cmT, dsT, drT⟩⟩ := v
  have e : fX3_setting st a2 = some (2, 0) := by
    unfold fX3_setting
    rw [cx_isSetting, decide_eq_false (by omega)]
    rfl
  rw [call_6]
  show ob2 (fX3_setting st a2) (fun k r => if k = 0 then some (r, (ch, nu, le, ta, lt, (b, pF, pL, st, tm, qt, cm, ds, dr), (bC, pFC, pLC, stC, tmC, qtC, cmC, dsC, drC), ol, pz, dvs, us, (bS, pFS, pLS, stS, tmS, qtS, cmS, dsS, drS), (bT, pFT, pLT, stT, tmT, qtT, cmT, dsT, drT))) else if k = 2 then some ((-9999002), (ch, nu, le, ta, lt, (b, pF, pL, st, tm, qt, cm, ds, dr), (bC, pFC, pLC, stC, tmC, qtC, cmC, dsC, drC), ol, pz, dvs, us, (bS, pFS, pLS, stS, tmS, qtS, cmS, dsS, drS), (bT, pFT, pLT, stT, tmT, qtT, cmT, dsT, drT))) else none) = _
  rw [e]
  rfl
theorem th_write1 {v : zXS} {a2 a3 : Int32} (h : ¬ (0 ≤ a2.toInt ∧ a2.toInt ≤ 255)) (a4 : Int32) : fL_call v 7 a2 a3 a4 = some (-9999001, v) := by
  obtain ⟨ch, nu, le, ta, lt, ⟨b, pF, pL, st, tm, qt, cm, ds, dr⟩, ⟨bC, pFC, pLC, stC, tmC, qtC, cmC, dsC, drC⟩, ol, pz, dvs, us, ⟨bS, pFS, pLS, stS, tmS, qtS, cmS, dsS, drS⟩, ⟨bT, pFT, pLT, stT, tmT, qtT, cmT, dsT, drT⟩⟩ := v
  have e : fX3_write b pF pL st tm qt cm ds dr ol pz dvs a2 a3 = some (1, 0, b, qt, dr, ol, pz, dvs) := by
    unfold fX3_write
    rw [cs1 h, ob_some, if_neg n10]
  rw [call_7]
  show ob8 (fX3_write b pF pL st tm qt cm ds dr ol pz dvs a2 a3) (fun k r b2 qt2 dr2 ol2 pz2 dvs2 => if k = 0 then some (r, (ch, nu, le, ta, lt, (b2, pF, pL, st, tm, qt2, cm, ds, dr2), (bC, pFC, pLC, stC, tmC, qtC, cmC, dsC, drC), ol2, pz2, dvs2, us, (bS, pFS, pLS, stS, tmS, qtS, cmS, dsS, drS), (bT, pFT, pLT, stT, tmT, qtT, cmT, dsT, drT))) else if k = 1 then some ((-9999001), (ch, nu, le, ta, lt, (b2, pF, pL, st, tm, qt2, cm, ds, dr2), (bC, pFC, pLC, stC, tmC, qtC, cmC, dsC, drC), ol2, pz2, dvs2, us, (bS, pFS, pLS, stS, tmS, qtS, cmS, dsS, drS), (bT, pFT, pLT, stT, tmT, qtT, cmT, dsT, drT))) else if k = 2 then some ((-9999002), (ch, nu, le, ta, lt, (b2, pF, pL, st, tm, qt2, cm, ds, dr2), (bC, pFC, pLC, stC, tmC, qtC, cmC, dsC, drC), ol2, pz2, dvs2, us, (bS, pFS, pLS, stS, tmS, qtS, cmS, dsS, drS), (bT, pFT, pLT, stT, tmT, qtT, cmT, dsT, drT))) else if k = 3 then some ((-9999003), (ch, nu, le, ta, lt, (b2, pF, pL, st, tm, qt2, cm, ds, dr2), (bC, pFC, pLC, stC, tmC, qtC, cmC, dsC, drC), ol2, pz2, dvs2, us, (bS, pFS, pLS, stS, tmS, qtS, cmS, dsS, drS), (bT, pFT, pLT, stT, tmT, qtT, cmT, dsT, drT))) else none) = _
  rw [e]
  rfl
theorem th_write2 {v : zXS} {a2 a3 : Int32} (h : 0 ≤ a2.toInt ∧ a2.toInt ≤ 255) (h2 : ¬ (1 ≤ a3.toInt ∧ a3.toInt ≤ 99)) (a4 : Int32) : fL_call v 7 a2 a3 a4 = some (-9999002, v) := by
  obtain ⟨ch, nu, le, ta, lt, ⟨b, pF, pL, st, tm, qt, cm, ds, dr⟩, ⟨bC, pFC, pLC, stC, tmC, qtC, cmC, dsC, drC⟩, ol, pz, dvs, us, ⟨bS, pFS, pLS, stS, tmS, qtS, cmS, dsS, drS⟩, ⟨bT, pFT, pLT, stT, tmT, qtT, cmT, dsT, drT⟩⟩ := v
  have e : fX3_write b pF pL st tm qt cm ds dr ol pz dvs a2 a3 = some (2, 0, b, qt, dr, ol, pz, dvs) := by
    unfold fX3_write
    rw [cs2 h h2, ob_some, if_neg (by decide)]
  rw [call_7]
  show ob8 (fX3_write b pF pL st tm qt cm ds dr ol pz dvs a2 a3) (fun k r b2 qt2 dr2 ol2 pz2 dvs2 => if k = 0 then some (r, (ch, nu, le, ta, lt, (b2, pF, pL, st, tm, qt2, cm, ds, dr2), (bC, pFC, pLC, stC, tmC, qtC, cmC, dsC, drC), ol2, pz2, dvs2, us, (bS, pFS, pLS, stS, tmS, qtS, cmS, dsS, drS), (bT, pFT, pLT, stT, tmT, qtT, cmT, dsT, drT))) else if k = 1 then some ((-9999001), (ch, nu, le, ta, lt, (b2, pF, pL, st, tm, qt2, cm, ds, dr2), (bC, pFC, pLC, stC, tmC, qtC, cmC, dsC, drC), ol2, pz2, dvs2, us, (bS, pFS, pLS, stS, tmS, qtS, cmS, dsS, drS), (bT, pFT, pLT, stT, tmT, qtT, cmT, dsT, drT))) else if k = 2 then some ((-9999002), (ch, nu, le, ta, lt, (b2, pF, pL, st, tm, qt2, cm, ds, dr2), (bC, pFC, pLC, stC, tmC, qtC, cmC, dsC, drC), ol2, pz2, dvs2, us, (bS, pFS, pLS, stS, tmS, qtS, cmS, dsS, drS), (bT, pFT, pLT, stT, tmT, qtT, cmT, dsT, drT))) else if k = 3 then some ((-9999003), (ch, nu, le, ta, lt, (b2, pF, pL, st, tm, qt2, cm, ds, dr2), (bC, pFC, pLC, stC, tmC, qtC, cmC, dsC, drC), ol2, pz2, dvs2, us, (bS, pFS, pLS, stS, tmS, qtS, cmS, dsS, drS), (bT, pFT, pLT, stT, tmT, qtT, cmT, dsT, drT))) else none) = _
  rw [e]
  rfl
theorem th_free1 {v : zXS} {a2 a3 : Int32} (h : ¬ (0 ≤ a2.toInt ∧ a2.toInt ≤ 255)) (a4 : Int32) : fL_call v 8 a2 a3 a4 = some (-9999001, v) := by
  obtain ⟨ch, nu, le, ta, lt, ⟨b, pF, pL, st, tm, qt, cm, ds, dr⟩, ⟨bC, pFC, pLC, stC, tmC, qtC, cmC, dsC, drC⟩, ol, pz, dvs, us, ⟨bS, pFS, pLS, stS, tmS, qtS, cmS, dsS, drS⟩, ⟨bT, pFT, pLT, stT, tmT, qtT, cmT, dsT, drT⟩⟩ := v
  have e : fX3_free b pF pL st tm qt cm ds dr ol pz dvs a2 a3 = some (1, 0, b, qt, dr, ol, pz, dvs) := by
    unfold fX3_free
    rw [cs1 h, ob_some, if_neg n10]
  rw [call_8]
  show ob8 (fX3_free b pF pL st tm qt cm ds dr ol pz dvs a2 a3) (fun k r b2 qt2 dr2 ol2 pz2 dvs2 => if k = 0 then some (r, (ch, nu, le, ta, lt, (b2, pF, pL, st, tm, qt2, cm, ds, dr2), (bC, pFC, pLC, stC, tmC, qtC, cmC, dsC, drC), ol2, pz2, dvs2, us, (bS, pFS, pLS, stS, tmS, qtS, cmS, dsS, drS), (bT, pFT, pLT, stT, tmT, qtT, cmT, dsT, drT))) else if k = 1 then some ((-9999001), (ch, nu, le, ta, lt, (b2, pF, pL, st, tm, qt2, cm, ds, dr2), (bC, pFC, pLC, stC, tmC, qtC, cmC, dsC, drC), ol2, pz2, dvs2, us, (bS, pFS, pLS, stS, tmS, qtS, cmS, dsS, drS), (bT, pFT, pLT, stT, tmT, qtT, cmT, dsT, drT))) else if k = 2 then some ((-9999002), (ch, nu, le, ta, lt, (b2, pF, pL, st, tm, qt2, cm, ds, dr2), (bC, pFC, pLC, stC, tmC, qtC, cmC, dsC, drC), ol2, pz2, dvs2, us, (bS, pFS, pLS, stS, tmS, qtS, cmS, dsS, drS), (bT, pFT, pLT, stT, tmT, qtT, cmT, dsT, drT))) else if k = 3 then some ((-9999003), (ch, nu, le, ta, lt, (b2, pF, pL, st, tm, qt2, cm, ds, dr2), (bC, pFC, pLC, stC, tmC, qtC, cmC, dsC, drC), ol2, pz2, dvs2, us, (bS, pFS, pLS, stS, tmS, qtS, cmS, dsS, drS), (bT, pFT, pLT, stT, tmT, qtT, cmT, dsT, drT))) else none) = _
  rw [e]
  rfl
theorem th_free2 {v : zXS} {a2 a3 : Int32} (h : 0 ≤ a2.toInt ∧ a2.toInt ≤ 255) (h2 : ¬ (1 ≤ a3.toInt ∧ a3.toInt ≤ 99)) (a4 : Int32) : fL_call v 8 a2 a3 a4 = some (-9999002, v) := by
  obtain ⟨ch, nu, le, ta, lt, ⟨b, pF, pL, st, tm, qt, cm, ds, dr⟩, ⟨bC, pFC, pLC, stC, tmC, qtC, cmC, dsC, drC⟩, ol, pz, dvs, us, ⟨bS, pFS, pLS, stS, tmS, qtS, cmS, dsS, drS⟩, ⟨bT, pFT, pLT, stT, tmT, qtT, cmT, dsT, drT⟩⟩ := v
  have e : fX3_free b pF pL st tm qt cm ds dr ol pz dvs a2 a3 = some (2, 0, b, qt, dr, ol, pz, dvs) := by
    unfold fX3_free
    rw [cs2 h h2, ob_some, if_neg (by decide)]
  rw [call_8]
  show ob8 (fX3_free b pF pL st tm qt cm ds dr ol pz dvs a2 a3) (fun k r b2 qt2 dr2 ol2 pz2 dvs2 => if k = 0 then some (r, (ch, nu, le, ta, lt, (b2, pF, pL, st, tm, qt2, cm, ds, dr2), (bC, pFC, pLC, stC, tmC, qtC, cmC, dsC, drC), ol2, pz2, dvs2, us, (bS, pFS, pLS, stS, tmS, qtS, cmS, dsS, drS), (bT, pFT, pLT, stT, tmT, qtT, cmT, dsT, drT))) else if k = 1 then some ((-9999001), (ch, nu, le, ta, lt, (b2, pF, pL, st, tm, qt2, cm, ds, dr2), (bC, pFC, pLC, stC, tmC, qtC, cmC, dsC, drC), ol2, pz2, dvs2, us, (bS, pFS, pLS, stS, tmS, qtS, cmS, dsS, drS), (bT, pFT, pLT, stT, tmT, qtT, cmT, dsT, drT))) else if k = 2 then some ((-9999002), (ch, nu, le, ta, lt, (b2, pF, pL, st, tm, qt2, cm, ds, dr2), (bC, pFC, pLC, stC, tmC, qtC, cmC, dsC, drC), ol2, pz2, dvs2, us, (bS, pFS, pLS, stS, tmS, qtS, cmS, dsS, drS), (bT, pFT, pLT, stT, tmT, qtT, cmT, dsT, drT))) else if k = 3 then some ((-9999003), (ch, nu, le, ta, lt, (b2, pF, pL, st, tm, qt2, cm, ds, dr2), (bC, pFC, pLC, stC, tmC, qtC, cmC, dsC, drC), ol2, pz2, dvs2, us, (bS, pFS, pLS, stS, tmS, qtS, cmS, dsS, drS), (bT, pFT, pLT, stT, tmT, qtT, cmT, dsT, drT))) else none) = _
  rw [e]
  rfl
theorem th_free3 {v : zXS} {a n : Nat} (h : a ≤ 255) (h1 : 1 ≤ n) (h2 : n ≤ 99) (h3 : 256 < a + n) (a4 : Int32) : fL_call v 8 (Int32.ofNat a) (Int32.ofNat n) a4 = some (-9999003, v) := by
  obtain ⟨ch, nu, le, ta, lt, ⟨b, pF, pL, st, tm, qt, cm, ds, dr⟩, ⟨bC, pFC, pLC, stC, tmC, qtC, cmC, dsC, drC⟩, ol, pz, dvs, us, ⟨bS, pFS, pLS, stS, tmS, qtS, cmS, dsS, drS⟩, ⟨bT, pFT, pLT, stT, tmT, qtT, cmT, dsT, drT⟩⟩ := v
  have e : fX3_free b pF pL st tm qt cm ds dr ol pz dvs (Int32.ofNat a) (Int32.ofNat n) = some (3, 0, b, qt, dr, ol, pz, dvs) := by
    unfold fX3_free
    rw [cs3 h h1 h2 h3, ob_some, if_neg (by decide)]
  rw [call_8]
  show ob8 (fX3_free b pF pL st tm qt cm ds dr ol pz dvs (Int32.ofNat a) (Int32.ofNat n)) (fun k r b2 qt2 dr2 ol2 pz2 dvs2 => if k = 0 then some (r, (ch, nu, le, ta, lt, (b2, pF, pL, st, tm, qt2, cm, ds, dr2), (bC, pFC, pLC, stC, tmC, qtC, cmC, dsC, drC), ol2, pz2, dvs2, us, (bS, pFS, pLS, stS, tmS, qtS, cmS, dsS, drS), (bT, pFT, pLT, stT, tmT, qtT, cmT, dsT, drT))) else if k = 1 then some ((-9999001), (ch, nu, le, ta, lt, (b2, pF, pL, st, tm, qt2, cm, ds, dr2), (bC, pFC, pLC, stC, tmC, qtC, cmC, dsC, drC), ol2, pz2, dvs2, us, (bS, pFS, pLS, stS, tmS, qtS, cmS, dsS, drS), (bT, pFT, pLT, stT, tmT, qtT, cmT, dsT, drT))) else if k = 2 then some ((-9999002), (ch, nu, le, ta, lt, (b2, pF, pL, st, tm, qt2, cm, ds, dr2), (bC, pFC, pLC, stC, tmC, qtC, cmC, dsC, drC), ol2, pz2, dvs2, us, (bS, pFS, pLS, stS, tmS, qtS, cmS, dsS, drS), (bT, pFT, pLT, stT, tmT, qtT, cmT, dsT, drT))) else if k = 3 then some ((-9999003), (ch, nu, le, ta, lt, (b2, pF, pL, st, tm, qt2, cm, ds, dr2), (bC, pFC, pLC, stC, tmC, qtC, cmC, dsC, drC), ol2, pz2, dvs2, us, (bS, pFS, pLS, stS, tmS, qtS, cmS, dsS, drS), (bT, pFT, pLT, stT, tmT, qtT, cmT, dsT, drT))) else none) = _
  rw [e]
  rfl
theorem th_pin1 {v : zXS} {a2 a3 a4 : Int32} (h : 2 < a2.toInt) : fL_call v 9 a2 a3 a4 = some (-9999001, v) := by
  obtain ⟨ch, nu, le, ta, lt, ⟨b, pF, pL, st, tm, qt, cm, ds, dr⟩, ⟨bC, pFC, pLC, stC, tmC, qtC, cmC, dsC, drC⟩, ol, pz, dvs, us, ⟨bS, pFS, pLS, stS, tmS, qtS, cmS, dsS, drS⟩, ⟨bT, pFT, pLT, stT, tmT, qtT, cmT, dsT, drT⟩⟩ := v
  have e : fX3_pin b pF pL st tm qt cm ds dr ol pz dvs a2 a3 a4 = some (1, 0, pF, pL, ol, pz, dvs) := by
    unfold fX3_pin
    rw [cp1 (by omega), ob_some, if_neg n10]
  rw [call_9]
  show ob7 (fX3_pin b pF pL st tm qt cm ds dr ol pz dvs a2 a3 a4) (fun k r pF2 pL2 ol2 pz2 dvs2 => if k = 0 then some (r, (ch, nu, le, ta, lt, (b, pF2, pL2, st, tm, qt, cm, ds, dr), (bC, pFC, pLC, stC, tmC, qtC, cmC, dsC, drC), ol2, pz2, dvs2, us, (bS, pFS, pLS, stS, tmS, qtS, cmS, dsS, drS), (bT, pFT, pLT, stT, tmT, qtT, cmT, dsT, drT))) else if k = 1 then some ((-9999001), (ch, nu, le, ta, lt, (b, pF2, pL2, st, tm, qt, cm, ds, dr), (bC, pFC, pLC, stC, tmC, qtC, cmC, dsC, drC), ol2, pz2, dvs2, us, (bS, pFS, pLS, stS, tmS, qtS, cmS, dsS, drS), (bT, pFT, pLT, stT, tmT, qtT, cmT, dsT, drT))) else if k = 2 then some ((-9999002), (ch, nu, le, ta, lt, (b, pF2, pL2, st, tm, qt, cm, ds, dr), (bC, pFC, pLC, stC, tmC, qtC, cmC, dsC, drC), ol2, pz2, dvs2, us, (bS, pFS, pLS, stS, tmS, qtS, cmS, dsS, drS), (bT, pFT, pLT, stT, tmT, qtT, cmT, dsT, drT))) else if k = 3 then some ((-9999003), (ch, nu, le, ta, lt, (b, pF2, pL2, st, tm, qt, cm, ds, dr), (bC, pFC, pLC, stC, tmC, qtC, cmC, dsC, drC), ol2, pz2, dvs2, us, (bS, pFS, pLS, stS, tmS, qtS, cmS, dsS, drS), (bT, pFT, pLT, stT, tmT, qtT, cmT, dsT, drT))) else none) = _
  rw [e]
  rfl
theorem th_pin2 {v : zXS} {a2 a3 a4 : Int32} (h0 : 0 ≤ a2.toInt ∧ a2.toInt ≤ 2) (h : ¬ (0 ≤ a3.toInt ∧ a3.toInt ≤ 255)) : fL_call v 9 a2 a3 a4 = some (-9999001, v) := by
  obtain ⟨ch, nu, le, ta, lt, ⟨b, pF, pL, st, tm, qt, cm, ds, dr⟩, ⟨bC, pFC, pLC, stC, tmC, qtC, cmC, dsC, drC⟩, ol, pz, dvs, us, ⟨bS, pFS, pLS, stS, tmS, qtS, cmS, dsS, drS⟩, ⟨bT, pFT, pLT, stT, tmT, qtT, cmT, dsT, drT⟩⟩ := v
  have e : fX3_pin b pF pL st tm qt cm ds dr ol pz dvs a2 a3 a4 = some (1, 0, pF, pL, ol, pz, dvs) := by
    unfold fX3_pin
    rw [cp0 h0, ob_some, if_pos rfl, cs1 h, ob_some, if_neg n10]
  rw [call_9]
  show ob7 (fX3_pin b pF pL st tm qt cm ds dr ol pz dvs a2 a3 a4) (fun k r pF2 pL2 ol2 pz2 dvs2 => if k = 0 then some (r, (ch, nu, le, ta, lt, (b, pF2, pL2, st, tm, qt, cm, ds, dr), (bC, pFC, pLC, stC, tmC, qtC, cmC, dsC, drC), ol2, pz2, dvs2, us, (bS, pFS, pLS, stS, tmS, qtS, cmS, dsS, drS), (bT, pFT, pLT, stT, tmT, qtT, cmT, dsT, drT))) else if k = 1 then some ((-9999001), (ch, nu, le, ta, lt, (b, pF2, pL2, st, tm, qt, cm, ds, dr), (bC, pFC, pLC, stC, tmC, qtC, cmC, dsC, drC), ol2, pz2, dvs2, us, (bS, pFS, pLS, stS, tmS, qtS, cmS, dsS, drS), (bT, pFT, pLT, stT, tmT, qtT, cmT, dsT, drT))) else if k = 2 then some ((-9999002), (ch, nu, le, ta, lt, (b, pF2, pL2, st, tm, qt, cm, ds, dr), (bC, pFC, pLC, stC, tmC, qtC, cmC, dsC, drC), ol2, pz2, dvs2, us, (bS, pFS, pLS, stS, tmS, qtS, cmS, dsS, drS), (bT, pFT, pLT, stT, tmT, qtT, cmT, dsT, drT))) else if k = 3 then some ((-9999003), (ch, nu, le, ta, lt, (b, pF2, pL2, st, tm, qt, cm, ds, dr), (bC, pFC, pLC, stC, tmC, qtC, cmC, dsC, drC), ol2, pz2, dvs2, us, (bS, pFS, pLS, stS, tmS, qtS, cmS, dsS, drS), (bT, pFT, pLT, stT, tmT, qtT, cmT, dsT, drT))) else none) = _
  rw [e]
  rfl
theorem th_pin3 {v : zXS} {p : Int32} (h0 : 0 ≤ p.toInt ∧ p.toInt ≤ 2) {a n : Nat} (h : a ≤ 255) (h1 : 1 ≤ n) (h2 : n ≤ 99) (h3 : 256 < a + n) : fL_call v 9 p (Int32.ofNat a) (Int32.ofNat n) = some (-9999003, v) := by
  obtain ⟨ch, nu, le, ta, lt, ⟨b, pF, pL, st, tm, qt, cm, ds, dr⟩, ⟨bC, pFC, pLC, stC, tmC, qtC, cmC, dsC, drC⟩, ol, pz, dvs, us, ⟨bS, pFS, pLS, stS, tmS, qtS, cmS, dsS, drS⟩, ⟨bT, pFT, pLT, stT, tmT, qtT, cmT, dsT, drT⟩⟩ := v
  have e : fX3_pin b pF pL st tm qt cm ds dr ol pz dvs p (Int32.ofNat a) (Int32.ofNat n) = some (3, 0, pF, pL, ol, pz, dvs) := by
    unfold fX3_pin
    rw [cp0 h0, ob_some, if_pos rfl, cs3 h h1 h2 h3, ob_some, if_neg (by decide)]
  rw [call_9]
  show ob7 (fX3_pin b pF pL st tm qt cm ds dr ol pz dvs p (Int32.ofNat a) (Int32.ofNat n)) (fun k r pF2 pL2 ol2 pz2 dvs2 => if k = 0 then some (r, (ch, nu, le, ta, lt, (b, pF2, pL2, st, tm, qt, cm, ds, dr), (bC, pFC, pLC, stC, tmC, qtC, cmC, dsC, drC), ol2, pz2, dvs2, us, (bS, pFS, pLS, stS, tmS, qtS, cmS, dsS, drS), (bT, pFT, pLT, stT, tmT, qtT, cmT, dsT, drT))) else if k = 1 then some ((-9999001), (ch, nu, le, ta, lt, (b, pF2, pL2, st, tm, qt, cm, ds, dr), (bC, pFC, pLC, stC, tmC, qtC, cmC, dsC, drC), ol2, pz2, dvs2, us, (bS, pFS, pLS, stS, tmS, qtS, cmS, dsS, drS), (bT, pFT, pLT, stT, tmT, qtT, cmT, dsT, drT))) else if k = 2 then some ((-9999002), (ch, nu, le, ta, lt, (b, pF2, pL2, st, tm, qt, cm, ds, dr), (bC, pFC, pLC, stC, tmC, qtC, cmC, dsC, drC), ol2, pz2, dvs2, us, (bS, pFS, pLS, stS, tmS, qtS, cmS, dsS, drS), (bT, pFT, pLT, stT, tmT, qtT, cmT, dsT, drT))) else if k = 3 then some ((-9999003), (ch, nu, le, ta, lt, (b, pF2, pL2, st, tm, qt, cm, ds, dr), (bC, pFC, pLC, stC, tmC, qtC, cmC, dsC, drC), ol2, pz2, dvs2, us, (bS, pFS, pLS, stS, tmS, qtS, cmS, dsS, drS), (bT, pFT, pLT, stT, tmT, qtT, cmT, dsT, drT))) else none) = _
  rw [e]
  rfl
theorem th_unpin {v : zXS} {a2 : Int32} (h : 2 < a2.toInt) (a3 a4 : Int32) : fL_call v 10 a2 a3 a4 = some (-9999001, v) := by
  obtain ⟨ch, nu, le, ta, lt, ⟨b, pF, pL, st, tm, qt, cm, ds, dr⟩, ⟨bC, pFC, pLC, stC, tmC, qtC, cmC, dsC, drC⟩, ol, pz, dvs, us, ⟨bS, pFS, pLS, stS, tmS, qtS, cmS, dsS, drS⟩, ⟨bT, pFT, pLT, stT, tmT, qtT, cmT, dsT, drT⟩⟩ := v
  have e : fX3_unpin b pF pL st tm qt cm ds dr ol pz dvs a2 = some (1, 0, pF, pL, ol, pz, dvs) := by
    unfold fX3_unpin
    rw [cp1 (by omega), ob_some, if_neg n10]
  rw [call_10]
  show ob7 (fX3_unpin b pF pL st tm qt cm ds dr ol pz dvs a2) (fun k r pF2 pL2 ol2 pz2 dvs2 => if k = 0 then some (r, (ch, nu, le, ta, lt, (b, pF2, pL2, st, tm, qt, cm, ds, dr), (bC, pFC, pLC, stC, tmC, qtC, cmC, dsC, drC), ol2, pz2, dvs2, us, (bS, pFS, pLS, stS, tmS, qtS, cmS, dsS, drS), (bT, pFT, pLT, stT, tmT, qtT, cmT, dsT, drT))) else if k = 1 then some ((-9999001), (ch, nu, le, ta, lt, (b, pF2, pL2, st, tm, qt, cm, ds, dr), (bC, pFC, pLC, stC, tmC, qtC, cmC, dsC, drC), ol2, pz2, dvs2, us, (bS, pFS, pLS, stS, tmS, qtS, cmS, dsS, drS), (bT, pFT, pLT, stT, tmT, qtT, cmT, dsT, drT))) else if k = 3 then some ((-9999003), (ch, nu, le, ta, lt, (b, pF2, pL2, st, tm, qt, cm, ds, dr), (bC, pFC, pLC, stC, tmC, qtC, cmC, dsC, drC), ol2, pz2, dvs2, us, (bS, pFS, pLS, stS, tmS, qtS, cmS, dsS, drS), (bT, pFT, pLT, stT, tmT, qtT, cmT, dsT, drT))) else none) = _
  rw [e]
  rfl
theorem th_run {v : zXS} {a2 : Int32} (h : 60 < a2.toInt) (a3 a4 : Int32) : fL_call v 11 a2 a3 a4 = some (-9999002, v) := by
  obtain ⟨ch, nu, le, ta, lt, ⟨b, pF, pL, st, tm, qt, cm, ds, dr⟩, ⟨bC, pFC, pLC, stC, tmC, qtC, cmC, dsC, drC⟩, ol, pz, dvs, us, ⟨bS, pFS, pLS, stS, tmS, qtS, cmS, dsS, drS⟩, ⟨bT, pFT, pLT, stT, tmT, qtT, cmT, dsT, drT⟩⟩ := v
  have e : fX3_run b pF pL st tm qt cm ds dr ol pz dvs a2 = some (2, 0, b, tm, qt, cm, ds, dr, ol, pz, dvs) := by
    unfold fX3_run
    rw [ck2 (by rw [i60]; omega), ob_some, if_neg (by decide)]
  rw [call_11]
  show ob11 (fX3_run b pF pL st tm qt cm ds dr ol pz dvs a2) (fun k r b2 tm2 qt2 cm2 ds2 dr2 ol2 pz2 dvs2 => if k = 0 then some (r, (ch, nu, le, ta, lt, (b2, pF, pL, st, tm2, qt2, cm2, ds2, dr2), (bC, pFC, pLC, stC, tmC, qtC, cmC, dsC, drC), ol2, pz2, dvs2, us, (bS, pFS, pLS, stS, tmS, qtS, cmS, dsS, drS), (bT, pFT, pLT, stT, tmT, qtT, cmT, dsT, drT))) else if k = 2 then some ((-9999002), (ch, nu, le, ta, lt, (b2, pF, pL, st, tm2, qt2, cm2, ds2, dr2), (bC, pFC, pLC, stC, tmC, qtC, cmC, dsC, drC), ol2, pz2, dvs2, us, (bS, pFS, pLS, stS, tmS, qtS, cmS, dsS, drS), (bT, pFT, pLT, stT, tmT, qtT, cmT, dsT, drT))) else none) = _
  rw [e]
  rfl
theorem noval {a w : Int32} (h : 50 < w.toInt) : fX3_isValue a w = some 0 := by
  obtain ⟨t, -, e, ht⟩ := value a w
  rw [e]
  cases t with
  | false => rfl
  | true =>
    obtain ⟨k, n, -, q2, q3, q4⟩ := ht rfl
    exfalso
    have : zGm k ≤ 50 := by
      rcases (show k = 0 ∨ k = 1 ∨ k = 2 ∨ k = 3 ∨ k = 4 ∨ k = 5 by omega) with rfl | rfl | rfl | rfl | rfl | rfl <;> decide
    rw [q2, zN_toInt (by omega)] at h
    omega
theorem th_set {v : zXS} {a2 a3 : Int32} (h : 50 < a3.toInt) (a4 : Int32) : fL_call v 12 a2 a3 a4 = some (-9999002, v) := by
  obtain ⟨ch, nu, le, ta, lt, ⟨b, pF, pL, st, tm, qt, cm, ds, dr⟩, ⟨bC, pFC, pLC, stC, tmC, qtC, cmC, dsC, drC⟩, ol, pz, dvs, us, ⟨bS, pFS, pLS, stS, tmS, qtS, cmS, dsS, drS⟩, ⟨bT, pFT, pLT, stT, tmT, qtT, cmT, dsT, drT⟩⟩ := v
  have e : fX3_set b pF pL st tm qt cm ds dr ol pz dvs a2 a3 = some (2, 0, st, ol, pz, dvs) := by
    unfold fX3_set
    rw [noval h, ob_some, if_pos rfl]
  rw [call_12]
  show ob6 (fX3_set b pF pL st tm qt cm ds dr ol pz dvs a2 a3) (fun k r st2 ol2 pz2 dvs2 => if k = 0 then some (r, (ch, nu, le, ta, lt, (b, pF, pL, st2, tm, qt, cm, ds, dr), (bC, pFC, pLC, stC, tmC, qtC, cmC, dsC, drC), ol2, pz2, dvs2, us, (bS, pFS, pLS, stS, tmS, qtS, cmS, dsS, drS), (bT, pFT, pLT, stT, tmT, qtT, cmT, dsT, drT))) else if k = 2 then some ((-9999002), (ch, nu, le, ta, lt, (b, pF, pL, st2, tm, qt, cm, ds, dr), (bC, pFC, pLC, stC, tmC, qtC, cmC, dsC, drC), ol2, pz2, dvs2, us, (bS, pFS, pLS, stS, tmS, qtS, cmS, dsS, drS), (bT, pFT, pLT, stT, tmT, qtT, cmT, dsT, drT))) else none) = _
  rw [e]
  rfl
theorem th_next {v : zXS} {a2 : Int32} (h : 2 < a2.toInt) (a3 a4 : Int32) : fL_call v 14 a2 a3 a4 = some (-9999002, v) := by
  obtain ⟨ch, nu, le, ta, lt, ⟨b, pF, pL, st, tm, qt, cm, ds, dr⟩, ⟨bC, pFC, pLC, stC, tmC, qtC, cmC, dsC, drC⟩, ol, pz, dvs, us, ⟨bS, pFS, pLS, stS, tmS, qtS, cmS, dsS, drS⟩, ⟨bT, pFT, pLT, stT, tmT, qtT, cmT, dsT, drT⟩⟩ := v
  have e : fX3_next b pF pL st tm qt cm ds dr bC pFC pLC stC tmC qtC cmC dsC drC a2 = some (2, 0, bC, pFC, pLC, stC, tmC, qtC, cmC, dsC, drC) := by
    unfold fX3_next
    rw [if_neg (fun q => by rw [int_lt, i0] at q; omega), if_neg (fun q => by rw [int_le, i2] at q; omega)]
  rw [call_14]
  show ob11 (fX3_next b pF pL st tm qt cm ds dr bC pFC pLC stC tmC qtC cmC dsC drC a2) (fun k r bC2 pFC2 pLC2 stC2 tmC2 qtC2 cmC2 dsC2 drC2 => if k = 0 then some (r, (ch, nu, le, ta, lt, (b, pF, pL, st, tm, qt, cm, ds, dr), (bC2, pFC2, pLC2, stC2, tmC2, qtC2, cmC2, dsC2, drC2), ol, pz, dvs, us, (bS, pFS, pLS, stS, tmS, qtS, cmS, dsS, drS), (bT, pFT, pLT, stT, tmT, qtT, cmT, dsT, drT))) else if k = 2 then some ((-9999002), (ch, nu, le, ta, lt, (b, pF, pL, st, tm, qt, cm, ds, dr), (bC2, pFC2, pLC2, stC2, tmC2, qtC2, cmC2, dsC2, drC2), ol, pz, dvs, us, (bS, pFS, pLS, stS, tmS, qtS, cmS, dsS, drS), (bT, pFT, pLT, stT, tmT, qtT, cmT, dsT, drT))) else none) = _
  rw [e]
  rfl
theorem th_gone {v : zXS} {a2 : Int32} (h : ¬ (0 ≤ a2.toInt ∧ a2.toInt ≤ 255)) (a3 a4 : Int32) : fL_call v 15 a2 a3 a4 = some (-9999001, v) := by
  obtain ⟨ch, nu, le, ta, lt, ⟨b, pF, pL, st, tm, qt, cm, ds, dr⟩, ⟨bC, pFC, pLC, stC, tmC, qtC, cmC, dsC, drC⟩, ol, pz, dvs, us, ⟨bS, pFS, pLS, stS, tmS, qtS, cmS, dsS, drS⟩, ⟨bT, pFT, pLT, stT, tmT, qtT, cmT, dsT, drT⟩⟩ := v
  have e : fX3_goneIn b pF pL st tm qt cm ds dr bC pFC pLC stC tmC qtC cmC dsC drC a2 = some (1, 0, bC, pFC, pLC, stC, tmC, qtC, cmC, dsC, drC) := by
    unfold fX3_goneIn
    rw [cb1 h, ob_some, if_neg n10]
  rw [call_15]
  show ob11 (fX3_goneIn b pF pL st tm qt cm ds dr bC pFC pLC stC tmC qtC cmC dsC drC a2) (fun k r bC2 pFC2 pLC2 stC2 tmC2 qtC2 cmC2 dsC2 drC2 => if k = 0 then some (r, (ch, nu, le, ta, lt, (b, pF, pL, st, tm, qt, cm, ds, dr), (bC2, pFC2, pLC2, stC2, tmC2, qtC2, cmC2, dsC2, drC2), ol, pz, dvs, us, (bS, pFS, pLS, stS, tmS, qtS, cmS, dsS, drS), (bT, pFT, pLT, stT, tmT, qtT, cmT, dsT, drT))) else if k = 1 then some ((-9999001), (ch, nu, le, ta, lt, (b, pF, pL, st, tm, qt, cm, ds, dr), (bC2, pFC2, pLC2, stC2, tmC2, qtC2, cmC2, dsC2, drC2), ol, pz, dvs, us, (bS, pFS, pLS, stS, tmS, qtS, cmS, dsS, drS), (bT, pFT, pLT, stT, tmT, qtT, cmT, dsT, drT))) else none) = _
  rw [e]
  rfl
theorem th_coming {v : zXS} {a2 a3 : Int32} (h : 100 < a2.toInt) (a4 : Int32) : fL_call v 16 a2 a3 a4 = some (-9999002, v) := by
  obtain ⟨ch, nu, le, ta, lt, ⟨b, pF, pL, st, tm, qt, cm, ds, dr⟩, ⟨bC, pFC, pLC, stC, tmC, qtC, cmC, dsC, drC⟩, ol, pz, dvs, us, ⟨bS, pFS, pLS, stS, tmS, qtS, cmS, dsS, drS⟩, ⟨bT, pFT, pLT, stT, tmT, qtT, cmT, dsT, drT⟩⟩ := v
  have e : fX3_coming b pF pL st tm qt cm ds dr bC pFC pLC stC tmC qtC cmC dsC drC a2 a3 = some (2, 0, bC, pFC, pLC, stC, tmC, qtC, cmC, dsC, drC) := by
    unfold fX3_coming
    rw [ck2 (by rw [i100]; omega), ob_some, if_neg (by decide)]
  rw [call_16]
  show ob11 (fX3_coming b pF pL st tm qt cm ds dr bC pFC pLC stC tmC qtC cmC dsC drC a2 a3) (fun k r bC2 pFC2 pLC2 stC2 tmC2 qtC2 cmC2 dsC2 drC2 => if k = 0 then some (r, (ch, nu, le, ta, lt, (b, pF, pL, st, tm, qt, cm, ds, dr), (bC2, pFC2, pLC2, stC2, tmC2, qtC2, cmC2, dsC2, drC2), ol, pz, dvs, us, (bS, pFS, pLS, stS, tmS, qtS, cmS, dsS, drS), (bT, pFT, pLT, stT, tmT, qtT, cmT, dsT, drT))) else if k = 2 then some ((-9999002), (ch, nu, le, ta, lt, (b, pF, pL, st, tm, qt, cm, ds, dr), (bC2, pFC2, pLC2, stC2, tmC2, qtC2, cmC2, dsC2, drC2), ol, pz, dvs, us, (bS, pFS, pLS, stS, tmS, qtS, cmS, dsS, drS), (bT, pFT, pLT, stT, tmT, qtT, cmT, dsT, drT))) else none) = _
  rw [e]
  rfl
theorem th_best {v : zXS} {a2 : Int32} (h : 60 < a2.toInt) (a3 a4 : Int32) : fL_call v 17 a2 a3 a4 = some (-9999002, v) := by
  obtain ⟨ch, nu, le, ta, lt, ⟨b, pF, pL, st, tm, qt, cm, ds, dr⟩, ⟨bC, pFC, pLC, stC, tmC, qtC, cmC, dsC, drC⟩, ol, pz, dvs, us, ⟨bS, pFS, pLS, stS, tmS, qtS, cmS, dsS, drS⟩, ⟨bT, pFT, pLT, stT, tmT, qtT, cmT, dsT, drT⟩⟩ := v
  have e : fX3_bestGranule b pF pL st tm qt cm ds dr bC pFC pLC stC tmC qtC cmC dsC drC a2 = some (2, 0, bC, pFC, pLC, stC, tmC, qtC, cmC, dsC, drC) := by
    unfold fX3_bestGranule
    rw [ck2 (by rw [i60]; omega), ob_some, if_neg (by decide)]
  rw [call_17]
  show ob11 (fX3_bestGranule b pF pL st tm qt cm ds dr bC pFC pLC stC tmC qtC cmC dsC drC a2) (fun k r bC2 pFC2 pLC2 stC2 tmC2 qtC2 cmC2 dsC2 drC2 => if k = 0 then some (r, (ch, nu, le, ta, lt, (b, pF, pL, st, tm, qt, cm, ds, dr), (bC2, pFC2, pLC2, stC2, tmC2, qtC2, cmC2, dsC2, drC2), ol, pz, dvs, us, (bS, pFS, pLS, stS, tmS, qtS, cmS, dsS, drS), (bT, pFT, pLT, stT, tmT, qtT, cmT, dsT, drT))) else if k = 2 then some ((-9999002), (ch, nu, le, ta, lt, (b, pF, pL, st, tm, qt, cm, ds, dr), (bC2, pFC2, pLC2, stC2, tmC2, qtC2, cmC2, dsC2, drC2), ol, pz, dvs, us, (bS, pFS, pLS, stS, tmS, qtS, cmS, dsS, drS), (bT, pFT, pLT, stT, tmT, qtT, cmT, dsT, drT))) else none) = _
  rw [e]
  rfl
theorem th_would {v : zXS} {a2 a3 : Int32} (h : ¬ (0 ≤ a2.toInt ∧ a2.toInt ≤ 255)) (a4 : Int32) : fL_call v 18 a2 a3 a4 = some (-9999001, v) := by
  obtain ⟨ch, nu, le, ta, lt, ⟨b, pF, pL, st, tm, qt, cm, ds, dr⟩, ⟨bC, pFC, pLC, stC, tmC, qtC, cmC, dsC, drC⟩, ol, pz, dvs, us, ⟨bS, pFS, pLS, stS, tmS, qtS, cmS, dsS, drS⟩, ⟨bT, pFT, pLT, stT, tmT, qtT, cmT, dsT, drT⟩⟩ := v
  have e : fX3_ifWritten b pF pL st tm qt cm ds dr bC pFC pLC stC tmC qtC cmC dsC drC a2 a3 = some (1, 0, bC, pFC, pLC, stC, tmC, qtC, cmC, dsC, drC) := by
    unfold fX3_ifWritten
    rw [cs1 h, ob_some, if_neg n10]
  rw [call_18]
  show ob11 (fX3_ifWritten b pF pL st tm qt cm ds dr bC pFC pLC stC tmC qtC cmC dsC drC a2 a3) (fun k r bC2 pFC2 pLC2 stC2 tmC2 qtC2 cmC2 dsC2 drC2 => if k = 0 then some (r, (ch, nu, le, ta, lt, (b, pF, pL, st, tm, qt, cm, ds, dr), (bC2, pFC2, pLC2, stC2, tmC2, qtC2, cmC2, dsC2, drC2), ol, pz, dvs, us, (bS, pFS, pLS, stS, tmS, qtS, cmS, dsS, drS), (bT, pFT, pLT, stT, tmT, qtT, cmT, dsT, drT))) else if k = 1 then some ((-9999001), (ch, nu, le, ta, lt, (b, pF, pL, st, tm, qt, cm, ds, dr), (bC2, pFC2, pLC2, stC2, tmC2, qtC2, cmC2, dsC2, drC2), ol, pz, dvs, us, (bS, pFS, pLS, stS, tmS, qtS, cmS, dsS, drS), (bT, pFT, pLT, stT, tmT, qtT, cmT, dsT, drT))) else if k = 2 then some ((-9999002), (ch, nu, le, ta, lt, (b, pF, pL, st, tm, qt, cm, ds, dr), (bC2, pFC2, pLC2, stC2, tmC2, qtC2, cmC2, dsC2, drC2), ol, pz, dvs, us, (bS, pFS, pLS, stS, tmS, qtS, cmS, dsS, drS), (bT, pFT, pLT, stT, tmT, qtT, cmT, dsT, drT))) else if k = 3 then some ((-9999003), (ch, nu, le, ta, lt, (b, pF, pL, st, tm, qt, cm, ds, dr), (bC2, pFC2, pLC2, stC2, tmC2, qtC2, cmC2, dsC2, drC2), ol, pz, dvs, us, (bS, pFS, pLS, stS, tmS, qtS, cmS, dsS, drS), (bT, pFT, pLT, stT, tmT, qtT, cmT, dsT, drT))) else none) = _
  rw [e]
  rfl
theorem th_keep {v : zXS} {a2 : Int32} (h : 1 < a2.toInt) (a3 a4 : Int32) : fL_call v 19 a2 a3 a4 = some (-9999001, v) := by
  obtain ⟨ch, nu, le, ta, lt, ⟨b, pF, pL, st, tm, qt, cm, ds, dr⟩, ⟨bC, pFC, pLC, stC, tmC, qtC, cmC, dsC, drC⟩, ol, pz, dvs, us, ⟨bS, pFS, pLS, stS, tmS, qtS, cmS, dsS, drS⟩, ⟨bT, pFT, pLT, stT, tmT, qtT, cmT, dsT, drT⟩⟩ := v
  have e : fX3_save b pF pL st tm qt cm ds dr us bS pFS pLS stS tmS qtS cmS dsS drS bT pFT pLT stT tmT qtT cmT dsT drT a2 = some (1, 0, us, bS, pFS, pLS, stS, tmS, qtS, cmS, dsS, drS, bT, pFT, pLT, stT, tmT, qtT, cmT, dsT, drT) := by
    unfold fX3_save fX3_checkSlot
    rw [if_neg (fun q => by rw [int_lt, i0] at q; omega), if_neg (fun q => by rw [int_lt, i2] at q; omega), ob_some, if_neg n10]
  rw [call_19]
  show ob21 (fX3_save b pF pL st tm qt cm ds dr us bS pFS pLS stS tmS qtS cmS dsS drS bT pFT pLT stT tmT qtT cmT dsT drT a2) (fun k r us2 bS2 pFS2 pLS2 stS2 tmS2 qtS2 cmS2 dsS2 drS2 bT2 pFT2 pLT2 stT2 tmT2 qtT2 cmT2 dsT2 drT2 => if k = 0 then some (r, (ch, nu, le, ta, lt, (b, pF, pL, st, tm, qt, cm, ds, dr), (bC, pFC, pLC, stC, tmC, qtC, cmC, dsC, drC), ol, pz, dvs, us2, (bS2, pFS2, pLS2, stS2, tmS2, qtS2, cmS2, dsS2, drS2), (bT2, pFT2, pLT2, stT2, tmT2, qtT2, cmT2, dsT2, drT2))) else if k = 1 then some ((-9999001), (ch, nu, le, ta, lt, (b, pF, pL, st, tm, qt, cm, ds, dr), (bC, pFC, pLC, stC, tmC, qtC, cmC, dsC, drC), ol, pz, dvs, us2, (bS2, pFS2, pLS2, stS2, tmS2, qtS2, cmS2, dsS2, drS2), (bT2, pFT2, pLT2, stT2, tmT2, qtT2, cmT2, dsT2, drT2))) else none) = _
  rw [e]
  rfl
theorem th_back {v : zXS} {a2 : Int32} (h : a2.toInt < 0) (a3 a4 : Int32) : fL_call v 20 a2 a3 a4 = some (-9999001, v) := by
  obtain ⟨ch, nu, le, ta, lt, ⟨b, pF, pL, st, tm, qt, cm, ds, dr⟩, ⟨bC, pFC, pLC, stC, tmC, qtC, cmC, dsC, drC⟩, ol, pz, dvs, us, ⟨bS, pFS, pLS, stS, tmS, qtS, cmS, dsS, drS⟩, ⟨bT, pFT, pLT, stT, tmT, qtT, cmT, dsT, drT⟩⟩ := v
  have e : fX3_restore b pF pL st tm qt cm ds dr pz us bS pFS pLS stS tmS qtS cmS dsS drS bT pFT pLT stT tmT qtT cmT dsT drT a2 = some (1, 0, b, pF, pL, st, tm, qt, cm, ds, dr, pz) := by
    unfold fX3_restore fX3_checkSlot
    rw [if_pos (by rw [int_lt, i0]; exact h), ob_some, if_neg n10]
  rw [call_20]
  show ob12 (fX3_restore b pF pL st tm qt cm ds dr pz us bS pFS pLS stS tmS qtS cmS dsS drS bT pFT pLT stT tmT qtT cmT dsT drT a2) (fun k r b2 pF2 pL2 st2 tm2 qt2 cm2 ds2 dr2 pz2 => if k = 0 then some (r, (ch, nu, le, ta, lt, (b2, pF2, pL2, st2, tm2, qt2, cm2, ds2, dr2), (bC, pFC, pLC, stC, tmC, qtC, cmC, dsC, drC), ol, pz2, dvs, us, (bS, pFS, pLS, stS, tmS, qtS, cmS, dsS, drS), (bT, pFT, pLT, stT, tmT, qtT, cmT, dsT, drT))) else if k = 1 then some ((-9999001), (ch, nu, le, ta, lt, (b2, pF2, pL2, st2, tm2, qt2, cm2, ds2, dr2), (bC, pFC, pLC, stC, tmC, qtC, cmC, dsC, drC), ol, pz2, dvs, us, (bS, pFS, pLS, stS, tmS, qtS, cmS, dsS, drS), (bT, pFT, pLT, stT, tmT, qtT, cmT, dsT, drT))) else if k = 3 then some ((-9999003), (ch, nu, le, ta, lt, (b2, pF2, pL2, st2, tm2, qt2, cm2, ds2, dr2), (bC, pFC, pLC, stC, tmC, qtC, cmC, dsC, drC), ol, pz2, dvs, us, (bS, pFS, pLS, stS, tmS, qtS, cmS, dsS, drS), (bT, pFT, pLT, stT, tmT, qtT, cmT, dsT, drT))) else none) = _
  rw [e]
  rfl
theorem th_script0 {v : zXS} (y : Int64) : fL_tryScript v 0 y = some (-9999002, v) := by
  obtain ⟨ch, nu, le, ta, lt, ⟨b, pF, pL, st, tm, qt, cm, ds, dr⟩, ⟨bC, pFC, pLC, stC, tmC, qtC, cmC, dsC, drC⟩, ol, pz, dvs, us, ⟨bS, pFS, pLS, stS, tmS, qtS, cmS, dsS, drS⟩, ⟨bT, pFT, pLT, stT, tmT, qtT, cmT, dsT, drT⟩⟩ := v
  have e : fX3_runScript b pF pL st tm qt cm ds dr bC pFC pLC stC tmC qtC cmC dsC drC 0 y = some (2, 0, bC, pFC, pLC, stC, tmC, qtC, cmC, dsC, drC) := by
    unfold fX3_runScript
    rw [if_pos (by decide)]
  show ob11 (fX3_runScript b pF pL st tm qt cm ds dr bC pFC pLC stC tmC qtC cmC dsC drC 0 y) (fun k r bC2 pFC2 pLC2 stC2 tmC2 qtC2 cmC2 dsC2 drC2 => if k = 0 then some (r, (ch, nu, le, ta, lt, (b, pF, pL, st, tm, qt, cm, ds, dr), (bC2, pFC2, pLC2, stC2, tmC2, qtC2, cmC2, dsC2, drC2), ol, pz, dvs, us, (bS, pFS, pLS, stS, tmS, qtS, cmS, dsS, drS), (bT, pFT, pLT, stT, tmT, qtT, cmT, dsT, drT))) else if k = 2 then some ((-9999002), (ch, nu, le, ta, lt, (b, pF, pL, st, tm, qt, cm, ds, dr), (bC2, pFC2, pLC2, stC2, tmC2, qtC2, cmC2, dsC2, drC2), ol, pz, dvs, us, (bS, pFS, pLS, stS, tmS, qtS, cmS, dsS, drS), (bT, pFT, pLT, stT, tmT, qtT, cmT, dsT, drT))) else none) = _
  rw [e]
  rfl
theorem th_script1 {v : zXS} {X : Nat} (hX : X < 9223372036854775808) (h : 1000000 ≤ X) : fL_tryScript v 1 (Int64.ofNat X) = some (-9999002, v) := by
  obtain ⟨ch, nu, le, ta, lt, ⟨b, pF, pL, st, tm, qt, cm, ds, dr⟩, ⟨bC, pFC, pLC, stC, tmC, qtC, cmC, dsC, drC⟩, ol, pz, dvs, us, ⟨bS, pFS, pLS, stS, tmS, qtS, cmS, dsS, drS⟩, ⟨bT, pFT, pLT, stT, tmT, qtT, cmT, dsT, drT⟩⟩ := v
  have e : fX3_runScript b pF pL st tm qt cm ds dr bC pFC pLC stC tmC qtC cmC dsC drC 1 (Int64.ofNat X) = some (2, 0, bC, pFC, pLC, stC, tmC, qtC, cmC, dsC, drC) := by
    have hg := groups (m := 1) (by omega) hX
    replace hg : fX3_groupsFrom (Int64.ofNat X) 1 = some (Int64.ofNat (X / 1000000 ^ 1)) := hg
    have h1 : 1 ≤ X / 1000000 ^ 1 := (Nat.le_div_iff_mul_le (by decide)).mpr (by omega)
    have h2 : X / 1000000 ^ 1 ≤ X := Nat.div_le_self _ _
    unfold fX3_runScript
    rw [if_neg (by decide), if_pos (by decide), if_neg (by rw [zcmp_lt, yN_toInt hX]; omega), hg, ob_some, if_neg (by rw [zcmp_le, yN_toInt (by omega)]; omega)]
  show ob11 (fX3_runScript b pF pL st tm qt cm ds dr bC pFC pLC stC tmC qtC cmC dsC drC 1 (Int64.ofNat X)) (fun k r bC2 pFC2 pLC2 stC2 tmC2 qtC2 cmC2 dsC2 drC2 => if k = 0 then some (r, (ch, nu, le, ta, lt, (b, pF, pL, st, tm, qt, cm, ds, dr), (bC2, pFC2, pLC2, stC2, tmC2, qtC2, cmC2, dsC2, drC2), ol, pz, dvs, us, (bS, pFS, pLS, stS, tmS, qtS, cmS, dsS, drS), (bT, pFT, pLT, stT, tmT, qtT, cmT, dsT, drT))) else if k = 2 then some ((-9999002), (ch, nu, le, ta, lt, (b, pF, pL, st, tm, qt, cm, ds, dr), (bC2, pFC2, pLC2, stC2, tmC2, qtC2, cmC2, dsC2, drC2), ol, pz, dvs, us, (bS, pFS, pLS, stS, tmS, qtS, cmS, dsS, drS), (bT, pFT, pLT, stT, tmT, qtT, cmT, dsT, drT))) else none) = _
  rw [e]
  rfl
theorem th_sim {v : zXS} {x : Int64} {m : Int32} (h : 60 < m.toInt) : fL_trySimulate v x m = some (-9999002, v) := by
  obtain ⟨ch, nu, le, ta, lt, ⟨b, pF, pL, st, tm, qt, cm, ds, dr⟩, ⟨bC, pFC, pLC, stC, tmC, qtC, cmC, dsC, drC⟩, ol, pz, dvs, us, ⟨bS, pFS, pLS, stS, tmS, qtS, cmS, dsS, drS⟩, ⟨bT, pFT, pLT, stT, tmT, qtT, cmT, dsT, drT⟩⟩ := v
  have e : fX3_simulate b pF pL st tm qt cm ds dr bC pFC pLC stC tmC qtC cmC dsC drC x m = some (2, 0, bC, pFC, pLC, stC, tmC, qtC, cmC, dsC, drC) := by
    unfold fX3_simulate
    rw [if_neg (fun q => by rw [int_lt, i1] at q; omega), if_neg (fun q => by rw [int_le, i60] at q; omega)]
  show ob11 (fX3_simulate b pF pL st tm qt cm ds dr bC pFC pLC stC tmC qtC cmC dsC drC x m) (fun k r bC2 pFC2 pLC2 stC2 tmC2 qtC2 cmC2 dsC2 drC2 => if k = 0 then some (r, (ch, nu, le, ta, lt, (b, pF, pL, st, tm, qt, cm, ds, dr), (bC2, pFC2, pLC2, stC2, tmC2, qtC2, cmC2, dsC2, drC2), ol, pz, dvs, us, (bS, pFS, pLS, stS, tmS, qtS, cmS, dsS, drS), (bT, pFT, pLT, stT, tmT, qtT, cmT, dsT, drT))) else if k = 2 then some ((-9999002), (ch, nu, le, ta, lt, (b, pF, pL, st, tm, qt, cm, ds, dr), (bC2, pFC2, pLC2, stC2, tmC2, qtC2, cmC2, dsC2, drC2), ol, pz, dvs, us, (bS, pFS, pLS, stS, tmS, qtS, cmS, dsS, drS), (bT, pFT, pLT, stT, tmT, qtT, cmT, dsT, drT))) else none) = _
  rw [e]
  rfl
theorem irem_neg {X : Nat} (hX : X < 2147483648) : (irem (-Int32.ofNat X) 99).toInt = -((X % 99 : Nat) : Int) := by
  have e1 : -Int32.ofNat X = Int32.ofInt (-(X : Int)) := by rw [← Int32.ofInt_eq_ofNat, Int32.neg_ofInt]
  show (-Int32.ofNat X - -Int32.ofNat X / 99 * 99).toInt = _
  have e2 : -Int32.ofNat X / 99 = Int32.ofInt (-((X / 99 : Nat) : Int)) := by
    rw [e1, show (99 : Int32) = Int32.ofInt 99 by decide, ← Int32.ofInt_tdiv (by rw [Int32.toInt_minValue]; omega) (by rw [Int32.toInt_maxValue]; omega) (by decide) (by decide), Int.neg_tdiv]
    rfl
  rw [e2, show (99 : Int32) = Int32.ofInt 99 by decide, ← Int32.ofInt_mul, e1, ← Int32.ofInt_sub]
  have e3 := Nat.div_add_mod X 99
  rw [show -(X : Int) - -((X / 99 : Nat) : Int) * 99 = -((X % 99 : Nat) : Int) by omega]
  exact Int32.toInt_ofInt_of_le (by omega) (by omega)
set_option maxHeartbeats 1000000 in
theorem refuses_ok (v : zXS) {X : Nat} (hX : X < 100000) : fL_refuses v (Int32.ofNat X) = some (1, v) := by
  have m2 : irem (Int32.ofNat X) 2 = Int32.ofNat (X % 2) := zN_rem (a := X) (c := 2) (by omega) (by omega)
  have m3 : irem (Int32.ofNat X) 3 = Int32.ofNat (X % 3) := zN_rem (a := X) (c := 3) (by omega) (by omega)
  have m6 : irem (Int32.ofNat X) 6 = Int32.ofNat (X % 6) := zN_rem (a := X) (c := 6) (by omega) (by omega)
  have m9 : irem (Int32.ofNat X) 9 = Int32.ofNat (X % 9) := zN_rem (a := X) (c := 9) (by omega) (by omega)
  have m43 : irem (Int32.ofNat X) 43 = Int32.ofNat (X % 43) := zN_rem (a := X) (c := 43) (by omega) (by omega)
  have m50 : irem (Int32.ofNat X) 50 = Int32.ofNat (X % 50) := zN_rem (a := X) (c := 50) (by omega) (by omega)
  have m56 : irem (Int32.ofNat X) 56 = Int32.ofNat (X % 56) := zN_rem (a := X) (c := 56) (by omega) (by omega)
  have m90 : irem (Int32.ofNat X) 90 = Int32.ofNat (X % 90) := zN_rem (a := X) (c := 90) (by omega) (by omega)
  have m99 : irem (Int32.ofNat X) 99 = Int32.ofNat (X % 99) := zN_rem (a := X) (c := 99) (by omega) (by omega)
  have m256 : irem (Int32.ofNat X) 256 = Int32.ofNat (X % 256) := zN_rem (a := X) (c := 256) (by omega) (by omega)
  have ad : ∀ (a k : Nat), a + k < 2147483648 → (Int32.ofNat a + Int32.ofNat k).toInt = ((a + k : Nat) : Int) := fun a k h => by rw [zN_add, zN_toInt h]
  have sb : ∀ k : Nat, k < 1000 → ((-1 : Int32) - Int32.ofNat k).toInt = -1 - (k : Int) := fun k hk => by
    rw [Int32.toInt_sub, zN_toInt (by omega), show (-1 : Int32).toInt = -1 by decide]
    exact Int.bmod_eq_of_le (by omega) (by omega)
  obtain ⟨b, pF, pL, st, tm, qt, cm, ds, dr, hd⟩ : ∃ b pF pL st tm qt cm ds dr, zDev v = (b, pF, pL, st, tm, qt, cm, ds, dr) := ⟨_, _, _, _, _, _, _, _, _, rfl⟩
  have hR := cn_le (bg (zq b)) 256
  have hab : fX3_about b pF pL tm qt cm ds dr 2 = some (0, Int32.ofNat (cn (bg (zq b)) 256)) := by
    show ob (fX0_countRanges b) (fun r2 => some (0, r2)) = _
    rw [fx_countRanges]; rfl
  -- the chain, from behind the choices
  have chain : ∀ (no many w : Int32), ¬ (0 ≤ no.toInt ∧ no.toInt ≤ 255) → ¬ (1 ≤ many.toInt ∧ many.toInt ≤ 99) → (w.toInt < 0 ∨ 255 < w.toInt) → fL_refuses_86 (Int32.ofNat X) no (Int32.ofNat (cn (bg (zq b)) 256) + Int32.ofNat (X % 50)) many 0 w v = some (1, v) := fun no many w hno hmany hw => by
    unfold fL_refuses_86
    rw [m3, m6, m9, m43, m50, m56, m90, m256, zN_add]
    rw [th_append hw 0 0, ob2_some, if_pos rfl, th_about (by rw [show (11 : Int32) = Int32.ofNat 11 from rfl, ad _ _ (by omega)]; omega) 0 0, ob2_some, if_pos rfl,
      th_block1 hno 0, ob2_some, if_pos rfl, th_block2 (by rw [zN_toInt (by omega)]; omega) (by rw [show (4 : Int32) = Int32.ofNat 4 from rfl, ad _ _ (by omega)]; omega) 0, ob2_some, if_pos rfl,
      th_range hd (by omega) (by omega) 9 0, ob2_some, if_pos rfl, th_pinned (by rw [show (3 : Int32) = Int32.ofNat 3 from rfl, ad _ _ (by omega)]; omega) 0, ob2_some, if_pos rfl,
      th_setting (by rw [show (6 : Int32) = Int32.ofNat 6 from rfl, ad _ _ (by omega)]; omega) 0 0, ob2_some, if_pos rfl, th_write1 hno 0, ob2_some, if_pos rfl, th_write2 (by rw [zN_toInt (by omega)]; omega) hmany 0, ob2_some, if_pos rfl,
      th_free1 hno 0, ob2_some, if_pos rfl]
    rw [show (200 : Int32) + Int32.ofNat (X % 56) = Int32.ofNat (200 + X % 56) from zN_add 200 _, show (57 : Int32) + Int32.ofNat (X % 43) = Int32.ofNat (57 + X % 43) from zN_add 57 _, show (2 : Int32) + Int32.ofNat (X % 90) = Int32.ofNat (2 + X % 90) from zN_add 2 _]
    have p255 := th_pin3 (v := v) (p := Int32.ofNat (X % 3)) (by rw [zN_toInt (by omega)]; omega) (a := 255) (n := 2 + X % 90) (by omega) (by omega) (by omega) (by omega)
    replace p255 : fL_call v 9 (Int32.ofNat (X % 3)) 255 (Int32.ofNat (2 + X % 90)) = some (-9999003, v) := p255
    have s2 := th_script1 (v := v) (X := 1000000 + X) (by omega) (by omega)
    have e2 : (1000000 : Int64) + (Int32.ofNat X).toInt64 = Int64.ofNat (1000000 + X) := by
      rw [Int32.toInt64_ofNat' (by rw [Int32.toInt_maxValue]; omega)]
      exact (Int64.ofNat_add 1000000 X).symm
    rw [← e2] at s2
    rw [th_free3 (by omega) (by omega) (by omega) (by omega) 0, ob2_some, if_pos rfl, th_pin1 (by rw [show (3 : Int32) = Int32.ofNat 3 from rfl, ad _ _ (by omega)]; omega), ob2_some, if_pos rfl,
      th_pin2 (by rw [zN_toInt (by omega)]; omega) hno, ob2_some, if_pos rfl, p255, ob2_some, if_pos rfl, th_unpin (by rw [show (3 : Int32) = Int32.ofNat 3 from rfl, ad _ _ (by omega)]; omega) 0 0, ob2_some, if_pos rfl,
      th_run (by rw [show (61 : Int32) = Int32.ofNat 61 from rfl, ad _ _ (by omega)]; omega) 0 0, ob2_some, if_pos rfl, th_set (by rw [show (51 : Int32) = Int32.ofNat 51 from rfl, ad _ _ (by omega)]; omega) 0, ob2_some, if_pos rfl,
      th_next (by rw [show (3 : Int32) = Int32.ofNat 3 from rfl, ad _ _ (by omega)]; omega) 0 0, ob2_some, if_pos rfl, th_gone hno 0 0, ob2_some, if_pos rfl, th_coming (by rw [show (101 : Int32) = Int32.ofNat 101 from rfl, ad _ _ (by omega)]; omega) 0, ob2_some, if_pos rfl,
      th_best (by rw [show (61 : Int32) = Int32.ofNat 61 from rfl, ad _ _ (by omega)]; omega) 0 0, ob2_some, if_pos rfl, th_would hno 0, ob2_some, if_pos rfl, th_keep (by rw [show (2 : Int32) = Int32.ofNat 2 from rfl, ad _ _ (by omega)]; omega) 0 0, ob2_some, if_pos rfl,
      th_back (by rw [sb _ (by omega)]; omega) 0 0, ob2_some, if_pos rfl, th_script0, ob2_some, if_pos rfl, s2, ob2_some, if_pos rfl, th_sim (by rw [show (61 : Int32) = Int32.ofNat 61 from rfl, ad _ _ (by omega)]; omega), ob2_some, if_pos rfl]
  have mid : ∀ no : Int32, ¬ (0 ≤ no.toInt ∧ no.toInt ≤ 255) → fL_refuses_23 (Int32.ofNat X) no v = some (1, v) := fun no hno => by
    unfold fL_refuses_23
    rw [hv_about hd hab 0 0, ob2_some, m2, m50, m99]
    by_cases c : Int32.ofNat (X % 2) = 0
    · rw [if_pos c]
      unfold fL_refuses_59
      rw [m2, if_pos c, m9]
      exact chain _ _ _ hno (by rw [irem_neg (by omega)]; omega) (Or.inl (by rw [sb _ (by omega)]; omega))
    · rw [if_neg c]
      unfold fL_refuses_59
      rw [m2, if_neg c, m9]
      exact chain _ _ _ hno (by rw [show (100 : Int32) = Int32.ofNat 100 from rfl, ad _ _ (by omega)]; omega) (Or.inr (by rw [show (256 : Int32) = Int32.ofNat 256 from rfl, ad _ _ (by omega)]; omega))
  unfold fL_refuses
  rw [m2, m99]
  by_cases c : Int32.ofNat (X % 2) = 0
  · rw [if_pos c]
    exact mid _ (by rw [sb _ (by omega)]; omega)
  · rw [if_neg c]
    exact mid _ (by rw [show (256 : Int32) = Int32.ofNat 256 from rfl, ad _ _ (by omega)]; omega)
