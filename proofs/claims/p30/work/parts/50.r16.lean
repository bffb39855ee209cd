/-! no more than sixteen ranges, whatever is called -/
def R16 (b : Nat → Int32) : Prop := cn (bg (zq b)) 256 ≤ 16
theorem R16_cpy {b : Nat → Int32} (h : R16 b) (b2 : Nat → Int32) : R16 (va_cpy b b2 0 0 256) := by
  unfold R16
  rw [zq_congr (b := b) (b2 := va_cpy b b2 0 0 256) (fun i hi => cpy_at b b2 hi)]
  exact h
theorem DS_16 : ∀ {n : Nat} {b : Nat → Int32} {dr : Int32} {b2 : Nat → Int32} {dr2 : Int32}, DS n b dr b2 dr2 → R16 b2
  | 0, _, _, _, _, h => by
    obtain ⟨h1, -, h3⟩ := h
    rw [h1]; exact h3
  | n + 1, _, _, _, _, h => by
    obtain ⟨-, s, -, h⟩ := h
    exact DS_16 h
theorem drop_16 {b : Nat → Int32} {dr : Int32} {b2 : Nat → Int32} {dr2 : Int32} (h : fX0_dropSurplus b dr = some (b2, dr2)) : R16 b2 := by
  obtain ⟨n, b3, dr3, e, hd⟩ := fx_drop b dr
  rw [e] at h
  cases h
  exact DS_16 hd
theorem write_16 : ∀ (f : Nat) (v1 v2 v3 v4 : Int32) (b : Nat → Int32) (qt dr : Int32) {r : Int32} {b2 : Nat → Int32} {qt2 dr2 : Int32}, fX0_writeSpan_5 f v1 v2 v3 v4 b qt dr = some (r, b2, qt2, dr2) → R16 b2 := by
  intro f
  induction f with
  | zero => intro v1 v2 v3 v4 b qt dr r b2 qt2 dr2 h; exact zn h
  | succ n ih =>
    intro v1 v2 v3 v4 b qt dr r b2 qt2 dr2 h
    rw [fX0_writeSpan_5] at h
    by_cases c1 : v1 + v2 ≤ v4
    · replace h := zt c1 h
      obtain ⟨b3, dr3, e, h⟩ := zb2 h
      cases h
      exact drop_16 e
    · replace h := zf c1 h
      obtain ⟨-, h⟩ := zi h
      by_cases c2 : b v4.toNatClampNeg < 0
      · replace h := zt c2 h
        obtain ⟨-, h⟩ := zi h
        exact ih _ _ _ _ _ _ _ h
      · replace h := zf c2 h
        obtain ⟨-, h⟩ := zi h
        exact ih _ _ _ _ _ _ _ h
theorem free_16 (tm : Int32) : ∀ (f : Nat) (v1 v2 v3 v4 : Int32) (b : Nat → Int32) (qt dr : Int32) {r : Int32} {b2 : Nat → Int32} {qt2 dr2 : Int32}, fX0_freeSpan_5 tm f v1 v2 v3 v4 b qt dr = some (r, b2, qt2, dr2) → R16 b2 := by
  intro f
  induction f with
  | zero => intro v1 v2 v3 v4 b qt dr r b2 qt2 dr2 h; exact zn h
  | succ n ih =>
    intro v1 v2 v3 v4 b qt dr r b2 qt2 dr2 h
    rw [fX0_freeSpan_5] at h
    by_cases c1 : v1 + v2 ≤ v4
    · replace h := zt c1 h
      obtain ⟨b3, dr3, e, h⟩ := zb2 h
      cases h
      exact drop_16 e
    · replace h := zf c1 h
      obtain ⟨-, h⟩ := zi h
      by_cases c2 : b v4.toNatClampNeg = -2
      · replace h := zt c2 h
        obtain ⟨b5, -, h⟩ := zb h
        exact ih _ _ _ _ _ _ _ h
      · replace h := zf c2 h
        exact ih _ _ _ _ _ _ _ h
theorem discard_16 : ∀ (f : Nat) (v3 v4 v5 : Int32) (b : Nat → Int32) (cm ds dr : Int32) {b2 : Nat → Int32} {cm2 ds2 dr2 : Int32}, fX0_discard_22 f v3 v4 v5 b cm ds dr = some (b2, cm2, ds2, dr2) → R16 b2 := by
  intro f
  induction f with
  | zero => intro v3 v4 v5 b cm ds dr b2 cm2 ds2 dr2 h; exact zn h
  | succ n ih =>
    intro v3 v4 v5 b cm ds dr b2 cm2 ds2 dr2 h
    rw [fX0_discard_22] at h
    by_cases c1 : v3 + v4 ≤ v5
    · replace h := zt c1 h
      obtain ⟨b3, dr3, e, h⟩ := zb2 h
      cases h
      exact drop_16 e
    · replace h := zf c1 h
      obtain ⟨-, h⟩ := zi h
      exact ih _ _ _ _ _ _ _ h
theorem tick7_16 (pF pL st : Nat → Int32) : ∀ (f : Nat) (v1 v2 : Int32) (b : Nat → Int32) (tm qt cm ds dr : Int32) {b2 : Nat → Int32} {tm2 qt2 cm2 ds2 dr2 : Int32}, R16 b → fX0_tick_7 pF pL st f v1 v2 b tm qt cm ds dr = some (b2, tm2, qt2, cm2, ds2, dr2) → R16 b2 := by
  intro f
  induction f with
  | zero => intro v1 v2 b tm qt cm ds dr b2 tm2 qt2 cm2 ds2 dr2 _ h; exact zn h
  | succ n ih =>
    intro v1 v2 b tm qt cm ds dr b2 tm2 qt2 cm2 ds2 dr2 hr h
    rw [fX0_tick_7] at h
    by_cases c1 : 256 ≤ v2
    · replace h := zt c1 h
      cases h
      exact hr
    · replace h := zf c1 h
      by_cases c2 : v1 ≤ st 4
      · replace h := zt c2 h
        cases h
        exact hr
      · replace h := zf c2 h
        obtain ⟨r3, -, h⟩ := zb h
        by_cases c3 : r3 = -1
        · replace h := zt c3 h
          cases h
          exact hr
        · replace h := zf c3 h
          obtain ⟨r5, -, h⟩ := zb h
          obtain ⟨r6, -, h⟩ := zb h
          obtain ⟨b7, cm7, ds7, dr7, e, h⟩ := zb4 h
          exact ih _ _ _ _ _ _ _ _ (discard_16 _ _ _ _ _ _ _ _ e) h
theorem tick_16 {b pF pL st : Nat → Int32} {tm qt cm ds dr : Int32} {b2 : Nat → Int32} {tm2 qt2 cm2 ds2 dr2 : Int32} (hr : R16 b) (h : fX0_tick b pF pL st tm qt cm ds dr = some (b2, tm2, qt2, cm2, ds2, dr2)) : R16 b2 := by
  unfold fX0_tick at h
  obtain ⟨r8, -, h⟩ := zb h
  exact tick7_16 _ _ _ _ _ _ _ _ _ _ _ _ hr h
theorem pass7_16 (pF pL st : Nat → Int32) : ∀ (f : Nat) (v1 v2 v3 : Int32) (b : Nat → Int32) (tm qt cm ds dr : Int32) {r : Int32} {b2 : Nat → Int32} {tm2 qt2 cm2 ds2 dr2 : Int32}, R16 b → fX0_passTicks_7 pF pL st f v1 v2 v3 b tm qt cm ds dr = some (r, b2, tm2, qt2, cm2, ds2, dr2) → R16 b2 := by
  intro f
  induction f with
  | zero => intro v1 v2 v3 b tm qt cm ds dr r b2 tm2 qt2 cm2 ds2 dr2 _ h; exact zn h
  | succ n ih =>
    intro v1 v2 v3 b tm qt cm ds dr r b2 tm2 qt2 cm2 ds2 dr2 hr h
    rw [fX0_passTicks_7] at h
    by_cases c1 : v1 ≤ v3
    · replace h := zt c1 h
      cases h
      exact hr
    · replace h := zf c1 h
      obtain ⟨b3, tm3, qt3, cm3, ds3, dr3, e, h⟩ := zb6 h
      exact ih _ _ _ _ _ _ _ _ _ (tick_16 hr e) h
theorem send7_16 (pF pL st : Nat → Int32) (tm : Int32) : ∀ (f : Nat) (v1 v2 : Int32) (b : Nat → Int32) (cm ds dr : Int32) {r : Int32} {b2 : Nat → Int32} {cm2 ds2 dr2 : Int32}, R16 b → fX0_sendAll_7 pF pL st tm f v1 v2 b cm ds dr = some (r, b2, cm2, ds2, dr2) → R16 b2 := by
  intro f
  induction f with
  | zero => intro v1 v2 b cm ds dr r b2 cm2 ds2 dr2 _ h; exact zn h
  | succ n ih =>
    intro v1 v2 b cm ds dr r b2 cm2 ds2 dr2 hr h
    rw [fX0_sendAll_7] at h
    by_cases c1 : 256 ≤ v2
    · replace h := zt c1 h
      cases h
      exact hr
    · replace h := zf c1 h
      obtain ⟨r2, -, h⟩ := zb h
      by_cases c3 : r2 = -1
      · replace h := zt c3 h
        cases h
        exact hr
      · replace h := zf c3 h
        obtain ⟨r4, -, h⟩ := zb h
        obtain ⟨b5, cm5, ds5, dr5, e, h⟩ := zb4 h
        exact ih _ _ _ _ _ _ (discard_16 _ _ _ _ _ _ _ _ e) h
/-- of all that are remembered -/
def RV16 (dvs : Nat → zDv) : Prop := ∀ i, R16 (dvs i).1
theorem rem_16 {ol pz : Int32} {dvs : Nat → zDv} {b pF pL st : Nat → Int32} {tm qt cm ds dr : Int32} {ol2 pz2 : Int32} {dvs2 : Nat → zDv} (hb : R16 b) (hv : RV16 dvs) (h : fX1_rem ol pz dvs b pF pL st tm qt cm ds dr = some (ol2, pz2, dvs2)) : RV16 dvs2 := by
  unfold fX1_rem at h
  obtain ⟨r1, -, h⟩ := zb h
  obtain ⟨-, h⟩ := zi h
  obtain ⟨b1, pF1, pL1, st1, tm1, qt1, cm1, ds1, dr1, e, h⟩ := zb9 h
  unfold fX0_copyFrom at e
  cases e
  cases h
  intro i
  show R16 (if i = _ then _ else _ : zDv).1
  by_cases c : i = r1.toNatClampNeg
  · rw [if_pos c]; exact R16_cpy hb _
  · rw [if_neg c]; exact hv i
theorem remember_16 {ol pz : Int32} {dvs : Nat → zDv} {b pF pL st : Nat → Int32} {tm qt cm ds dr : Int32} {ol2 pz2 : Int32} {dvs2 : Nat → zDv} (hb : R16 b) (hv : RV16 dvs) (h : fX1_remember ol pz dvs b pF pL st tm qt cm ds dr = some (ol2, pz2, dvs2)) : RV16 dvs2 := by
  unfold fX1_remember at h
  by_cases c : pz = 14
  · replace h := zt c h; exact rem_16 hb hv h
  · replace h := zf c h; exact rem_16 hb hv h
theorem take_16 {ol pz : Int32} {dvs : Nat → zDv} {b pF pL st : Nat → Int32} {pz2 : Int32} {b2 pF2 pL2 st2 : Nat → Int32} {tm2 qt2 cm2 ds2 dr2 : Int32} (hv : RV16 dvs) (h : fX1_takeBack ol pz dvs b pF pL st = some (pz2, b2, pF2, pL2, st2, tm2, qt2, cm2, ds2, dr2)) : R16 b2 := by
  unfold fX1_takeBack at h
  obtain ⟨r1, -, h⟩ := zb h
  obtain ⟨-, h⟩ := zi h
  obtain ⟨b1, pF1, pL1, st1, tm1, qt1, cm1, ds1, dr1, e, h⟩ := zb9 h
  unfold fX0_copyFrom at e
  cases e
  cases h
  exact R16_cpy (hv _) _
theorem xr_write {b pF pL st : Nat → Int32} {tm qt cm ds dr ol pz : Int32} {dvs : Nat → zDv} {a1 a2 k r : Int32} {b3 : Nat → Int32} {qt3 dr3 ol3 pz3 : Int32} {dvs3 : Nat → zDv} (hb : R16 b) (hv : RV16 dvs) (h : fX3_write b pF pL st tm qt cm ds dr ol pz dvs a1 a2 = some (k, r, b3, qt3, dr3, ol3, pz3, dvs3)) : R16 b3 ∧ RV16 dvs3 := by
  unfold fX3_write at h
  obtain ⟨k1, -, h⟩ := zb h
  by_cases c : k1 = 0
  · replace h := zt c h
    obtain ⟨ol2, pz2, dvs2, e1, h⟩ := zb3 h
    obtain ⟨r4, b4, qt4, dr4, e2, h⟩ := zb4 h
    cases h
    exact ⟨write_16 _ _ _ _ _ _ _ _ e2, remember_16 hb hv e1⟩
  · replace h := zf c h
    cases h
    exact ⟨hb, hv⟩
theorem xr_free {b pF pL st : Nat → Int32} {tm qt cm ds dr ol pz : Int32} {dvs : Nat → zDv} {a1 a2 k r : Int32} {b3 : Nat → Int32} {qt3 dr3 ol3 pz3 : Int32} {dvs3 : Nat → zDv} (hb : R16 b) (hv : RV16 dvs) (h : fX3_free b pF pL st tm qt cm ds dr ol pz dvs a1 a2 = some (k, r, b3, qt3, dr3, ol3, pz3, dvs3)) : R16 b3 ∧ RV16 dvs3 := by
  unfold fX3_free at h
  obtain ⟨k1, -, h⟩ := zb h
  by_cases c : k1 = 0
  · replace h := zt c h
    obtain ⟨ol2, pz2, dvs2, e1, h⟩ := zb3 h
    obtain ⟨r4, b4, qt4, dr4, e2, h⟩ := zb4 h
    cases h
    exact ⟨free_16 _ _ _ _ _ _ _ _ _ e2, remember_16 hb hv e1⟩
  · replace h := zf c h
    cases h
    exact ⟨hb, hv⟩
theorem xr_run {b pF pL st : Nat → Int32} {tm qt cm ds dr ol pz : Int32} {dvs : Nat → zDv} {a1 k r : Int32} {b3 : Nat → Int32} {tm3 qt3 cm3 ds3 dr3 ol3 pz3 : Int32} {dvs3 : Nat → zDv} (hb : R16 b) (hv : RV16 dvs) (h : fX3_run b pF pL st tm qt cm ds dr ol pz dvs a1 = some (k, r, b3, tm3, qt3, cm3, ds3, dr3, ol3, pz3, dvs3)) : R16 b3 ∧ RV16 dvs3 := by
  unfold fX3_run at h
  obtain ⟨k1, -, h⟩ := zb h
  by_cases c : k1 = 0
  · replace h := zt c h
    obtain ⟨ol2, pz2, dvs2, e1, h⟩ := zb3 h
    obtain ⟨r4, b4, tm4, qt4, cm4, ds4, dr4, e2, h⟩ := zb7 h
    cases h
    exact ⟨pass7_16 _ _ _ _ _ _ _ _ _ _ _ _ _ hb e2, remember_16 hb hv e1⟩
  · replace h := zf c h
    cases h
    exact ⟨hb, hv⟩
theorem xr_flush {b pF pL st : Nat → Int32} {tm qt cm ds dr ol pz : Int32} {dvs : Nat → zDv} {r : Int32} {b3 : Nat → Int32} {cm3 ds3 dr3 ol3 pz3 : Int32} {dvs3 : Nat → zDv} (hb : R16 b) (hv : RV16 dvs) (h : fX3_flush b pF pL st tm qt cm ds dr ol pz dvs = some (r, b3, cm3, ds3, dr3, ol3, pz3, dvs3)) : R16 b3 ∧ RV16 dvs3 := by
  unfold fX3_flush at h
  obtain ⟨ol2, pz2, dvs2, e1, h⟩ := zb3 h
  obtain ⟨r4, b4, cm4, ds4, dr4, e2, h⟩ := zb5 h
  cases h
  exact ⟨send7_16 _ _ _ _ _ _ _ _ _ _ _ hb e2, remember_16 hb hv e1⟩
theorem xr_pin {b pF pL st : Nat → Int32} {tm qt cm ds dr ol pz : Int32} {dvs : Nat → zDv} {a1 a2 a3 k r : Int32} {pF3 pL3 : Nat → Int32} {ol3 pz3 : Int32} {dvs3 : Nat → zDv} (hb : R16 b) (hv : RV16 dvs) (h : fX3_pin b pF pL st tm qt cm ds dr ol pz dvs a1 a2 a3 = some (k, r, pF3, pL3, ol3, pz3, dvs3)) : RV16 dvs3 := by
  unfold fX3_pin at h
  obtain ⟨k1, -, h⟩ := zb h
  by_cases c : k1 = 0
  · replace h := zt c h
    obtain ⟨k2, -, h⟩ := zb h
    by_cases c2 : k2 = 0
    · replace h := zt c2 h
      obtain ⟨ol2, pz2, dvs2, e1, h⟩ := zb3 h
      obtain ⟨pF4, pL4, -, h⟩ := zb2 h
      obtain ⟨r5, -, h⟩ := zb h
      cases h
      exact remember_16 hb hv e1
    · replace h := zf c2 h
      cases h
      exact hv
  · replace h := zf c h
    cases h
    exact hv
theorem xr_unpin {b pF pL st : Nat → Int32} {tm qt cm ds dr ol pz : Int32} {dvs : Nat → zDv} {a1 k r : Int32} {pF3 pL3 : Nat → Int32} {ol3 pz3 : Int32} {dvs3 : Nat → zDv} (hb : R16 b) (hv : RV16 dvs) (h : fX3_unpin b pF pL st tm qt cm ds dr ol pz dvs a1 = some (k, r, pF3, pL3, ol3, pz3, dvs3)) : RV16 dvs3 := by
  unfold fX3_unpin at h
  obtain ⟨k1, -, h⟩ := zb h
  by_cases c : k1 = 0
  · replace h := zt c h
    obtain ⟨r2, -, h⟩ := zb h
    by_cases c2 : r2 = 0
    · replace h := zt c2 h
      cases h
      exact hv
    · replace h := zf c2 h
      obtain ⟨ol2, pz2, dvs2, e1, h⟩ := zb3 h
      obtain ⟨pF4, pL4, -, h⟩ := zb2 h
      obtain ⟨r5, -, h⟩ := zb h
      cases h
      exact remember_16 hb hv e1
  · replace h := zf c h
    cases h
    exact hv
theorem xr_set {b pF pL st : Nat → Int32} {tm qt cm ds dr ol pz : Int32} {dvs : Nat → zDv} {a1 a2 k r : Int32} {st3 : Nat → Int32} {ol3 pz3 : Int32} {dvs3 : Nat → zDv} (hb : R16 b) (hv : RV16 dvs) (h : fX3_set b pF pL st tm qt cm ds dr ol pz dvs a1 a2 = some (k, r, st3, ol3, pz3, dvs3)) : RV16 dvs3 := by
  unfold fX3_set at h
  obtain ⟨r1, -, h⟩ := zb h
  by_cases c : r1 = 0
  · replace h := zt c h
    cases h
    exact hv
  · replace h := zf c h
    obtain ⟨ol2, pz2, dvs2, e1, h⟩ := zb3 h
    obtain ⟨r4, -, h⟩ := zb h
    obtain ⟨st5, -, h⟩ := zb h
    cases h
    exact remember_16 hb hv e1
theorem xr_undo {b pF pL st : Nat → Int32} {tm qt cm ds dr ol pz : Int32} {dvs : Nat → zDv} {k r : Int32} {b3 pF3 pL3 st3 : Nat → Int32} {tm3 qt3 cm3 ds3 dr3 pz3 : Int32} (hb : R16 b) (hv : RV16 dvs) (h : fX3_undo b pF pL st tm qt cm ds dr ol pz dvs = some (k, r, b3, pF3, pL3, st3, tm3, qt3, cm3, ds3, dr3, pz3)) : R16 b3 := by
  unfold fX3_undo at h
  obtain ⟨r1, -, h⟩ := zb h
  by_cases c : r1 = 0
  · replace h := zt c h
    cases h
    exact hb
  · replace h := zf c h
    obtain ⟨pz4, b4, pF4, pL4, st4, tm4, qt4, cm4, ds4, dr4, e, h⟩ := zb10 h
    obtain ⟨r4, -, h⟩ := zb h
    cases h
    exact take_16 hv e
theorem xr_save {b pF pL st : Nat → Int32} {tm qt cm ds dr : Int32} {us bS pFS pLS stS : Nat → Int32} {tmS qtS cmS dsS drS : Int32} {bT pFT pLT stT : Nat → Int32} {tmT qtT cmT dsT drT : Int32} {a1 k r : Int32} {us3 bS3 pFS3 pLS3 stS3 : Nat → Int32} {tmS3 qtS3 cmS3 dsS3 drS3 : Int32} {bT3 pFT3 pLT3 stT3 : Nat → Int32} {tmT3 qtT3 cmT3 dsT3 drT3 : Int32} (hb : R16 b) (hs : R16 bS) (ht : R16 bT) (h : fX3_save b pF pL st tm qt cm ds dr us bS pFS pLS stS tmS qtS cmS dsS drS bT pFT pLT stT tmT qtT cmT dsT drT a1 = some (k, r, us3, bS3, pFS3, pLS3, stS3, tmS3, qtS3, cmS3, dsS3, drS3, bT3, pFT3, pLT3, stT3, tmT3, qtT3, cmT3, dsT3, drT3)) : R16 bS3 ∧ R16 bT3 := by
  unfold fX3_save at h
  obtain ⟨k1, -, h⟩ := zb h
  by_cases c : k1 = 0
  · replace h := zt c h
    by_cases c1 : a1 = 0
    · replace h := zt c1 h
      obtain ⟨b4, pF4, pL4, st4, tm4, qt4, cm4, ds4, dr4, e, h⟩ := zb9 h
      unfold fX0_copyFrom at e
      cases e
      obtain ⟨-, h⟩ := zi h
      obtain ⟨r5, -, h⟩ := zb h
      cases h
      exact ⟨R16_cpy hb _, ht⟩
    · replace h := zf c1 h
      by_cases c2 : a1 = 1
      · replace h := zt c2 h
        obtain ⟨b4, pF4, pL4, st4, tm4, qt4, cm4, ds4, dr4, e, h⟩ := zb9 h
        unfold fX0_copyFrom at e
        cases e
        obtain ⟨-, h⟩ := zi h
        obtain ⟨r5, -, h⟩ := zb h
        cases h
        exact ⟨hs, R16_cpy hb _⟩
      · exact zn (zf c2 h)
  · replace h := zf c h
    cases h
    exact ⟨hs, ht⟩
theorem xr_restore {b pF pL st : Nat → Int32} {tm qt cm ds dr pz : Int32} {us bS pFS pLS stS : Nat → Int32} {tmS qtS cmS dsS drS : Int32} {bT pFT pLT stT : Nat → Int32} {tmT qtT cmT dsT drT : Int32} {a1 k r : Int32} {b3 pF3 pL3 st3 : Nat → Int32} {tm3 qt3 cm3 ds3 dr3 pz3 : Int32} (hb : R16 b) (hs : R16 bS) (ht : R16 bT) (h : fX3_restore b pF pL st tm qt cm ds dr pz us bS pFS pLS stS tmS qtS cmS dsS drS bT pFT pLT stT tmT qtT cmT dsT drT a1 = some (k, r, b3, pF3, pL3, st3, tm3, qt3, cm3, ds3, dr3, pz3)) : R16 b3 := by
  unfold fX3_restore at h
  obtain ⟨k1, -, h⟩ := zb h
  by_cases c : k1 = 0
  · replace h := zt c h
    obtain ⟨-, h⟩ := zi h
    by_cases c0 : us a1.toNatClampNeg = 0
    · replace h := zt c0 h
      cases h
      exact hb
    · replace h := zf c0 h
      by_cases c1 : a1 = 0
      · replace h := zt c1 h
        obtain ⟨b4, pF4, pL4, st4, tm4, qt4, cm4, ds4, dr4, e, h⟩ := zb9 h
        unfold fX0_copyFrom at e
        cases e
        obtain ⟨p6, -, h⟩ := zb h
        obtain ⟨r7, -, h⟩ := zb h
        cases h
        exact R16_cpy hs _
      · replace h := zf c1 h
        by_cases c2 : a1 = 1
        · replace h := zt c2 h
          obtain ⟨b4, pF4, pL4, st4, tm4, qt4, cm4, ds4, dr4, e, h⟩ := zb9 h
          unfold fX0_copyFrom at e
          cases e
          obtain ⟨p6, -, h⟩ := zb h
          obtain ⟨r7, -, h⟩ := zb h
          cases h
          exact R16_cpy ht _
        · exact zn (zf c2 h)
  · replace h := zf c h
    cases h
    exact hb
