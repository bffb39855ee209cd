/-! what the calls that only look answer, over contents whose device is known -/
abbrev zDev (v : zXS) : zDv := v.2.2.2.2.2.1
def wC (v : zXS) (c : zDv) : zXS := (v.1, v.2.1, v.2.2.1, v.2.2.2.1, v.2.2.2.2.1, v.2.2.2.2.2.1, c, v.2.2.2.2.2.2.2)
theorem wC_dev (v : zXS) (c : zDv) : zDev (wC v c) = zDev v := rfl
theorem wC_wC (v : zXS) (c c2 : zDv) : wC (wC v c) c2 = wC v c2 := rfl
theorem wC_id (v : zXS) : wC v v.2.2.2.2.2.2.1 = v := rfl
theorem wC_LK {v : zXS} {e : zRS} {B : Nat} (h : LK v e B) (c : zDv) : LK (wC v c) e B := h
theorem cpy_self (f : Nat → Int32) (n : Nat) : va_cpy f f 0 0 n = f := funext fun i => by
  unfold va_cpy
  by_cases c : 0 ≤ i ∧ i < 0 + n
  · rw [if_pos c, Nat.zero_add, Nat.sub_zero]
  · rw [if_neg c]
section HV
variable {v : zXS} {b pF pL st : Nat → Int32} {tm qt cm ds dr : Int32}
theorem hv_about (hd : zDev v = (b, pF, pL, st, tm, qt, cm, ds, dr)) {a2 r : Int32} (e : fX3_about b pF pL tm qt cm ds dr a2 = some (0, r)) (a3 a4 : Int32) : fL_call v 2 a2 a3 a4 = some (r, v) := by
  obtain ⟨ch, nu, le, ta, lt, ⟨b', pF', pL', st', tm', qt', cm', ds', dr'⟩, ⟨bC, pFC, pLC, stC, tmC, qtC, cmC, dsC, drC⟩, ol, pz, dvs, us, ⟨bS, pFS, pLS, stS, tmS, qtS, cmS, dsS, drS⟩, ⟨bT, pFT, pLT, stT, tmT, qtT, cmT, dsT, drT⟩⟩ := v
  replace hd : (b', pF', pL', st', tm', qt', cm', ds', dr') = (b, pF, pL, st, tm, qt, cm, ds, dr) := hd
  cases hd
  rw [call_2]
  show ob2 (fX3_about b pF pL tm qt cm ds dr a2) (fun k r => if k = 0 then some (r, (ch, nu, le, ta, lt, (b, pF, pL, st, tm, qt, cm, ds, dr), (bC, pFC, pLC, stC, tmC, qtC, cmC, dsC, drC), ol, pz, dvs, us, (bS, pFS, pLS, stS, tmS, qtS, cmS, dsS, drS), (bT, pFT, pLT, stT, tmT, qtT, cmT, dsT, drT))) else if k = 2 then some ((-9999002), (ch, nu, le, ta, lt, (b, pF, pL, st, tm, qt, cm, ds, dr), (bC, pFC, pLC, stC, tmC, qtC, cmC, dsC, drC), ol, pz, dvs, us, (bS, pFS, pLS, stS, tmS, qtS, cmS, dsS, drS), (bT, pFT, pLT, stT, tmT, qtT, cmT, dsT, drT))) else none) = _
  rw [e]
  rfl
theorem hv_block (hd : zDev v = (b, pF, pL, st, tm, qt, cm, ds, dr)) {a2 a3 r : Int32} (e : fX3_block b pF pL a2 a3 = some (0, r)) (a4 : Int32) : fL_call v 3 a2 a3 a4 = some (r, v) := by
  obtain ⟨ch, nu, le, ta, lt, ⟨b', pF', pL', st', tm', qt', cm', ds', dr'⟩, ⟨bC, pFC, pLC, stC, tmC, qtC, cmC, dsC, drC⟩, ol, pz, dvs, us, ⟨bS, pFS, pLS, stS, tmS, qtS, cmS, dsS, drS⟩, ⟨bT, pFT, pLT, stT, tmT, qtT, cmT, dsT, drT⟩⟩ := v
  replace hd : (b', pF', pL', st', tm', qt', cm', ds', dr') = (b, pF, pL, st, tm, qt, cm, ds, dr) := hd
  cases hd
  rw [call_3]
  show ob2 (fX3_block b pF pL a2 a3) (fun k r => if k = 0 then some (r, (ch, nu, le, ta, lt, (b, pF, pL, st, tm, qt, cm, ds, dr), (bC, pFC, pLC, stC, tmC, qtC, cmC, dsC, drC), ol, pz, dvs, us, (bS, pFS, pLS, stS, tmS, qtS, cmS, dsS, drS), (bT, pFT, pLT, stT, tmT, qtT, cmT, dsT, drT))) else if k = 1 then some ((-9999001), (ch, nu, le, ta, lt, (b, pF, pL, st, tm, qt, cm, ds, dr), (bC, pFC, pLC, stC, tmC, qtC, cmC, dsC, drC), ol, pz, dvs, us, (bS, pFS, pLS, stS, tmS, qtS, cmS, dsS, drS), (bT, pFT, pLT, stT, tmT, qtT, cmT, dsT, drT))) else if k = 2 then some ((-9999002), (ch, nu, le, ta, lt, (b, pF, pL, st, tm, qt, cm, ds, dr), (bC, pFC, pLC, stC, tmC, qtC, cmC, dsC, drC), ol, pz, dvs, us, (bS, pFS, pLS, stS, tmS, qtS, cmS, dsS, drS), (bT, pFT, pLT, stT, tmT, qtT, cmT, dsT, drT))) else none) = _
  rw [e]
  rfl
theorem hv_range (hd : zDev v = (b, pF, pL, st, tm, qt, cm, ds, dr)) {a2 a3 r : Int32} (e : fX3_range b pF pL st tm a2 a3 = some (0, r)) (a4 : Int32) : fL_call v 4 a2 a3 a4 = some (r, v) := by
  obtain ⟨ch, nu, le, ta, lt, ⟨b', pF', pL', st', tm', qt', cm', ds', dr'⟩, ⟨bC, pFC, pLC, stC, tmC, qtC, cmC, dsC, drC⟩, ol, pz, dvs, us, ⟨bS, pFS, pLS, stS, tmS, qtS, cmS, dsS, drS⟩, ⟨bT, pFT, pLT, stT, tmT, qtT, cmT, dsT, drT⟩⟩ := v
  replace hd : (b', pF', pL', st', tm', qt', cm', ds', dr') = (b, pF, pL, st, tm, qt, cm, ds, dr) := hd
  cases hd
  rw [call_4]
  show ob2 (fX3_range b pF pL st tm a2 a3) (fun k r => if k = 0 then some (r, (ch, nu, le, ta, lt, (b, pF, pL, st, tm, qt, cm, ds, dr), (bC, pFC, pLC, stC, tmC, qtC, cmC, dsC, drC), ol, pz, dvs, us, (bS, pFS, pLS, stS, tmS, qtS, cmS, dsS, drS), (bT, pFT, pLT, stT, tmT, qtT, cmT, dsT, drT))) else if k = 1 then some ((-9999001), (ch, nu, le, ta, lt, (b, pF, pL, st, tm, qt, cm, ds, dr), (bC, pFC, pLC, stC, tmC, qtC, cmC, dsC, drC), ol, pz, dvs, us, (bS, pFS, pLS, stS, tmS, qtS, cmS, dsS, drS), (bT, pFT, pLT, stT, tmT, qtT, cmT, dsT, drT))) else if k = 2 then some ((-9999002), (ch, nu, le, ta, lt, (b, pF, pL, st, tm, qt, cm, ds, dr), (bC, pFC, pLC, stC, tmC, qtC, cmC, dsC, drC), ol, pz, dvs, us, (bS, pFS, pLS, stS, tmS, qtS, cmS, dsS, drS), (bT, pFT, pLT, stT, tmT, qtT, cmT, dsT, drT))) else none) = _
  rw [e]
  rfl
theorem hv_pinned (hd : zDev v = (b, pF, pL, st, tm, qt, cm, ds, dr)) {a2 a3 r : Int32} (e : fX3_pinned pF pL a2 a3 = some (0, r)) (a4 : Int32) : fL_call v 5 a2 a3 a4 = some (r, v) := by
  obtain ⟨ch, nu, le, ta, lt, ⟨b', pF', pL', st', tm', qt', cm', ds', dr'⟩, ⟨bC, pFC, pLC, stC, tmC, qtC, cmC, dsC, drC⟩, ol, pz, dvs, us, ⟨bS, pFS, pLS, stS, tmS, qtS, cmS, dsS, drS⟩, ⟨bT, pFT, pLT, stT, tmT, qtT, cmT, dsT, drT⟩⟩ := v
  replace hd : (b', pF', pL', st', tm', qt', cm', ds', dr') = (b, pF, pL, st, tm, qt, cm, ds, dr) := hd
  cases hd
  rw [call_5]
  show ob2 (fX3_pinned pF pL a2 a3) (fun k r => if k = 0 then some (r, (ch, nu, le, ta, lt, (b, pF, pL, st, tm, qt, cm, ds, dr), (bC, pFC, pLC, stC, tmC, qtC, cmC, dsC, drC), ol, pz, dvs, us, (bS, pFS, pLS, stS, tmS, qtS, cmS, dsS, drS), (bT, pFT, pLT, stT, tmT, qtT, cmT, dsT, drT))) else if k = 1 then some ((-9999001), (ch, nu, le, ta, lt, (b, pF, pL, st, tm, qt, cm, ds, dr), (bC, pFC, pLC, stC, tmC, qtC, cmC, dsC, drC), ol, pz, dvs, us, (bS, pFS, pLS, stS, tmS, qtS, cmS, dsS, drS), (bT, pFT, pLT, stT, tmT, qtT, cmT, dsT, drT))) else if k = 2 then some ((-9999002), (ch, nu, le, ta, lt, (b, pF, pL, st, tm, qt, cm, ds, dr), (bC, pFC, pLC, stC, tmC, qtC, cmC, dsC, drC), ol, pz, dvs, us, (bS, pFS, pLS, stS, tmS, qtS, cmS, dsS, drS), (bT, pFT, pLT, stT, tmT, qtT, cmT, dsT, drT))) else none) = _
  rw [e]
  rfl
theorem hv_setting (hd : zDev v = (b, pF, pL, st, tm, qt, cm, ds, dr)) {a2 r : Int32} (e : fX3_setting st a2 = some (0, r)) (a3 a4 : Int32) : fL_call v 6 a2 a3 a4 = some (r, v) := by
  obtain ⟨ch, nu, le, ta, lt, ⟨b', pF', pL', st', tm', qt', cm', ds', dr'⟩, ⟨bC, pFC, pLC, stC, tmC, qtC, cmC, dsC, drC⟩, ol, pz, dvs, us, ⟨bS, pFS, pLS, stS, tmS, qtS, cmS, dsS, drS⟩, ⟨bT, pFT, pLT, stT, tmT, qtT, cmT, dsT, drT⟩⟩ := v
  replace hd : (b', pF', pL', st', tm', qt', cm', ds', dr') = (b, pF, pL, st, tm, qt, cm, ds, dr) := hd
  cases hd
  rw [call_6]
  show ob2 (fX3_setting st a2) (fun k r => if k = 0 then some (r, (ch, nu, le, ta, lt, (b, pF, pL, st, tm, qt, cm, ds, dr), (bC, pFC, pLC, stC, tmC, qtC, cmC, dsC, drC), ol, pz, dvs, us, (bS, pFS, pLS, stS, tmS, qtS, cmS, dsS, drS), (bT, pFT, pLT, stT, tmT, qtT, cmT, dsT, drT))) else if k = 2 then some ((-9999002), (ch, nu, le, ta, lt, (b, pF, pL, st, tm, qt, cm, ds, dr), (bC, pFC, pLC, stC, tmC, qtC, cmC, dsC, drC), ol, pz, dvs, us, (bS, pFS, pLS, stS, tmS, qtS, cmS, dsS, drS), (bT, pFT, pLT, stT, tmT, qtT, cmT, dsT, drT))) else none) = _
  rw [e]
  rfl
theorem hv_next {nw : Nat → Int32} {B : Nat} (hd : zDev v = (b, pF, pL, st, tm, qt, cm, ds, dr)) (hZ : ZD b pF pL st tm qt cm ds dr nw B) (hB : B + 200 < 2147483647) {a2 r : Int32} (e : ∃ c1 c2 c3 c4 c5 c6 c7 c8 c9, fX3_next b pF pL st tm qt cm ds dr b pF pL st tm qt cm ds dr a2 = some (0, r, c1, c2, c3, c4, c5, c6, c7, c8, c9)) (a3 a4 : Int32) : ∃ c, fL_call v 14 a2 a3 a4 = some (r, wC v c) := by
  obtain ⟨ch, nu, le, ta, lt, ⟨b', pF', pL', st', tm', qt', cm', ds', dr'⟩, ⟨bC, pFC, pLC, stC, tmC, qtC, cmC, dsC, drC⟩, ol, pz, dvs, us, ⟨bS, pFS, pLS, stS, tmS, qtS, cmS, dsS, drS⟩, ⟨bT, pFT, pLT, stT, tmT, qtT, cmT, dsT, drT⟩⟩ := v
  replace hd : (b', pF', pL', st', tm', qt', cm', ds', dr') = (b, pF, pL, st, tm, qt, cm, ds, dr) := hd
  cases hd
  obtain ⟨c1, c2, c3, c4, c5, c6, c7, c8, c9, e⟩ := e
  obtain ⟨wP, uP, aP, bP, pFP, pLP, stP, tmP, qtP, cmP, dsP, drP, xP, sFP, sBP, trP, e1P, e2P, hwP⟩ := st_next hZ hB bC pFC pLC stC tmC qtC cmC dsC drC 0 0 (fun _ => 0) a2
  obtain ⟨wQ, uQ, aQ, bQ, pFQ, pLQ, stQ, tmQ, qtQ, cmQ, dsQ, drQ, xQ, sFQ, sBQ, trQ, e1Q, e2Q, hwQ⟩ := st_next hZ hB b pF pL st tm qt cm ds dr 0 0 (fun _ => 0) a2
  rw [e] at e1Q
  rw [e2P] at e2Q
  have h0 : (0 : Int32) = Int32.ofNat wQ ∧ r = aQ := by
    have := Option.some.inj e1Q
    exact ⟨congrArg Prod.fst this, congrArg (fun z => z.2.1) this⟩
  have h1 : xP = xQ ∧ Int32.ofNat uP = Int32.ofNat uQ := by
    have := Option.some.inj e2Q
    exact ⟨congrArg Prod.fst this, congrArg (fun z => z.2.1) this⟩
  have hk : Int32.ofNat wP = 0 ∧ aP = r := by
    rcases hwQ with ⟨q1, q2, q3⟩ | ⟨q1, q2⟩
    · rcases hwP with ⟨p1, p2, p3⟩ | ⟨p1, p2⟩
      · rw [p1]; exact ⟨rfl, by rw [p3, h1.1, ← q3, h0.2]⟩
      · rw [p2, q2] at h1; exact absurd h1.2 (by decide)
    · rw [q1] at h0; exact absurd h0.1 (by decide)
  rw [hk.1, hk.2] at e1P
  refine ⟨(bP, pFP, pLP, stP, tmP, qtP, cmP, dsP, drP), ?_⟩
  rw [call_14]
  show ob11 (fX3_next b pF pL st tm qt cm ds dr bC pFC pLC stC tmC qtC cmC dsC drC a2) (fun k r bC2 pFC2 pLC2 stC2 tmC2 qtC2 cmC2 dsC2 drC2 => if k = 0 then some (r, (ch, nu, le, ta, lt, (b, pF, pL, st, tm, qt, cm, ds, dr), (bC2, pFC2, pLC2, stC2, tmC2, qtC2, cmC2, dsC2, drC2), ol, pz, dvs, us, (bS, pFS, pLS, stS, tmS, qtS, cmS, dsS, drS), (bT, pFT, pLT, stT, tmT, qtT, cmT, dsT, drT))) else if k = 2 then some ((-9999002), (ch, nu, le, ta, lt, (b, pF, pL, st, tm, qt, cm, ds, dr), (bC2, pFC2, pLC2, stC2, tmC2, qtC2, cmC2, dsC2, drC2), ol, pz, dvs, us, (bS, pFS, pLS, stS, tmS, qtS, cmS, dsS, drS), (bT, pFT, pLT, stT, tmT, qtT, cmT, dsT, drT))) else none) = _
  rw [e1P]
  rfl
theorem hv_goneIn {nw : Nat → Int32} {B : Nat} (hd : zDev v = (b, pF, pL, st, tm, qt, cm, ds, dr)) (hZ : ZD b pF pL st tm qt cm ds dr nw B) (hB : B + 200 < 2147483647) {a2 r : Int32} (e : ∃ c1 c2 c3 c4 c5 c6 c7 c8 c9, fX3_goneIn b pF pL st tm qt cm ds dr b pF pL st tm qt cm ds dr a2 = some (0, r, c1, c2, c3, c4, c5, c6, c7, c8, c9)) (a3 a4 : Int32) : ∃ c, fL_call v 15 a2 a3 a4 = some (r, wC v c) := by
  obtain ⟨ch, nu, le, ta, lt, ⟨b', pF', pL', st', tm', qt', cm', ds', dr'⟩, ⟨bC, pFC, pLC, stC, tmC, qtC, cmC, dsC, drC⟩, ol, pz, dvs, us, ⟨bS, pFS, pLS, stS, tmS, qtS, cmS, dsS, drS⟩, ⟨bT, pFT, pLT, stT, tmT, qtT, cmT, dsT, drT⟩⟩ := v
  replace hd : (b', pF', pL', st', tm', qt', cm', ds', dr') = (b, pF, pL, st, tm, qt, cm, ds, dr) := hd
  cases hd
  obtain ⟨c1, c2, c3, c4, c5, c6, c7, c8, c9, e⟩ := e
  obtain ⟨wP, aP, bP, pFP, pLP, stP, tmP, qtP, cmP, dsP, drP, xP, sFP, sBP, trP, e1P, e2P, hwP⟩ := st_goneIn hZ hB bC pFC pLC stC tmC qtC cmC dsC drC 0 0 (fun _ => 0) a2
  obtain ⟨wQ, aQ, bQ, pFQ, pLQ, stQ, tmQ, qtQ, cmQ, dsQ, drQ, xQ, sFQ, sBQ, trQ, e1Q, e2Q, hwQ⟩ := st_goneIn hZ hB b pF pL st tm qt cm ds dr 0 0 (fun _ => 0) a2
  rw [e] at e1Q
  rw [e2P] at e2Q
  have h0 : (0 : Int32) = Int32.ofNat wQ ∧ r = aQ := by
    have := Option.some.inj e1Q
    exact ⟨congrArg Prod.fst this, congrArg (fun z => z.2.1) this⟩
  have h1 : xP = xQ ∧ Int32.ofNat wP = Int32.ofNat wQ := by
    have := Option.some.inj e2Q
    exact ⟨congrArg Prod.fst this, congrArg (fun z => z.2.1) this⟩
  have hk : Int32.ofNat wP = 0 ∧ aP = r := by
    rcases hwQ with ⟨q1, q3⟩ | q1
    · rcases hwP with ⟨p1, p3⟩ | p1
      · rw [p1]; exact ⟨rfl, by rw [p3, h1.1, ← q3, h0.2]⟩
      · rw [p1, q1] at h1; exact absurd h1.2 (by decide)
    · rw [q1] at h0; exact absurd h0.1 (by decide)
  rw [hk.1, hk.2] at e1P
  refine ⟨(bP, pFP, pLP, stP, tmP, qtP, cmP, dsP, drP), ?_⟩
  rw [call_15]
  show ob11 (fX3_goneIn b pF pL st tm qt cm ds dr bC pFC pLC stC tmC qtC cmC dsC drC a2) (fun k r bC2 pFC2 pLC2 stC2 tmC2 qtC2 cmC2 dsC2 drC2 => if k = 0 then some (r, (ch, nu, le, ta, lt, (b, pF, pL, st, tm, qt, cm, ds, dr), (bC2, pFC2, pLC2, stC2, tmC2, qtC2, cmC2, dsC2, drC2), ol, pz, dvs, us, (bS, pFS, pLS, stS, tmS, qtS, cmS, dsS, drS), (bT, pFT, pLT, stT, tmT, qtT, cmT, dsT, drT))) else if k = 1 then some ((-9999001), (ch, nu, le, ta, lt, (b, pF, pL, st, tm, qt, cm, ds, dr), (bC2, pFC2, pLC2, stC2, tmC2, qtC2, cmC2, dsC2, drC2), ol, pz, dvs, us, (bS, pFS, pLS, stS, tmS, qtS, cmS, dsS, drS), (bT, pFT, pLT, stT, tmT, qtT, cmT, dsT, drT))) else none) = _
  rw [e1P]
  rfl
theorem hv_coming {nw : Nat → Int32} {B : Nat} (hd : zDev v = (b, pF, pL, st, tm, qt, cm, ds, dr)) (hZ : ZD b pF pL st tm qt cm ds dr nw B) (hB : B + 200 < 2147483647) {a2 a3 r : Int32} (e : ∃ c1 c2 c3 c4 c5 c6 c7 c8 c9, fX3_coming b pF pL st tm qt cm ds dr b pF pL st tm qt cm ds dr a2 a3 = some (0, r, c1, c2, c3, c4, c5, c6, c7, c8, c9)) (a4 : Int32) : ∃ c, fL_call v 16 a2 a3 a4 = some (r, wC v c) := by
  obtain ⟨ch, nu, le, ta, lt, ⟨b', pF', pL', st', tm', qt', cm', ds', dr'⟩, ⟨bC, pFC, pLC, stC, tmC, qtC, cmC, dsC, drC⟩, ol, pz, dvs, us, ⟨bS, pFS, pLS, stS, tmS, qtS, cmS, dsS, drS⟩, ⟨bT, pFT, pLT, stT, tmT, qtT, cmT, dsT, drT⟩⟩ := v
  replace hd : (b', pF', pL', st', tm', qt', cm', ds', dr') = (b, pF, pL, st, tm, qt, cm, ds, dr) := hd
  cases hd
  obtain ⟨c1, c2, c3, c4, c5, c6, c7, c8, c9, e⟩ := e
  obtain ⟨wP, uP, aP, bP, pFP, pLP, stP, tmP, qtP, cmP, dsP, drP, xP, sFP, sBP, trP, e1P, e2P, hwP⟩ := st_coming hZ (by omega) bC pFC pLC stC tmC qtC cmC dsC drC 0 0 (fun _ => 0) a2 a3
  obtain ⟨wQ, uQ, aQ, bQ, pFQ, pLQ, stQ, tmQ, qtQ, cmQ, dsQ, drQ, xQ, sFQ, sBQ, trQ, e1Q, e2Q, hwQ⟩ := st_coming hZ (by omega) b pF pL st tm qt cm ds dr 0 0 (fun _ => 0) a2 a3
  rw [e] at e1Q
  rw [e2P] at e2Q
  have h0 : (0 : Int32) = Int32.ofNat wQ ∧ r = aQ := by
    have := Option.some.inj e1Q
    exact ⟨congrArg Prod.fst this, congrArg (fun z => z.2.1) this⟩
  have h1 : xP = xQ ∧ Int32.ofNat uP = Int32.ofNat uQ := by
    have := Option.some.inj e2Q
    exact ⟨congrArg Prod.fst this, congrArg (fun z => z.2.1) this⟩
  have hk : Int32.ofNat wP = 0 ∧ aP = r := by
    rcases hwQ with ⟨q1, q2, q3⟩ | ⟨q1, q2⟩
    · rcases hwP with ⟨p1, p2, p3⟩ | ⟨p1, p2⟩
      · rw [p1]; exact ⟨rfl, by rw [p3, h1.1, ← q3, h0.2]⟩
      · rw [p2, q2] at h1; exact absurd h1.2 (by decide)
    · rw [q1] at h0; exact absurd h0.1 (by decide)
  rw [hk.1, hk.2] at e1P
  refine ⟨(bP, pFP, pLP, stP, tmP, qtP, cmP, dsP, drP), ?_⟩
  rw [call_16]
  show ob11 (fX3_coming b pF pL st tm qt cm ds dr bC pFC pLC stC tmC qtC cmC dsC drC a2 a3) (fun k r bC2 pFC2 pLC2 stC2 tmC2 qtC2 cmC2 dsC2 drC2 => if k = 0 then some (r, (ch, nu, le, ta, lt, (b, pF, pL, st, tm, qt, cm, ds, dr), (bC2, pFC2, pLC2, stC2, tmC2, qtC2, cmC2, dsC2, drC2), ol, pz, dvs, us, (bS, pFS, pLS, stS, tmS, qtS, cmS, dsS, drS), (bT, pFT, pLT, stT, tmT, qtT, cmT, dsT, drT))) else if k = 2 then some ((-9999002), (ch, nu, le, ta, lt, (b, pF, pL, st, tm, qt, cm, ds, dr), (bC2, pFC2, pLC2, stC2, tmC2, qtC2, cmC2, dsC2, drC2), ol, pz, dvs, us, (bS, pFS, pLS, stS, tmS, qtS, cmS, dsS, drS), (bT, pFT, pLT, stT, tmT, qtT, cmT, dsT, drT))) else none) = _
  rw [e1P]
  rfl
end HV
section HA
variable {b pF pL st : Nat → Int32} {T : Nat} {qt cm ds dr : Int32}
theorem va_0 : fX3_about b pF pL (Int32.ofNat T) qt cm ds dr 0 = some (0, Int32.ofNat (cn (fun i => decide (b i = -2)) 256)) := by
  show ob (fX0_count b (-2)) (fun r2 => some (0, r2)) = _
  rw [fx_count]; rfl
theorem va_1 : fX3_about b pF pL (Int32.ofNat T) qt cm ds dr 1 = some (0, Int32.ofNat (cn (fun i => !decide (b i = -1)) 256)) := by
  show ob (fX0_count b (-1)) (fun r2 => some (0, 256 - r2)) = _
  rw [fx_count, ob_some]
  have e := cn_not (fun i => decide (b i = -1)) 256
  rw [show (256 : Int32) - Int32.ofNat (cn (fun i => decide (b i = -1)) 256) = Int32.ofNat (256 - cn (fun i => decide (b i = -1)) 256) from zN_sub (a := 256) (by omega)]
  rw [show 256 - cn (fun i => decide (b i = -1)) 256 = cn (fun i => !decide (b i = -1)) 256 by omega]
theorem va_2 : fX3_about b pF pL (Int32.ofNat T) qt cm ds dr 2 = some (0, Int32.ofNat (cn (bg (zq b)) 256)) := by
  show ob (fX0_countRanges b) (fun r2 => some (0, r2)) = _
  rw [fx_countRanges]; rfl
theorem va_3 : fX3_about b pF pL (Int32.ofNat T) qt cm ds dr 3 = some (0, Int32.ofNat (cn (zq b) 256)) := by
  show ob (fX0_countQueued b) (fun r2 => some (0, r2)) = _
  rw [fx_countQueued]; rfl
theorem va_4 : fX3_about b pF pL (Int32.ofNat T) qt cm ds dr 4 = some (0, Int32.ofNat T) := rfl
theorem va_6 : fX3_about b pF pL (Int32.ofNat T) qt cm ds dr 6 = some (0, cm) := rfl
theorem va_9 (hp : PV pF pL) : fX3_about b pF pL (Int32.ofNat T) qt cm ds dr 9 = some (0, Int32.ofNat (cn (pn pF pL) 256)) := by
  show ob (fX0_countPinned pF pL) (fun r2 => some (0, r2)) = _
  rw [fx_countPinned hp]; rfl
theorem va_10 : fX3_about b pF pL (Int32.ofNat T) qt cm ds dr 10 = some (0, Int32.ofNat (cn (fun i => decide (b i = -3)) 256)) := by
  show ob (fX0_count b (-3)) (fun r2 => some (0, r2)) = _
  rw [fx_count]; rfl
theorem chk_block {j : Nat} (hj : j < 256) : fX3_checkBlock (Int32.ofNat j) = some 0 := by
  unfold fX3_checkBlock
  rw [cx_isBlock, zN_toInt (by omega), decide_eq_true (by omega)]
  rfl
theorem vb_0 {j : Nat} (hj : j < 256) : fX3_block b pF pL (Int32.ofNat j) 0 = some (0, bi (decide (b j = -2))) := by
  unfold fX3_block
  rw [chk_block hj, ob_some, if_pos rfl, if_pos rfl]
  unfold fX0_isAlive
  rw [if_neg (zi256 hj), zk256 hj]
  by_cases c : b j = -2
  · rw [decide_eq_true c]; simp only [c]; rfl
  · rw [decide_eq_false c]; simp only [c]; rfl
theorem vb_1 {j : Nat} (hj : j < 256) : fX3_block b pF pL (Int32.ofNat j) 1 = some (0, bi (!decide (b j = -1))) := by
  unfold fX3_block
  rw [chk_block hj, ob_some, if_pos rfl, if_neg (by decide), if_pos rfl, held_ b hj, ob_some]
  by_cases c : b j = -1
  · rw [if_pos c, decide_eq_true c]; rfl
  · rw [if_neg c, decide_eq_false c]; rfl
/-- the number of the range that a block is in -/
def rv (q : Nat → Bool) (j : Nat) : Int32 := if q j = true then Int32.ofNat (cn (bg q) (j + 1) - 1) else -1
theorem bg_up {q : Nat → Bool} {j : Nat} (h : q j = true) : 0 < cn (bg q) (j + 1) := by
  induction j with
  | zero =>
    have : bg q 0 = true := bg_iff.mpr ⟨h, fun h0 => absurd h0 (Nat.lt_irrefl _)⟩
    rw [cn, this]; simp
  | succ j ih =>
    cases c : q j with
    | true => exact Nat.lt_of_lt_of_le (ih c) (cn_mono _ _ (by omega))
    | false =>
      have : bg q (j + 1) = true := bg_iff.mpr ⟨h, fun _ => c⟩
      rw [cn, this]; simp
theorem vb_2 {j : Nat} (hj : j < 256) : fX3_block b pF pL (Int32.ofNat j) 2 = some (0, rv (zq b) j) := by
  unfold fX3_block
  rw [chk_block hj, ob_some, if_pos rfl, if_neg (by decide), if_neg (by decide), if_pos rfl]
  unfold fX0_rangeOf rv
  rw [if_neg (zi256 hj), zk256 hj]
  by_cases c : b j < 0
  · rw [if_pos c, zq_f c, if_neg Bool.false_ne_true]; rfl
  · have h := zq_t hj c
    rw [if_neg c, if_pos h, zN_1, fx_countRangesAhead b (show j + 1 ≤ 256 by omega), ob_some]
    have := bg_up h
    rw [show Int32.ofNat (cn (bg (zq b)) (j + 1)) - 1 = Int32.ofNat (cn (bg (zq b)) (j + 1) - 1) from zN_sub (c := 1) (by omega)]
    rfl
theorem vb_3 (hp : PV pF pL) {j : Nat} (hj : j < 256) : fX3_block b pF pL (Int32.ofNat j) 3 = some (0, bi (pn pF pL j)) := by
  unfold fX3_block
  rw [chk_block hj, ob_some, if_pos rfl, if_neg (by decide), if_neg (by decide), if_neg (by decide), if_pos rfl, zN_1, fx_anyPinned hp (by omega) (by omega), ob_some, pnR_one]
  cases pn pF pL j <;> rfl
theorem vs_0 (hS : SV st) {k : Nat} (hk : k < 6) : fX3_setting st (Int32.ofNat k) = some (0, st k) := by
  unfold fX3_setting
  rw [cx_isSetting, zN_toInt (by omega), decide_eq_true (by omega), ob_some, if_neg (show ¬ bi true = 0 from n10)]
  unfold fX0_settingAt
  rw [if_neg (zN_in hk (by omega)), zN_cl (by omega)]
  rfl
end HA
