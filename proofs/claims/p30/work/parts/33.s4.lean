/-! what is allowed; copies of a device -/
theorem int_lt {x y : Int32} : x < y ↔ x.toInt < y.toInt := Int32.lt_iff_toInt_lt
theorem int_le {x y : Int32} : x ≤ y ↔ x.toInt ≤ y.toInt := Int32.le_iff_toInt_le
theorem zN_ofInt {x : Int32} (h : 0 ≤ x.toInt) : x = Int32.ofNat x.toInt.toNat ∧ x.toInt.toNat < 2147483648 := by
  have h2 := Int32.toInt_lt x
  refine ⟨?_, by omega⟩
  rw [← Int32.toInt_inj, zN_toInt (by omega)]
  omega
theorem i0 : (0 : Int32).toInt = 0 := by decide
theorem i1 : (1 : Int32).toInt = 1 := by decide
theorem i2 : (2 : Int32).toInt = 2 := by decide
theorem i3 : (3 : Int32).toInt = 3 := by decide
theorem i6 : (6 : Int32).toInt = 6 := by decide
theorem i60 : (60 : Int32).toInt = 60 := by decide
theorem i99 : (99 : Int32).toInt = 99 := by decide
theorem i100 : (100 : Int32).toInt = 100 := by decide
theorem i256 : (256 : Int32).toInt = 256 := by decide
theorem mi_in32 (x : Int32) (lo hi : Int64) : fX4_in x.toInt64 lo hi = some (bi (decide (lo.toInt ≤ x.toInt ∧ x.toInt ≤ hi.toInt))) := by
  rw [mi_in, Int32.toInt_toInt64]
theorem cx_isBlock (x : Int32) : fX3_isBlock x = some (bi (decide (0 ≤ x.toInt ∧ x.toInt ≤ 255))) := by
  unfold fX3_isBlock
  simp only [int_lt, int_le, i0, i256]
  by_cases c : x.toInt < 0
  · rw [if_pos c, decide_eq_false (by omega)]; rfl
  · rw [if_neg c]
    by_cases c2 : 256 ≤ x.toInt
    · rw [if_pos c2, decide_eq_false (by omega)]; rfl
    · rw [if_neg c2, decide_eq_true (by omega)]; rfl
theorem cx_isLength (x : Int32) : fX3_isLength x = some (bi (decide (1 ≤ x.toInt ∧ x.toInt ≤ 99))) := by
  unfold fX3_isLength
  simp only [int_lt, i1, i99]
  by_cases c : x.toInt < 1
  · rw [if_pos c, decide_eq_false (by omega)]; rfl
  · rw [if_neg c]
    by_cases c2 : 99 < x.toInt
    · rw [if_pos c2, decide_eq_false (by omega)]; rfl
    · rw [if_neg c2, decide_eq_true (by omega)]; rfl
theorem cx_isTicks (x : Int32) (m : Int32) : fX3_isTicks x m = some (bi (decide (1 ≤ x.toInt ∧ x.toInt ≤ m.toInt))) := by
  unfold fX3_isTicks
  simp only [int_lt, i1]
  by_cases c : x.toInt < 1
  · rw [if_pos c, decide_eq_false (by omega)]; rfl
  · rw [if_neg c]
    by_cases c2 : m.toInt < x.toInt
    · rw [if_pos c2, decide_eq_false (by omega)]; rfl
    · rw [if_neg c2, decide_eq_true (by omega)]; rfl
theorem cx_isPin (x : Int32) : fX3_isPin x = some (bi (decide (0 ≤ x.toInt ∧ x.toInt ≤ 2))) := by
  unfold fX3_isPin
  simp only [int_lt, int_le, i0, i3]
  by_cases c : x.toInt < 0
  · rw [if_pos c, decide_eq_false (by omega)]; rfl
  · rw [if_neg c]
    by_cases c2 : 3 ≤ x.toInt
    · rw [if_pos c2, decide_eq_false (by omega)]; rfl
    · rw [if_neg c2, decide_eq_true (by omega)]; rfl
theorem cx_isSetting (x : Int32) : fX3_isSetting x = some (bi (decide (0 ≤ x.toInt ∧ x.toInt ≤ 5))) := by
  unfold fX3_isSetting
  simp only [int_lt, int_le, i0, i6]
  by_cases c : x.toInt < 0
  · rw [if_pos c, decide_eq_false (by omega)]; rfl
  · rw [if_neg c]
    by_cases c2 : 6 ≤ x.toInt
    · rw [if_pos c2, decide_eq_false (by omega)]; rfl
    · rw [if_neg c2, decide_eq_true (by omega)]; rfl
/-- a span: what is wrong with it, in both words -/
theorem span (a n : Int32) : ∃ w : Nat, w ≤ 3 ∧ fX4_whyNotSpan a n = some (Int32.ofNat w) ∧ fX3_checkSpan a n = some (Int32.ofNat w) ∧ fX3_isSpan a n = some (bi (decide (w = 0))) ∧ (w = 0 → ∃ s m : Nat, a = Int32.ofNat s ∧ n = Int32.ofNat m ∧ 1 ≤ m ∧ m ≤ 99 ∧ s + m ≤ 256) := by
  unfold fX4_whyNotSpan fX3_checkSpan fX3_checkBlock fX3_isSpan
  rw [mi_block, mi_in32, cx_isBlock, cx_isLength]
  rw [show (1 : Int64).toInt = 1 from rfl, show (99 : Int64).toInt = 99 from rfl]
  simp only [ob_some]
  by_cases c : 0 ≤ a.toInt ∧ a.toInt ≤ 255
  · rw [decide_eq_true c]
    simp only [show ¬ bi true = 0 by decide, if_false, ob_some, if_true]
    by_cases c2 : 1 ≤ n.toInt ∧ n.toInt ≤ 99
    · rw [decide_eq_true c2]
      simp only [show ¬ bi true = 0 by decide, if_false, ob_some]
      obtain ⟨e1, e2⟩ := zN_ofInt c.1
      obtain ⟨e3, e4⟩ := zN_ofInt (x := n) (by omega)
      have hs : a + n = Int32.ofNat (a.toInt.toNat + n.toInt.toNat) := by
        rw [← zN_add, ← e1, ← e3]
      rw [hs]
      have key : (Int32.ofNat (a.toInt.toNat + n.toInt.toNat) ≤ 256) ↔ a.toInt.toNat + n.toInt.toNat ≤ 256 := zN_le (c := 256) (by omega) (by omega)
      have key2 : (256 < Int32.ofNat (a.toInt.toNat + n.toInt.toNat)) ↔ 256 < a.toInt.toNat + n.toInt.toNat := zN_lt (a := 256) (by omega) (by omega)
      by_cases c3 : a.toInt.toNat + n.toInt.toNat ≤ 256
      · refine ⟨0, by omega, ?_, ?_, ?_, fun _ => ⟨_, _, e1, e3, by omega, by omega, c3⟩⟩
        · rw [if_pos (key.mpr c3)]; rfl
        · rw [if_neg (fun q => by have := key2.mp q; omega)]; rfl
        · rw [if_neg (fun q => by have := key2.mp q; omega)]; rfl
      · refine ⟨3, by omega, ?_, ?_, ?_, fun h => by omega⟩
        · rw [if_neg (fun q => c3 (key.mp q))]; rfl
        · rw [if_pos (key2.mpr (by omega))]; rfl
        · rw [if_pos (key2.mpr (by omega))]; rfl
    · rw [decide_eq_false c2]
      refine ⟨2, by omega, ?_, ?_, ?_, fun h => by omega⟩
      · rw [if_pos bi_f]; rfl
      · rw [if_pos bi_f]; rfl
      · rw [if_pos bi_f]; rfl
  · rw [decide_eq_false c]
    exact ⟨1, by omega, rfl, rfl, rfl, fun h => by omega⟩
theorem zGs_N (k : Nat) : zGs k = Int32.ofNat (zGm k) := by
  unfold zGs zGm
  repeat' split
  all_goals rfl
theorem mgreatest {k : Nat} (h : k < 6) : fX4_greatest (Int32.ofNat k) = some (Int32.ofNat (zGm k)) := by
  have : ∀ k, k < 6 → fX4_greatest (Int32.ofNat k) = some (Int32.ofNat (zGm k)) := by decide
  exact this k h
/-- a setting and a value -/
theorem value (a v : Int32) : ∃ t : Bool, fX4_isSetting a v = some (bi t) ∧ fX3_isValue a v = some (bi t) ∧ (t = true → ∃ k n : Nat, a = Int32.ofNat k ∧ v = Int32.ofNat n ∧ k < 6 ∧ n ≤ zGm k) := by
  unfold fX4_isSetting fX3_isValue
  rw [mi_in32, cx_isSetting]
  rw [show (0 : Int64).toInt = 0 from rfl, show (5 : Int64).toInt = 5 from rfl]
  by_cases c : 0 ≤ a.toInt ∧ a.toInt ≤ 5
  · rw [decide_eq_true c, ob_some, ob_some, if_neg (show ¬ bi true = 0 by decide), if_neg (show ¬ bi true = 0 by decide)]
    obtain ⟨e1, e2⟩ := zN_ofInt c.1
    have hk : a.toInt.toNat < 6 := by omega
    rw [e1, mgreatest hk, ob_some, mi_in32, if_neg (show ¬ (Int32.ofNat a.toInt.toNat < 0 ∨ 6 ≤ (Int32.ofNat a.toInt.toNat).toNatClampNeg) from zN_in hk (by omega)), zN_cl (by omega), zGs_N, ob_some, Int32.toInt_toInt64]
    have hg : zGm a.toInt.toNat ≤ 50 := by
      have : ∀ k, k < 6 → zGm k ≤ 50 := by decide
      exact this _ hk
    simp only [int_lt, zN_toInt (show zGm a.toInt.toNat < 2147483648 by omega), i0, show (0 : Int64).toInt = 0 from rfl]
    by_cases c2 : 0 ≤ v.toInt ∧ v.toInt ≤ (zGm a.toInt.toNat : Int)
    · obtain ⟨e3, e4⟩ := zN_ofInt c2.1
      refine ⟨true, ?_, ?_, fun _ => ⟨a.toInt.toNat, v.toInt.toNat, rfl, e3, hk, by omega⟩⟩
      · rw [decide_eq_true c2]; rfl
      · rw [if_neg (by omega), if_neg (by omega)]; rfl
    · refine ⟨false, ?_, ?_, fun h => by cases h⟩
      · rw [decide_eq_false c2]; rfl
      · by_cases c3 : v.toInt < 0
        · rw [if_pos c3]; rfl
        · rw [if_neg c3, if_pos (by omega)]; rfl
  · rw [decide_eq_false c]
    exact ⟨false, rfl, rfl, fun h => by cases h⟩
/-! copies -/
/-- a row's part that is copied -/
def zCopy (ra rb : Nat → Int32) (a c : Nat) : Nat → Int32 := fun x => if c ≤ x ∧ x < c + 785 then ra (a + (x - c)) else rb x
theorem mcopy_3 {na nb : Nat} (ra rb : Nat → Int32) {a c : Nat} (ha : a + 785 ≤ na) (hc : c + 785 ≤ nb) (hna : na ≤ 2147483648) (hnb : nb ≤ 2147483648) : ∀ n k f, k + n = 785 → n < f → fX4_copyState_3 na nb ra f (Int32.ofNat a) (Int32.ofNat c) (Int32.ofNat k) (fun x => if c ≤ x ∧ x < c + k then ra (a + (x - c)) else rb x) = some (zCopy ra rb a c) := by
  intro n
  induction n with
  | zero =>
    intro k f hk hf
    obtain ⟨f, rfl⟩ := zfuel hf
    obtain rfl : k = 785 := by omega
    rw [fX4_copyState_3, if_pos (by decide)]
    rfl
  | succ n ih =>
    intro k f hk hf
    obtain ⟨f, rfl⟩ := zfuel hf
    rw [fX4_copyState_3, if_neg (show ¬ (785 : Int32) ≤ Int32.ofNat k from fun q => by have := (zN_le (a := 785) (by omega) (by omega)).mp q; omega), zN_add, zN_add, if_neg (zN_in (by omega) hna), if_neg (zN_in (by omega) hnb), zN_cl (by omega), zN_cl (by omega), zN_1]
    have e : upd (fun x => if c ≤ x ∧ x < c + k then ra (a + (x - c)) else rb x) (c + k) (ra (a + k)) = (fun x => if c ≤ x ∧ x < c + (k + 1) then ra (a + (x - c)) else rb x) := by
      funext x
      by_cases e : x = c + k
      · rw [e, zupd_self, if_pos (by omega), show c + k - c = k by omega]
      · rw [zupd_ne _ _ e]
        by_cases q : c ≤ x ∧ x < c + k
        · rw [if_pos q, if_pos (by omega)]
        · rw [if_neg q, if_neg (by omega)]
    rw [e]
    exact ih (k + 1) f (by omega) (by omega)
theorem mcopy {na nb : Nat} (ra rb : Nat → Int32) {a c : Nat} (ha : a + 785 ≤ na) (hc : c + 785 ≤ nb) (hna : na ≤ 2147483648) (hnb : nb ≤ 2147483648) : fX4_copyState na nb ra rb (Int32.ofNat a) (Int32.ofNat c) = some (zCopy ra rb a c) := by
  have h := mcopy_3 ra rb ha hc hna hnb 785 0 1000 (by omega) (by omega)
  rw [show (fun x => if c ≤ x ∧ x < c + 0 then ra (a + (x - c)) else rb x) = rb from funext fun x => if_neg (by omega)] at h
  exact h
theorem mcopy0 (ra rb : Nat → Int32) : fX4_copyState 785 785 ra rb 0 0 = some (zCopy ra rb 0 0) := mcopy ra rb (a := 0) (c := 0) (by omega) (by omega) (by omega) (by omega)
/-- a device that keeps to all, its time up to B, and its row -/
def ZD (b pF pL st : Nat → Int32) (tm qt cm ds dr : Int32) (r : Nat → Int32) (B : Nat) : Prop :=
  ∃ T, T ≤ B ∧ tm = Int32.ofNat T ∧ RD b pF pL st tm qt cm ds dr r ∧ IV b tm ∧ PV pF pL ∧ SV st
theorem ZD.mono {b pF pL st : Nat → Int32} {tm qt cm ds dr : Int32} {r : Nat → Int32} {B B2 : Nat} (h : ZD b pF pL st tm qt cm ds dr r B) (hB : B ≤ B2) : ZD b pF pL st tm qt cm ds dr r B2 := by
  obtain ⟨T, h1, h2⟩ := h
  exact ⟨T, by omega, h2⟩
theorem RD.congr {b pF pL st : Nat → Int32} {tm qt cm ds dr : Int32} {r r2 : Nat → Int32} (h : RD b pF pL st tm qt cm ds dr r) (e : ∀ x, x < 785 → r2 x = r x) : RD b pF pL st tm qt cm ds dr r2 := by
  obtain ⟨h1, h2, h3, h4, h5, h6, h7, h8⟩ := h
  exact ⟨fun i hi => by rw [e _ (by omega), e _ (by omega), e _ (by omega)]; exact h1 i hi, fun i hi => by rw [e _ (by omega), e _ (by omega)]; exact h2 i hi, fun i hi => by rw [e _ (by omega)]; exact h3 i hi, by rw [e _ (by omega)]; exact h4, by rw [e _ (by omega)]; exact h5, by rw [e _ (by omega)]; exact h6, by rw [e _ (by omega)]; exact h7, by rw [e _ (by omega)]; exact h8⟩
theorem ZD.congr {b pF pL st : Nat → Int32} {tm qt cm ds dr : Int32} {r r2 : Nat → Int32} {B : Nat} (h : ZD b pF pL st tm qt cm ds dr r B) (e : ∀ x, x < 785 → r2 x = r x) : ZD b pF pL st tm qt cm ds dr r2 B := by
  obtain ⟨T, h1, h2, h3, h4⟩ := h
  exact ⟨T, h1, h2, h3.congr e, h4⟩
theorem cpy_at (f g : Nat → Int32) {n i : Nat} (h : i < n) : va_cpy f g 0 0 n i = f i := by
  unfold va_cpy
  rw [if_pos (by omega), Nat.zero_add, Nat.sub_zero]
/-- a device's copy -/
theorem ZD.copied {b pF pL st : Nat → Int32} {tm qt cm ds dr : Int32} {r : Nat → Int32} {B : Nat} (h : ZD b pF pL st tm qt cm ds dr r B) (b2 pF2 pL2 st2 : Nat → Int32) : ZD (va_cpy b b2 0 0 256) (va_cpy pF pF2 0 0 3) (va_cpy pL pL2 0 0 3) (va_cpy st st2 0 0 6) tm qt cm ds dr r B := by
  obtain ⟨T, h1, h2, ⟨g1, g2, g3, g4⟩, h4, h5, h6⟩ := h
  have hz : zq (va_cpy b b2 0 0 256) = zq b := zq_congr fun i hi => cpy_at b b2 hi
  refine ⟨T, h1, h2, ⟨fun i hi => ?_, fun i hi => ?_, fun i hi => ?_, g4⟩, ⟨fun i hi => ?_, fun i hi => ?_, h4.2.2⟩, fun k hk => ?_, fun k hk => ?_⟩
  · rw [cpy_at b b2 hi]; exact g1 i hi
  · rw [cpy_at pF pF2 hi, cpy_at pL pL2 hi]; exact g2 i hi
  · rw [cpy_at st st2 hi]; exact g3 i hi
  · rw [cpy_at b b2 hi]; exact h4.1 i hi
  · rw [hz, cpy_at b b2 (show i < 256 by omega), cpy_at b b2 hi]; exact h4.2.1 i hi
  · rw [cpy_at pF pF2 hk, cpy_at pL pL2 hk]; exact h5 k hk
  · rw [cpy_at st st2 hk]; exact h6 k hk
theorem zCopy0 (ra rb : Nat → Int32) {x : Nat} (h : x < 785) : zCopy ra rb 0 0 x = ra x := by
  unfold zCopy
  rw [if_pos (by omega), Nat.zero_add, Nat.sub_zero]
/-! the remembered states; actions -/
theorem ob9_some {α β β2 β3 β4 β5 β6 β7 β8 γ : Type} (x0 : α) (x1 : β) (x2 : β2) (x3 : β3) (x4 : β4) (x5 : β5) (x6 : β6) (x7 : β7) (x8 : β8) (k : α → β → β2 → β3 → β4 → β5 → β6 → β7 → β8 → Option γ) : ob9 (some (x0, x1, x2, x3, x4, x5, x6, x7, x8)) k = k x0 x1 x2 x3 x4 x5 x6 x7 x8 := rfl
def ZDt (d : zDv) (r : Nat → Int32) (B : Nat) : Prop := ZD d.1 d.2.1 d.2.2.1 d.2.2.2.1 d.2.2.2.2.1 d.2.2.2.2.2.1 d.2.2.2.2.2.2.1 d.2.2.2.2.2.2.2.1 d.2.2.2.2.2.2.2.2 r B
def ZPast (ol pz : Int32) (dvs : Nat → zDv) (ac : Int32) (di : Nat → Int32) (B : Nat) : Prop :=
  ∃ O P : Nat, O < 14 ∧ P ≤ 14 ∧ ol = Int32.ofNat O ∧ pz = Int32.ofNat P ∧ ac = Int32.ofNat P ∧ ∀ k, k < P → ZDt (dvs ((O + k) % 14)) (fun x => di (785 * k + x)) B
theorem ZPast.mono {ol pz : Int32} {dvs : Nat → zDv} {ac : Int32} {di : Nat → Int32} {B B2 : Nat} (h : ZPast ol pz dvs ac di B) (hB : B ≤ B2) : ZPast ol pz dvs ac di B2 := by
  obtain ⟨O, P, h1, h2, h3, h4, h5, h6⟩ := h
  exact ⟨O, P, h1, h2, h3, h4, h5, fun k hk => (h6 k hk).mono hB⟩
theorem zrem14 : ∀ a, a < 64 → irem (Int32.ofNat a) 14 = Int32.ofNat (a % 14) := by decide +kernel
theorem zi14 {k : Nat} (h : k < 14) : ¬ (Int32.ofNat k < 0 ∨ 14 ≤ (Int32.ofNat k).toNatClampNeg) := zN_in h (by omega)
theorem mremember_11 (nw di : Nat → Int32) (ac : Int32) : ∀ n k f, k + n = 10205 → n < f → fX4_remember_11 nw f (Int32.ofNat k) ac (fun x => if x < k then di (x + 785) else di x) = ob (fX4_copyState 785 10990 nw (fun x => if x < 10205 then di (x + 785) else di x) 0 (785 * (ac - 1))) fun di2 => some (((ac - 1) + 1), di2) := by
  intro n
  induction n with
  | zero =>
    intro k f hk hf
    obtain ⟨f, rfl⟩ := zfuel hf
    obtain rfl : k = 10205 := by omega
    rw [fX4_remember_11, if_pos (by decide)]
  | succ n ih =>
    intro k f hk hf
    obtain ⟨f, rfl⟩ := zfuel hf
    have e785 : Int32.ofNat k + 785 = Int32.ofNat (k + 785) := zN_add k 785
    rw [fX4_remember_11, if_neg (show ¬ (10205 : Int32) ≤ Int32.ofNat k from fun q => by have := (zN_le (a := 10205) (by omega) (by omega)).mp q; omega), e785, if_neg (zN_in (by omega) (by omega)), if_neg (zN_in (by omega) (by omega)), zN_cl (by omega), zN_cl (by omega), zN_1]
    have e : upd (fun x => if x < k then di (x + 785) else di x) k (if k + 785 < k then di (k + 785 + 785) else di (k + 785)) = (fun x => if x < k + 1 then di (x + 785) else di x) := by
      funext x
      by_cases e : x = k
      · rw [e, zupd_self, if_neg (by omega), if_pos (by omega)]
      · rw [zupd_ne _ _ e]
        by_cases q : x < k
        · rw [if_pos q, if_pos (by omega)]
        · rw [if_neg q, if_neg (by omega)]
    rw [e]
    exact ih (k + 1) f (by omega) (by omega)
/-- a state is remembered -/
theorem op_remember {b pF pL st : Nat → Int32} {tm qt cm ds dr : Int32} {nw : Nat → Int32} {B : Nat} (h : ZD b pF pL st tm qt cm ds dr nw B) {ol pz : Int32} {dvs : Nat → zDv} {ac : Int32} {di : Nat → Int32} (hP : ZPast ol pz dvs ac di B) : ∃ ol2 pz2 dvs2 ac2 di2, fX1_remember ol pz dvs b pF pL st tm qt cm ds dr = some (ol2, pz2, dvs2) ∧ fX4_remember ac nw di = some (ac2, di2) ∧ ZPast ol2 pz2 dvs2 ac2 di2 B := by
  obtain ⟨O, P, hO, hP1, rfl, rfl, rfl, hk⟩ := hP
  have rem : ∀ (O2 P2 : Nat), O2 < 14 → 0 < P2 → P2 ≤ 14 → ∃ dN : zDv, fX1_rem (Int32.ofNat O2) (Int32.ofNat P2) dvs b pF pL st tm qt cm ds dr = some (Int32.ofNat O2, Int32.ofNat P2, fun i => if i = (O2 + P2 - 1) % 14 then dN else dvs i) ∧ ZDt dN nw B := by
    intro O2 P2 h1 h2 h3
    unfold fX1_rem fX1_newest
    have e : Int32.ofNat O2 + Int32.ofNat P2 - 1 = Int32.ofNat (O2 + P2 - 1) := by rw [zN_add]; exact zN_sub (c := 1) (by omega)
    rw [e, zrem14 _ (by omega), ob_some, if_neg (zi14 (Nat.mod_lt _ (by omega))), zN_cl (by omega)]
    exact ⟨_, rfl, h.copied _ _ _ _⟩
  by_cases c : P = 14
  · subst c
    obtain ⟨dN, e1, e2⟩ := rem ((O + 1) % 14) 14 (Nat.mod_lt _ (by omega)) (by omega) (by omega)
    refine ⟨_, _, (fun i => if i = ((O + 1) % 14 + 14 - 1) % 14 then dN else dvs i), Int32.ofNat 14, zCopy nw (fun x => if x < 10205 then di (x + 785) else di x) 0 10205, ?_, ?_, ⟨(O + 1) % 14, 14, Nat.mod_lt _ (by omega), by omega, rfl, rfl, rfl, fun k hk2 => ?_⟩⟩
    · unfold fX1_remember
      rw [if_pos (show Int32.ofNat 14 = 14 from rfl), zN_1, zrem14 _ (by omega)]
      exact e1
    · unfold fX4_remember
      rw [if_pos (show Int32.ofNat 14 = 14 from rfl)]
      have h11 := mremember_11 nw di (Int32.ofNat 14) 10205 0 20000 (by omega) (by omega)
      rw [show (fun x => if x < 0 then di (x + 785) else di x) = di from funext fun x => if_neg (by omega)] at h11
      refine h11.trans ?_
      rw [show (785 : Int32) * (Int32.ofNat 14 - 1) = Int32.ofNat 10205 by decide, show (0 : Int32) = Int32.ofNat 0 from rfl, mcopy (na := 785) (nb := 10990) nw _ (a := 0) (c := 10205) (by omega) (by omega) (by omega) (by omega)]
      rfl
    · show ZDt (if ((O + 1) % 14 + k) % 14 = ((O + 1) % 14 + 14 - 1) % 14 then dN else dvs (((O + 1) % 14 + k) % 14)) _ B
      by_cases c : k = 13
      · subst c
        rw [if_pos (by omega)]
        refine ZD.congr e2 fun x hx => ?_
        unfold zCopy
        rw [if_pos (by omega), show 0 + (785 * 13 + x - 10205) = x by omega]
      · rw [if_neg (by omega), show ((O + 1) % 14 + k) % 14 = (O + (k + 1)) % 14 by omega]
        refine ZD.congr (hk (k + 1) (by omega)) fun x hx => ?_
        show zCopy nw _ 0 10205 (785 * k + x) = di (785 * (k + 1) + x)
        refine (if_neg (by omega)).trans ?_
        show (if 785 * k + x < 10205 then di (785 * k + x + 785) else di (785 * k + x)) = _
        rw [if_pos (by omega), show 785 * k + x + 785 = 785 * (k + 1) + x by omega]
  · obtain ⟨dN, e1, e2⟩ := rem O (P + 1) hO (by omega) (by omega)
    refine ⟨_, _, (fun i => if i = (O + (P + 1) - 1) % 14 then dN else dvs i), Int32.ofNat (P + 1), zCopy nw di 0 (785 * P), ?_, ?_, ⟨O, P + 1, hO, by omega, rfl, rfl, rfl, fun k hk2 => ?_⟩⟩
    · unfold fX1_remember
      rw [if_neg (show ¬ Int32.ofNat P = 14 from fun q => c ((zN_inj (c := 14) (by omega) (by omega)).mp q)), zN_1]
      exact e1
    · unfold fX4_remember
      rw [if_neg (show ¬ Int32.ofNat P = 14 from fun q => c ((zN_inj (c := 14) (by omega) (by omega)).mp q)), show (785 : Int32) * Int32.ofNat P = Int32.ofNat (785 * P) from zN_mul 785 P, show (0 : Int32) = Int32.ofNat 0 from rfl, mcopy (na := 785) (nb := 10990) nw _ (a := 0) (c := 785 * P) (by omega) (by omega) (by omega) (by omega), ob_some, zN_1]
    · show ZDt (if (O + k) % 14 = (O + (P + 1) - 1) % 14 then dN else dvs ((O + k) % 14)) _ B
      by_cases c : k = P
      · subst c
        rw [if_pos (by omega)]
        refine ZD.congr e2 fun x hx => ?_
        unfold zCopy
        rw [if_pos (by omega), show 0 + (785 * k + x - 785 * k) = x by omega]
      · rw [if_neg (by omega)]
        refine ZD.congr (hk k (by omega)) fun x hx => ?_
        unfold zCopy
        rw [if_neg (by omega)]
/-- the device, its row, and what is remembered -/
def ZA (b pF pL st : Nat → Int32) (tm qt cm ds dr ol pz : Int32) (dvs : Nat → zDv) (nw : Nat → Int32) (ac : Int32) (di : Nat → Int32) (B : Nat) : Prop := ZD b pF pL st tm qt cm ds dr nw B ∧ ZPast ol pz dvs ac di B
theorem ZA.mono {b pF pL st : Nat → Int32} {tm qt cm ds dr ol pz : Int32} {dvs : Nat → zDv} {nw : Nat → Int32} {ac : Int32} {di : Nat → Int32} {B B2 : Nat} (h : ZA b pF pL st tm qt cm ds dr ol pz dvs nw ac di B) (hB : B ≤ B2) : ZA b pF pL st tm qt cm ds dr ol pz dvs nw ac di B2 := ⟨h.1.mono hB, h.2.mono hB⟩
theorem mrefused {w : Nat} (h : w < 2147483648) : fX4_refused (Int32.ofNat w) = some (bi (decide (0 < w)), Int32.ofNat w) := by
  unfold fX4_refused
  by_cases c : w = 0
  · subst c; rfl
  · rw [if_neg (show ¬ Int32.ofNat w ≤ 0 from fun q => by have := (zN_le (c := 0) (by omega) (by omega)).mp q; omega), decide_eq_true (by omega)]; rfl
section ACT
variable {b pF pL st : Nat → Int32} {tm qt cm ds dr ol pz : Int32} {dvs : Nat → zDv} {nw : Nat → Int32} {ac : Int32} {di : Nat → Int32} {B : Nat}
theorem st_write (h : ZA b pF pL st tm qt cm ds dr ol pz dvs nw ac di B) (a1 a2 : Int32) : ∃ (w : Nat) (a : Int32) (b3 : Nat → Int32) (qt3 dr3 ol2 pz2 : Int32) (dvs2 : Nat → zDv) (a' ac4 : Int32) (nw5 di4 : Nat → Int32),
    fX3_write b pF pL st tm qt cm ds dr ol pz dvs a1 a2 = some (Int32.ofNat w, a, b3, qt3, dr3, ol2, pz2, dvs2) ∧ fX4_write ac nw di a1 a2 = some (a', Int32.ofNat w, ac4, nw5, di4) ∧ w ≤ 3 ∧ (w = 0 → a = a') ∧ ZA b3 pF pL st tm qt3 cm ds dr3 ol2 pz2 dvs2 nw5 ac4 di4 B := by
  obtain ⟨w, hw, e1, e2, -, e4⟩ := span a1 a2
  unfold fX3_write fX4_write
  rw [e1, e2, ob_some, ob_some, mrefused (by omega), ob2_some]
  by_cases c : w = 0
  · subst c
    obtain ⟨s, m, rfl, rfl, h1, h2, h3⟩ := e4 rfl
    rw [if_pos (show Int32.ofNat 0 = 0 from rfl), if_pos (show bi (decide (0 < 0)) = 0 from rfl)]
    obtain ⟨ol2, pz2, dvs2, ac2, di2, g1, g2, g3⟩ := op_remember h.1 h.2
    rw [g1, g2, ob3_some, ob2_some]
    obtain ⟨T, t1, rfl, t2, t3, t4, t5⟩ := h.1
    obtain ⟨cc, b2, dr2, r2, k0, k1, k2, k3, k4⟩ := op_write t2 t3 h3
    rw [k1, k2, ob4_some, ob2_some]
    exact ⟨0, _, _, _, _, _, _, _, _, _, _, _, rfl, rfl, by omega, fun _ => rfl, ⟨T, t1, rfl, k3, k4, t4, t5⟩, g3⟩
  · rw [if_neg (show ¬ Int32.ofNat w = 0 from fun q => c ((zN_inj (c := 0) (by omega) (by omega)).mp q)), decide_eq_true (show 0 < w by omega), if_neg (show ¬ bi true = 0 by decide)]
    exact ⟨w, _, _, _, _, _, _, _, _, _, _, _, rfl, rfl, hw, fun q => absurd q c, h⟩
theorem st_free (h : ZA b pF pL st tm qt cm ds dr ol pz dvs nw ac di B) (hB : B < 2147483647) (a1 a2 : Int32) : ∃ (w : Nat) (a : Int32) (b3 : Nat → Int32) (qt3 dr3 ol2 pz2 : Int32) (dvs2 : Nat → zDv) (a' ac4 : Int32) (nw5 di4 : Nat → Int32),
    fX3_free b pF pL st tm qt cm ds dr ol pz dvs a1 a2 = some (Int32.ofNat w, a, b3, qt3, dr3, ol2, pz2, dvs2) ∧ fX4_free ac nw di a1 a2 = some (a', Int32.ofNat w, ac4, nw5, di4) ∧ w ≤ 3 ∧ (w = 0 → a = a') ∧ ZA b3 pF pL st tm qt3 cm ds dr3 ol2 pz2 dvs2 nw5 ac4 di4 B := by
  obtain ⟨w, hw, e1, e2, -, e4⟩ := span a1 a2
  unfold fX3_free fX4_free
  rw [e1, e2, ob_some, ob_some, mrefused (by omega), ob2_some]
  by_cases c : w = 0
  · subst c
    obtain ⟨s, m, rfl, rfl, h1, h2, h3⟩ := e4 rfl
    rw [if_pos (show Int32.ofNat 0 = 0 from rfl), if_pos (show bi (decide (0 < 0)) = 0 from rfl)]
    obtain ⟨ol2, pz2, dvs2, ac2, di2, g1, g2, g3⟩ := op_remember h.1 h.2
    rw [g1, g2, ob3_some, ob2_some]
    obtain ⟨T, t1, rfl, t2, t3, t4, t5⟩ := h.1
    obtain ⟨cc, b2, dr2, r2, k0, k1, k2, k3, k4⟩ := op_free t2 t3 ((zN_lt (a := T) (c := 2147483647) (by omega) (by omega)).mpr (by omega)) h3
    rw [k1, k2, ob4_some, ob2_some]
    exact ⟨0, _, _, _, _, _, _, _, _, _, _, _, rfl, rfl, by omega, fun _ => rfl, ⟨T, t1, rfl, k3, k4, t4, t5⟩, g3⟩
  · rw [if_neg (show ¬ Int32.ofNat w = 0 from fun q => c ((zN_inj (c := 0) (by omega) (by omega)).mp q)), decide_eq_true (show 0 < w by omega), if_neg (show ¬ bi true = 0 by decide)]
    exact ⟨w, _, _, _, _, _, _, _, _, _, _, _, rfl, rfl, hw, fun q => absurd q c, h⟩
/-- a pin is laid -/
theorem op_pin (h : ZD b pF pL st tm qt cm ds dr nw B) {k s m : Nat} (hk : k < 3) (hs : s + m ≤ 256) : ∃ c r2, c ≤ 256 ∧ fX0_pinSpan pF pL (Int32.ofNat k) (Int32.ofNat s) (Int32.ofNat m) = some (upd pF k (Int32.ofNat s), upd pL k (Int32.ofNat m)) ∧ fX0_countPinned (upd pF k (Int32.ofNat s)) (upd pL k (Int32.ofNat m)) = some (Int32.ofNat c) ∧ fX4_pinOn nw (Int32.ofNat k) (Int32.ofNat s) (Int32.ofNat m) = some (Int32.ofNat c, r2) ∧ ZD b (upd pF k (Int32.ofNat s)) (upd pL k (Int32.ofNat m)) st tm qt cm ds dr r2 B := by
  obtain ⟨T, t1, t0, ⟨u1, u2, u3, u4, u5, u6, u7, u8⟩, t3, t4, t5⟩ := h
  have hPV : PV (upd pF k (Int32.ofNat s)) (upd pL k (Int32.ofNat m)) := by
    intro i hi
    by_cases e : i = k
    · subst e
      rw [zupd_self, zupd_self]
      exact ⟨s, m, rfl, rfl, hs⟩
    · rw [zupd_ne _ _ e, zupd_ne _ _ e]; exact t4 i hi
  have hRD : RD b (upd pF k (Int32.ofNat s)) (upd pL k (Int32.ofNat m)) st tm qt cm ds dr (upd (upd nw (779 + k) (Int32.ofNat s)) (782 + k) (Int32.ofNat m)) := by
    refine ⟨(u1.up (by omega) _).up (by omega) _, fun i hi => ?_, fun i hi => ?_, ?_, ?_, ?_, ?_, ?_⟩
    · by_cases e : i = k
      · subst e
        rw [zupd_ne _ _ (by omega), zupd_self, zupd_self, zupd_self, zupd_self]
        exact ⟨rfl, rfl⟩
      · rw [zupd_ne _ _ (by omega), zupd_ne _ _ (by omega), zupd_ne _ _ (by omega), zupd_ne _ _ (by omega), zupd_ne _ _ (by omega), zupd_ne _ _ (by omega)]
        exact u2 i hi
    · rw [zupd_ne _ _ (by omega), zupd_ne _ _ (by omega)]; exact u3 i hi
    · rw [zupd_ne _ _ (by omega), zupd_ne _ _ (by omega)]; exact u4
    · rw [zupd_ne _ _ (by omega), zupd_ne _ _ (by omega)]; exact u5
    · rw [zupd_ne _ _ (by omega), zupd_ne _ _ (by omega)]; exact u6
    · rw [zupd_ne _ _ (by omega), zupd_ne _ _ (by omega)]; exact u7
    · rw [zupd_ne _ _ (by omega), zupd_ne _ _ (by omega)]; exact u8
  refine ⟨cn (pn (upd pF k (Int32.ofNat s)) (upd pL k (Int32.ofNat m))) 256, _, cn_le _ _, ?_, fx_countPinned hPV, ?_, ⟨T, t1, t0, hRD, t3, hPV, t5⟩⟩
  · unfold fX0_pinSpan
    rw [if_neg (zi3 hk), if_neg (zi3 hk), zk3 hk]
  · unfold fX4_pinOn
    rw [z779k, z782k, if_neg (zi785 (by omega)), if_neg (zi785 (by omega)), zk785 (by omega), zk785 (by omega), mallPinned hPV hRD.2.1]
    rfl
theorem cx_checkPin (x : Int32) : fX3_checkPin x = some (if 0 ≤ x.toInt ∧ x.toInt ≤ 2 then 0 else 1) := by
  unfold fX3_checkPin
  rw [cx_isPin, ob_some]
  by_cases c : 0 ≤ x.toInt ∧ x.toInt ≤ 2
  · rw [decide_eq_true c, if_pos c]; rfl
  · rw [decide_eq_false c, if_neg c]; rfl
theorem st_pin (h : ZA b pF pL st tm qt cm ds dr ol pz dvs nw ac di B) (a1 a2 a3 : Int32) : ∃ (w : Nat) (a : Int32) (pF4 pL4 : Nat → Int32) (ol2 pz2 : Int32) (dvs2 : Nat → zDv) (a' ac4 : Int32) (nw5 di4 : Nat → Int32),
    fX3_pin b pF pL st tm qt cm ds dr ol pz dvs a1 a2 a3 = some (Int32.ofNat w, a, pF4, pL4, ol2, pz2, dvs2) ∧ fX4_pin ac nw di a1 a2 a3 = some (a', Int32.ofNat w, ac4, nw5, di4) ∧ w ≤ 3 ∧ (w = 0 → a = a') ∧ ZA b pF4 pL4 st tm qt cm ds dr ol2 pz2 dvs2 nw5 ac4 di4 B := by
  unfold fX3_pin fX4_pin
  rw [cx_checkPin, mi_in32, ob_some, ob_some, show (0 : Int64).toInt = 0 from rfl, show (2 : Int64).toInt = 2 from rfl]
  by_cases c0 : 0 ≤ a1.toInt ∧ a1.toInt ≤ 2
  · rw [if_pos c0, decide_eq_true c0, if_pos rfl, if_neg (show ¬ bi true = 0 by decide)]
    obtain ⟨e5, e6⟩ := zN_ofInt c0.1
    obtain ⟨w, hw, e1, e2, -, e4⟩ := span a2 a3
    rw [e1, e2, ob_some, ob_some, mrefused (by omega), ob2_some]
    by_cases c : w = 0
    · subst c
      obtain ⟨s, m, rfl, rfl, h1, h2, h3⟩ := e4 rfl
      rw [if_pos (show Int32.ofNat 0 = 0 from rfl), if_pos (show bi (decide (0 < 0)) = 0 from rfl)]
      obtain ⟨ol2, pz2, dvs2, ac2, di2, g1, g2, g3⟩ := op_remember h.1 h.2
      rw [g1, g2, ob3_some, ob2_some]
      obtain ⟨cc, r2, k0, k1, k2, k3, k4⟩ := op_pin h.1 (k := a1.toInt.toNat) (s := s) (m := m) (by omega) h3
      rw [e5, k1, k3, ob2_some, ob2_some, k2, ob_some]
      exact ⟨0, _, _, _, _, _, _, _, _, _, _, rfl, rfl, by omega, fun _ => rfl, k4, g3⟩
    · rw [if_neg (show ¬ Int32.ofNat w = 0 from fun q => c ((zN_inj (c := 0) (by omega) (by omega)).mp q)), decide_eq_true (show 0 < w by omega), if_neg (show ¬ bi true = 0 by decide)]
      exact ⟨w, _, _, _, _, _, _, _, _, _, _, rfl, rfl, hw, fun q => absurd q c, h⟩
  · rw [if_neg c0, decide_eq_false c0, if_neg (show ¬ (1 : Int32) = 0 by decide), if_pos bi_f]
    exact ⟨1, _, _, _, _, _, _, _, _, _, _, rfl, rfl, by omega, fun q => by omega, h⟩
/-- whether a pin has a span -/
theorem op_hasPin (h : ZD b pF pL st tm qt cm ds dr nw B) {k : Nat} (hk : k < 3) : ∃ t : Bool, fX0_hasPin pL (Int32.ofNat k) = some (bi t) ∧ (nw (782 + k) = 0 ↔ t = false) := by
  obtain ⟨T, t1, t0, ⟨u1, u2, -⟩, t3, t4, t5⟩ := h
  obtain ⟨x, n, g1, g2, g3⟩ := t4 k hk
  unfold fX0_hasPin
  rw [if_neg (zi3 hk), zk3 hk, (u2 k hk).2, g2]
  by_cases c : n = 0
  · subst c
    exact ⟨false, rfl, ⟨fun _ => rfl, fun _ => rfl⟩⟩
  · refine ⟨true, ?_, fun q => absurd ((zN_inj (c := 0) (by omega) (by omega)).mp q) c, fun q => by cases q⟩
    rw [if_neg (show ¬ Int32.ofNat n ≤ 0 from fun q => by have := (zN_le (c := 0) (by omega) (by omega)).mp q; omega)]
    rfl
theorem st_unpin (h : ZA b pF pL st tm qt cm ds dr ol pz dvs nw ac di B) (a1 : Int32) : ∃ (w w' : Nat) (a : Int32) (pF4 pL4 : Nat → Int32) (ol2 pz2 : Int32) (dvs2 : Nat → zDv) (a' ac4 : Int32) (nw5 di4 : Nat → Int32),
    fX3_unpin b pF pL st tm qt cm ds dr ol pz dvs a1 = some (Int32.ofNat w, a, pF4, pL4, ol2, pz2, dvs2) ∧ fX4_unpin ac nw di a1 = some (a', Int32.ofNat w', ac4, nw5, di4) ∧ (w = 0 ∧ w' = 0 ∧ a = a' ∨ w = 1 ∧ w' = 1 ∨ w = 3 ∧ w' = 2) ∧ ZA b pF4 pL4 st tm qt cm ds dr ol2 pz2 dvs2 nw5 ac4 di4 B := by
  unfold fX3_unpin fX4_unpin
  rw [cx_checkPin, mi_in32, ob_some, ob_some, show (0 : Int64).toInt = 0 from rfl, show (2 : Int64).toInt = 2 from rfl]
  by_cases c0 : 0 ≤ a1.toInt ∧ a1.toInt ≤ 2
  · rw [if_pos c0, decide_eq_true c0, if_pos rfl, if_neg (show ¬ bi true = 0 by decide)]
    obtain ⟨e5, e6⟩ := zN_ofInt c0.1
    have hk : a1.toInt.toNat < 3 := by omega
    obtain ⟨t, e1, e2⟩ := op_hasPin h.1 hk
    rw [e5, e1, ob_some, z782k, if_neg (zi785 (by omega)), zk785 (by omega)]
    cases t
    · rw [if_pos bi_f, if_pos (e2.mpr rfl)]
      exact ⟨3, 2, _, _, _, _, _, _, _, _, _, _, rfl, rfl, Or.inr (Or.inr ⟨rfl, rfl⟩), h⟩
    · rw [if_neg (show ¬ bi true = 0 by decide), if_neg (show ¬ nw (782 + a1.toInt.toNat) = 0 from fun q => by have := e2.mp q; cases this)]
      obtain ⟨ol2, pz2, dvs2, ac2, di2, g1, g2, g3⟩ := op_remember h.1 h.2
      rw [g1, g2, ob3_some, show fX4_refused 0 = some (0, 0) from rfl, ob2_some, if_pos rfl, ob2_some]
      obtain ⟨cc, r2, k0, k1, k2, k3, k4⟩ := op_pin h.1 (k := a1.toInt.toNat) (s := 0) (m := 0) hk (by omega)
      replace k1 : fX0_pinSpan pF pL (Int32.ofNat a1.toInt.toNat) 0 0 = _ := k1
      replace k3 : fX4_pinOn nw (Int32.ofNat a1.toInt.toNat) 0 0 = _ := k3
      rw [k1, k3, ob2_some, ob2_some, k2, ob_some]
      exact ⟨0, 0, _, _, _, _, _, _, _, _, _, _, rfl, rfl, Or.inl ⟨rfl, rfl, rfl⟩, k4, g3⟩
  · rw [if_neg c0, decide_eq_false c0, if_neg (show ¬ (1 : Int32) = 0 by decide), if_pos bi_f]
    exact ⟨1, 1, _, _, _, _, _, _, _, _, _, _, rfl, rfl, Or.inr (Or.inl ⟨rfl, rfl⟩), h⟩
theorem cx_checkTicks (x m : Int32) : fX3_checkTicks x m = some (if 1 ≤ x.toInt ∧ x.toInt ≤ m.toInt then 0 else 2) := by
  unfold fX3_checkTicks
  rw [cx_isTicks, ob_some]
  by_cases c : 1 ≤ x.toInt ∧ x.toInt ≤ m.toInt
  · rw [decide_eq_true c, if_pos c]; rfl
  · rw [decide_eq_false c, if_neg c]; rfl
theorem st_run (h : ZA b pF pL st tm qt cm ds dr ol pz dvs nw ac di B) (hB : B + 100 < 2147483647) (sF sB : Int32) (a1 : Int32) : ∃ (w w' : Nat) (a : Int32) (b3 : Nat → Int32) (tm3 qt3 cm3 ds3 dr3 ol2 pz2 : Int32) (dvs2 : Nat → zDv) (a' ac4 sF2 sB2 : Int32) (nw5 di4 : Nat → Int32),
    fX3_run b pF pL st tm qt cm ds dr ol pz dvs a1 = some (Int32.ofNat w, a, b3, tm3, qt3, cm3, ds3, dr3, ol2, pz2, dvs2) ∧ fX4_run ac sF sB nw di a1 = some (a', Int32.ofNat w', ac4, sF2, sB2, nw5, di4) ∧ (w = 0 ∧ w' = 0 ∧ a = a' ∨ w = 2 ∧ w' = 1) ∧ ZA b3 pF pL st tm3 qt3 cm3 ds3 dr3 ol2 pz2 dvs2 nw5 ac4 di4 (B + 60) := by
  unfold fX3_run fX4_run
  rw [cx_checkTicks, mi_in32, ob_some, ob_some, show (1 : Int64).toInt = 1 from rfl, show (60 : Int64).toInt = 60 from rfl, i60]
  by_cases c0 : 1 ≤ a1.toInt ∧ a1.toInt ≤ 60
  · rw [if_pos c0, decide_eq_true c0, if_pos rfl, if_neg (show ¬ bi true = 0 by decide)]
    obtain ⟨e5, e6⟩ := zN_ofInt (x := a1) (by omega)
    obtain ⟨ol2, pz2, dvs2, ac2, di2, g1, g2, g3⟩ := op_remember h.1 h.2
    rw [g1, g2, ob3_some, show fX4_refused 0 = some (0, 0) from rfl, ob2_some, if_pos rfl, ob2_some]
    obtain ⟨T, t1, rfl, t2, t3, t4, t5⟩ := h.1
    obtain ⟨b2, qt2, cm2, D, dr2, r2, sF2, sB2, k0, k1, k2, k3, k4, k5⟩ := op_run t4 t5 (N := a1.toInt.toNat) (by omega) (by omega) sF sB t2 t3
    rw [e5, k1, k2, ob7_some, ob4_some]
    exact ⟨0, 0, _, _, _, _, _, _, _, _, _, _, _, _, _, _, _, _, rfl, rfl, Or.inl ⟨rfl, rfl, rfl⟩, ⟨_, by omega, rfl, k3, k4, t4, t5⟩, g3.mono (by omega)⟩
  · rw [if_neg c0, decide_eq_false c0, if_neg (show ¬ (2 : Int32) = 0 by decide), if_pos bi_f]
    exact ⟨2, 1, _, _, _, _, _, _, _, _, _, _, _, _, _, _, _, _, rfl, rfl, Or.inr ⟨rfl, rfl⟩, h.mono (by omega)⟩
theorem st_flush (h : ZA b pF pL st tm qt cm ds dr ol pz dvs nw ac di B) (sF sB : Int32) : ∃ (a : Int32) (b3 : Nat → Int32) (cm3 ds3 dr3 ol2 pz2 : Int32) (dvs2 : Nat → zDv) (ac4 sF2 sB2 : Int32) (nw5 di4 : Nat → Int32),
    fX3_flush b pF pL st tm qt cm ds dr ol pz dvs = some (a, b3, cm3, ds3, dr3, ol2, pz2, dvs2) ∧ fX4_flush ac sF sB nw di = some (a, 0, ac4, sF2, sB2, nw5, di4) ∧ ZA b3 pF pL st tm qt cm3 ds3 dr3 ol2 pz2 dvs2 nw5 ac4 di4 B := by
  unfold fX3_flush fX4_flush
  obtain ⟨ol2, pz2, dvs2, ac2, di2, g1, g2, g3⟩ := op_remember h.1 h.2
  rw [g1, g2, ob3_some, ob2_some]
  obtain ⟨T, t1, rfl, t2, t3, t4, t5⟩ := h.1
  obtain ⟨b2, M, ds2, dr2, r2, sF2, sB2, k0, k1, k2, k3, k4⟩ := op_flush t4 t5 sF sB t2 t3
  rw [k1, k2, ob5_some, ob4_some]
  exact ⟨_, _, _, _, _, _, _, _, _, _, _, _, _, rfl, rfl, ⟨T, t1, rfl, k3, k4, t4, t5⟩, g3⟩
/-- a setting is laid -/
theorem op_lay (h : ZD b pF pL st tm qt cm ds dr nw B) {k n : Nat} (hk : k < 6) (hn : n ≤ zGm k) : ∃ v r2, v ≤ 50 ∧ st k = Int32.ofNat v ∧ fX0_settingAt st (Int32.ofNat k) = some (Int32.ofNat v) ∧ fX0_changeSetting st (Int32.ofNat k) (Int32.ofNat n) = some (upd st k (Int32.ofNat n)) ∧ fX4_lay nw (Int32.ofNat k) (Int32.ofNat n) = some (Int32.ofNat v, r2) ∧ ZD b pF pL (upd st k (Int32.ofNat n)) tm qt cm ds dr r2 B := by
  obtain ⟨T, t1, t0, ⟨u1, u2, u3, u4, u5, u6, u7, u8⟩, t3, t4, t5⟩ := h
  obtain ⟨v, hv1, hv2⟩ := t5 k hk
  have h50 : ∀ k, k < 6 → zGm k ≤ 50 := by decide
  have hin : ¬ (Int32.ofNat k < 0 ∨ 6 ≤ (Int32.ofNat k).toNatClampNeg) := zN_in hk (by omega)
  refine ⟨v, upd nw (773 + k) (Int32.ofNat n), Nat.le_trans hv2 (h50 k hk), hv1, ?_, ?_, ?_, T, t1, t0, ⟨u1.up (by omega) _, fun i hi => ?_, fun i hi => ?_, ?_, ?_, ?_, ?_, ?_⟩, t3, t4, fun i hi => ?_⟩
  · unfold fX0_settingAt
    rw [if_neg hin, zN_cl (by omega), hv1]
  · unfold fX0_changeSetting
    rw [if_neg hin, zN_cl (by omega)]
  · unfold fX4_lay
    rw [z773k, if_neg (zi785 (by omega)), zk785 (by omega), u3 k hk, hv1]
    exact if_neg (zj785 (by omega))
  · rw [zupd_ne _ _ (by omega), zupd_ne _ _ (by omega)]; exact u2 i hi
  · by_cases e : i = k
    · subst e; rw [zupd_self, zupd_self]
    · rw [zupd_ne _ _ (by omega), zupd_ne _ _ e]; exact u3 i hi
  · rw [zupd_ne _ _ (by omega)]; exact u4
  · rw [zupd_ne _ _ (by omega)]; exact u5
  · rw [zupd_ne _ _ (by omega)]; exact u6
  · rw [zupd_ne _ _ (by omega)]; exact u7
  · rw [zupd_ne _ _ (by omega)]; exact u8
  · by_cases e : i = k
    · subst e; rw [zupd_self]; exact ⟨n, rfl, hn⟩
    · rw [zupd_ne _ _ e]; exact t5 i hi
theorem st_set (h : ZA b pF pL st tm qt cm ds dr ol pz dvs nw ac di B) (a1 a2 : Int32) : ∃ (w w' : Nat) (a : Int32) (st5 : Nat → Int32) (ol2 pz2 : Int32) (dvs2 : Nat → zDv) (a' ac4 : Int32) (nw5 di4 : Nat → Int32),
    fX3_set b pF pL st tm qt cm ds dr ol pz dvs a1 a2 = some (Int32.ofNat w, a, st5, ol2, pz2, dvs2) ∧ fX4_set ac nw di a1 a2 = some (a', Int32.ofNat w', ac4, nw5, di4) ∧ (w = 0 ∧ w' = 0 ∧ a = a' ∨ w = 2 ∧ w' = 1) ∧ ZA b pF pL st5 tm qt cm ds dr ol2 pz2 dvs2 nw5 ac4 di4 B := by
  unfold fX3_set fX4_set
  obtain ⟨t, e1, e2, e3⟩ := value a1 a2
  rw [e1, e2, ob_some, ob_some]
  cases t
  · rw [if_pos bi_f, if_pos bi_f]
    exact ⟨2, 1, _, _, _, _, _, _, _, _, _, rfl, rfl, Or.inr ⟨rfl, rfl⟩, h⟩
  · rw [if_neg (show ¬ bi true = 0 by decide), if_neg (show ¬ bi true = 0 by decide)]
    obtain ⟨k, n, rfl, rfl, hk, hn⟩ := e3 rfl
    obtain ⟨ol2, pz2, dvs2, ac2, di2, g1, g2, g3⟩ := op_remember h.1 h.2
    rw [g1, g2, ob3_some, show fX4_refused 0 = some (0, 0) from rfl, ob2_some, if_pos rfl, ob2_some]
    obtain ⟨v, r2, -, -, k1, k2, k3, k4⟩ := op_lay h.1 hk hn
    rw [k1, k2, k3, ob_some, ob_some, ob2_some]
    exact ⟨0, 0, _, _, _, _, _, _, _, _, _, rfl, rfl, Or.inl ⟨rfl, rfl, rfl⟩, k4, g3⟩
end ACT
/-! taking back; what would be -/
theorem ob10_some {α β β2 β3 β4 β5 β6 β7 β8 β9 γ : Type} (x0 : α) (x1 : β) (x2 : β2) (x3 : β3) (x4 : β4) (x5 : β5) (x6 : β6) (x7 : β7) (x8 : β8) (x9 : β9) (k : α → β → β2 → β3 → β4 → β5 → β6 → β7 → β8 → β9 → Option γ) : ob10 (some (x0, x1, x2, x3, x4, x5, x6, x7, x8, x9)) k = k x0 x1 x2 x3 x4 x5 x6 x7 x8 x9 := rfl
theorem ref0 : fX4_refused 0 = some (0, 0) := rfl
theorem ref1 : fX4_refused 1 = some (1, 1) := rfl
theorem ref2 : fX4_refused 2 = some (1, 2) := rfl
theorem n10 : ¬ (1 : Int32) = 0 := by decide
section WB
variable {b pF pL st : Nat → Int32} {tm qt cm ds dr ol pz : Int32} {dvs : Nat → zDv} {nw : Nat → Int32} {ac : Int32} {di : Nat → Int32} {B : Nat}
theorem st_undo (h : ZA b pF pL st tm qt cm ds dr ol pz dvs nw ac di B) : ∃ (w w' : Nat) (a : Int32) (b3 pF3 pL3 st3 : Nat → Int32) (tm3 qt3 cm3 ds3 dr3 pz2 : Int32) (a' ac4 : Int32) (nw5 : Nat → Int32),
    fX3_undo b pF pL st tm qt cm ds dr ol pz dvs = some (Int32.ofNat w, a, b3, pF3, pL3, st3, tm3, qt3, cm3, ds3, dr3, pz2) ∧ fX4_undo ac nw di = some (a', Int32.ofNat w', ac4, nw5) ∧ (w = 0 ∧ w' = 0 ∧ a = a' ∨ w = 3 ∧ w' = 1) ∧ ZA b3 pF3 pL3 st3 tm3 qt3 cm3 ds3 dr3 ol pz2 dvs nw5 ac4 di B := by
  obtain ⟨hD, O, P, hO, hP1, rfl, rfl, rfl, hk⟩ := h
  unfold fX3_undo fX4_undo fX1_size
  rw [ob_some]
  by_cases c : P = 0
  · subst c
    rw [if_pos (show Int32.ofNat 0 = 0 from rfl), if_pos (show Int32.ofNat 0 = 0 from rfl), ref1, ob2_some, if_neg n10]
    exact ⟨3, 1, _, _, _, _, _, _, _, _, _, _, _, _, _, _, rfl, rfl, Or.inr ⟨rfl, rfl⟩, hD, O, 0, hO, hP1, rfl, rfl, rfl, hk⟩
  · have n0 : ¬ Int32.ofNat P = 0 := fun q => c ((zN_inj (c := 0) (by omega) (by omega)).mp q)
    rw [if_neg n0, if_neg n0, ref0, ob2_some, if_pos rfl]
    have e : Int32.ofNat P - 1 = Int32.ofNat (P - 1) := zN_sub (c := 1) (by omega)
    have e2 : Int32.ofNat O + Int32.ofNat P - 1 = Int32.ofNat (O + P - 1) := by rw [zN_add]; exact zN_sub (c := 1) (by omega)
    rw [e, show (785 : Int32) * Int32.ofNat (P - 1) = Int32.ofNat (785 * (P - 1)) from zN_mul 785 _, show (0 : Int32) = Int32.ofNat 0 from rfl, mcopy (na := 10990) (nb := 785) di nw (a := 785 * (P - 1)) (c := 0) (by omega) (by omega) (by omega) (by omega), ob_some]
    unfold fX1_takeBack fX1_newest
    rw [e2, zrem14 _ (by omega), ob_some, if_neg (zi14 (Nat.mod_lt _ (by omega))), zN_cl (by omega)]
    have hl := hk (P - 1) (by omega)
    rw [show O + (P - 1) = O + P - 1 by omega] at hl
    refine ⟨0, 0, _, _, _, _, _, _, _, _, _, _, _, _, _, _, rfl, rfl, Or.inl ⟨rfl, rfl, e⟩, (ZD.copied hl _ _ _ _).congr fun x hx => ?_, O, P - 1, hO, by omega, rfl, e, rfl, fun k hk2 => hk k (by omega)⟩
    unfold zCopy
    rw [if_pos (by omega), Nat.sub_zero]
theorem st_ifWritten (h : ZD b pF pL st tm qt cm ds dr nw B) (bC pFC pLC stC : Nat → Int32) (tmC qtC cmC dsC drC : Int32) (tr : Nat → Int32) (a1 a2 : Int32) : ∃ (w : Nat) (a : Int32) (b3 pF3 pL3 st3 : Nat → Int32) (tm3 qt3 cm3 ds3 dr3 : Int32) (a' : Int32) (tr5 : Nat → Int32),
    fX3_ifWritten b pF pL st tm qt cm ds dr bC pFC pLC stC tmC qtC cmC dsC drC a1 a2 = some (Int32.ofNat w, a, b3, pF3, pL3, st3, tm3, qt3, cm3, ds3, dr3) ∧ fX4_ifWritten nw tr a1 a2 = some (a', Int32.ofNat w, tr5) ∧ w ≤ 3 ∧ (w = 0 → a = a') := by
  obtain ⟨w, hw, e1, e2, -, e4⟩ := span a1 a2
  unfold fX3_ifWritten fX4_ifWritten
  rw [e1, e2, ob_some, ob_some, mrefused (by omega), ob2_some]
  by_cases c : w = 0
  · subst c
    obtain ⟨s, m, rfl, rfl, h1, h2, h3⟩ := e4 rfl
    rw [if_pos (show Int32.ofNat 0 = 0 from rfl), if_pos (show bi (decide (0 < 0)) = 0 from rfl), mcopy0, ob_some]
    obtain ⟨T, t1, rfl, t2, t3, t4, t5⟩ := (h.copied bC pFC pLC stC).congr (r2 := zCopy nw tr 0 0) (fun x hx => zCopy0 nw tr hx)
    unfold fX0_copyFrom
    rw [ob9_some]
    obtain ⟨cc, b2, dr2, r2, k0, k1, k2, k3, k4⟩ := op_write t2 t3 h3
    rw [k1, k2, ob4_some, ob2_some, fx_countRanges, mranges k3.1.q, ob_some, ob_some]
    exact ⟨0, _, _, _, _, _, _, _, _, _, _, _, _, rfl, rfl, by omega, fun _ => rfl⟩
  · rw [if_neg (show ¬ Int32.ofNat w = 0 from fun q => c ((zN_inj (c := 0) (by omega) (by omega)).mp q)), decide_eq_true (show 0 < w by omega), if_neg (show ¬ bi true = 0 by decide)]
    exact ⟨w, _, _, _, _, _, _, _, _, _, _, _, _, rfl, rfl, hw, fun q => absurd q c⟩
theorem st_coming (h : ZD b pF pL st tm qt cm ds dr nw B) (hB : B + 100 < 2147483647) (bC pFC pLC stC : Nat → Int32) (tmC qtC cmC dsC drC : Int32) (sF sB : Int32) (tr : Nat → Int32) (a1 a2 : Int32) : ∃ (w w' : Nat) (a : Int32) (b3 pF3 pL3 st3 : Nat → Int32) (tm3 qt3 cm3 ds3 dr3 : Int32) (a' sF5 sB5 : Int32) (tr5 : Nat → Int32),
    fX3_coming b pF pL st tm qt cm ds dr bC pFC pLC stC tmC qtC cmC dsC drC a1 a2 = some (Int32.ofNat w, a, b3, pF3, pL3, st3, tm3, qt3, cm3, ds3, dr3) ∧ fX4_coming sF sB nw tr a1 a2 = some (a', Int32.ofNat w', sF5, sB5, tr5) ∧ (w = 0 ∧ w' = 0 ∧ a = a' ∨ w = 2 ∧ w' = 1) := by
  unfold fX3_coming fX4_coming
  rw [cx_checkTicks, mi_in32, mi_in32, ob_some, ob_some, show (1 : Int64).toInt = 1 from rfl, show (100 : Int64).toInt = 100 from rfl, show (0 : Int64).toInt = 0 from rfl, show (3 : Int64).toInt = 3 from rfl, i100]
  by_cases c0 : 1 ≤ a1.toInt ∧ a1.toInt ≤ 100
  · rw [if_pos c0, decide_eq_true c0, if_pos rfl, if_neg (show ¬ bi true = 0 by decide), ob_some]
    obtain ⟨e5, e6⟩ := zN_ofInt (x := a1) (by omega)
    by_cases c1 : 0 ≤ a2.toInt ∧ a2.toInt ≤ 3
    · rw [decide_eq_true c1, if_neg (show ¬ bi true = 0 by decide), if_neg (show ¬ a2 < 0 from fun q => by have := int_lt.mp q; rw [i0] at this; omega), if_pos (show a2 ≤ 3 from int_le.mpr (by rw [i3]; omega)), ref0, ob2_some, if_pos rfl, mcopy0, ob_some]
      obtain ⟨T, t1, rfl, t2, t3, t4, t5⟩ := (h.copied bC pFC pLC stC).congr (r2 := zCopy nw tr 0 0) (fun x hx => zCopy0 nw tr hx)
      unfold fX0_copyFrom
      rw [ob9_some]
      obtain ⟨b2, qt2, cm2, D, dr2, r2, sF2, sB2, k0, k1, k2, k3, k4, k5⟩ := op_run t4 t5 (N := a1.toInt.toNat) (by omega) (by omega) sF sB t2 t3
      rw [e5, k1, k2, ob7_some, ob4_some]
      have hcm : nw 770 = cm := by
        obtain ⟨_, _, _, g, _⟩ := h
        exact g.2.2.2.2.2.1
      by_cases d0 : a2 = 0
      · rw [if_pos d0, if_pos d0]
        exact ⟨0, 0, _, _, _, _, _, _, _, _, _, _, _, _, _, _, rfl, rfl, Or.inl ⟨rfl, rfl, rfl⟩⟩
      · rw [if_neg d0, if_neg d0]
        by_cases d1 : a2 = 1
        · rw [if_pos d1, if_pos d1]
          refine ⟨0, 0, _, _, _, _, _, _, _, _, _, _, _, _, _, _, rfl, rfl, Or.inl ⟨rfl, rfl, ?_⟩⟩
          rw [k3.2.2.2.2.2.1, hcm]
        · rw [if_neg d1, if_neg d1]
          by_cases d2 : a2 = 2
          · rw [if_pos d2, if_pos d2, fx_countRanges, mranges k3.1.q, ob_some, ob_some]
            exact ⟨0, 0, _, _, _, _, _, _, _, _, _, _, _, _, _, _, rfl, rfl, Or.inl ⟨rfl, rfl, rfl⟩⟩
          · rw [if_neg d2, if_neg d2, fx_countQueued, mqueued k3.1.q, ob_some, ob_some]
            exact ⟨0, 0, _, _, _, _, _, _, _, _, _, _, _, _, _, _, rfl, rfl, Or.inl ⟨rfl, rfl, rfl⟩⟩
    · rw [decide_eq_false c1, if_pos bi_f, ref1, ob2_some, if_neg n10]
      by_cases c2 : a2 < 0
      · rw [if_pos c2]
        exact ⟨2, 1, _, _, _, _, _, _, _, _, _, _, _, _, _, _, rfl, rfl, Or.inr ⟨rfl, rfl⟩⟩
      · rw [if_neg c2, if_neg (show ¬ a2 ≤ 3 from fun q => by
          have h1 := int_le.mp q
          rw [i3] at h1
          have h2 := int_le.mp (zNot_lt.mp c2)
          rw [i0] at h2
          exact c1 ⟨h2, h1⟩)]
        exact ⟨2, 1, _, _, _, _, _, _, _, _, _, _, _, _, _, _, rfl, rfl, Or.inr ⟨rfl, rfl⟩⟩
  · rw [if_neg c0, decide_eq_false c0, if_neg (show ¬ (2 : Int32) = 0 by decide), if_pos bi_f, ref1, ob2_some, if_neg n10]
    exact ⟨2, 1, _, _, _, _, _, _, _, _, _, _, _, _, _, _, rfl, rfl, Or.inr ⟨rfl, rfl⟩⟩
end WB
/-- a block that is held and in no range stays so -/
theorem mgone_stay {pF pL st : Nat → Int32} (hp : PV pF pL) (hS : SV st) {j : Nat} (hj : j < 256) (rf : Int32) : ∀ (n k f T : Nat) (b : Nat → Int32) (qt cm ds dr : Int32) (r : Nat → Int32) (sF sB : Int32), k + n = 101 → n < f → T + n < 2147483648 → RD b pF pL st (Int32.ofNat T) qt cm ds dr r → IV b (Int32.ofNat T) → b j < 0 → ¬ b j = -1 → ∃ sF2 sB2 r2, fX4_goneIn_36 f (Int32.ofNat j) (Int32.ofNat k) rf sF sB r = some (-1, rf, sF2, sB2, r2) := by
  intro n
  induction n with
  | zero =>
    intro k f T b qt cm ds dr r sF sB hk hf hT h hI h1 h2
    obtain ⟨f, rfl⟩ := zfuel hf
    obtain rfl : k = 101 := by omega
    rw [fX4_goneIn_36, if_pos (by decide)]
    exact ⟨_, _, _, rfl⟩
  | succ n ih =>
    intro k f T b qt cm ds dr r sF sB hk hf hT h hI h1 h2
    obtain ⟨f, rfl⟩ := zfuel hf
    obtain ⟨b2, cm2, D, dr2, r2, sF2, sB2, a0, a1, a2, a3, a4, a5⟩ := op_tick hp hS (by omega) sF sB h hI
    rw [fX4_goneIn_36, if_neg (show ¬ (100 : Int32) < Int32.ofNat k from fun q => by have := (zN_lt (a := 100) (by omega) (by omega)).mp q; omega), z256k, if_neg (zi785 (by omega)), zk785 (by omega), (h.1 j hj).2.1, if_neg h2, if_neg n10, a2, ob3_some, zN_1]
    exact ih (k + 1) f (T + 1) b2 _ cm2 _ dr2 r2 sF2 sB2 (by omega) (by omega) (by omega) a3 a4 (by rw [a5 j h1]; exact h1) (by rw [a5 j h1]; exact h2)
theorem op_gone {pF pL st : Nat → Int32} (hp : PV pF pL) (hS : SV st) {j : Nat} (hj : j < 256) (rf : Int32) (T0 : Nat) : ∀ (n k f f2 : Nat) (b : Nat → Int32) (qt cm ds dr : Int32) (r : Nat → Int32) (sF sB : Int32), k + n = 100 → n < f → n + 1 < f2 → T0 + 200 < 2147483648 → RD b pF pL st (Int32.ofNat (T0 + k)) qt cm ds dr r → IV b (Int32.ofNat (T0 + k)) →
    ∃ a b3 pF3 pL3 st3 tm3 qt3 cm3 ds3 dr3 sF2 sB2 r2, fX3_goneIn_17 (Int32.ofNat T0) f (Int32.ofNat j) (Int32.ofNat k) b pF pL st (Int32.ofNat (T0 + k)) qt cm ds dr = some (0, a, b3, pF3, pL3, st3, tm3, qt3, cm3, ds3, dr3) ∧ fX4_goneIn_36 f2 (Int32.ofNat j) (Int32.ofNat k) rf sF sB r = some (a, rf, sF2, sB2, r2) := by
  have held : ∀ (b : Nat → Int32), fX0_isHeld b (Int32.ofNat j) = some (if b j = -1 then 0 else 1) := fun b => by
    unfold fX0_isHeld
    rw [if_neg (zi256 hj), zk256 hj]
    by_cases c : b j = -1
    · rw [if_pos c, if_pos c]
    · rw [if_neg c, if_neg c]
  intro n
  induction n with
  | zero =>
    intro k f f2 b qt cm ds dr r sF sB hk hf hf2 hT h hI
    obtain ⟨f, rfl⟩ := zfuel hf
    obtain ⟨f2, rfl⟩ := zfuel (show 0 < f2 by omega)
    obtain rfl : k = 100 := by omega
    rw [fX3_goneIn_17, if_pos (by decide), held, ob_some, fX4_goneIn_36, if_neg (show ¬ (100 : Int32) < Int32.ofNat 100 by decide), z256k, if_neg (zi785 (by omega)), zk785 (by omega), (h.1 j hj).2.1]
    by_cases c : b j = -1
    · rw [if_pos c, if_pos rfl, if_pos rfl]
      refine ⟨_, _, _, _, _, _, _, _, _, _, sF, sB, r, rfl, ?_⟩
      rw [zN_sub (by omega), show T0 + 100 - T0 = 100 by omega]
    · rw [if_neg c, if_neg n10, if_neg n10]
      obtain ⟨b2, cm2, D, dr2, r2, sF2, sB2, a0, a1, a2, a3, a4, a5⟩ := op_tick hp hS (by omega) sF sB h hI
      obtain ⟨f2, rfl⟩ := zfuel (show 0 < f2 by omega)
      rw [a2, ob3_some, zN_1, fX4_goneIn_36, if_pos (by decide)]
      exact ⟨_, _, _, _, _, _, _, _, _, _, _, _, _, rfl, rfl⟩
  | succ n ih =>
    intro k f f2 b qt cm ds dr r sF sB hk hf hf2 hT h hI
    obtain ⟨f, rfl⟩ := zfuel hf
    obtain ⟨f2, rfl⟩ := zfuel (show 0 < f2 by omega)
    have q17 : fX0_isQueued b (Int32.ofNat j) = some (if b j < 0 then 0 else 1) := by
      unfold fX0_isQueued
      rw [if_neg (zi256 hj), zk256 hj]
      by_cases c : b j < 0
      · rw [if_pos c, if_pos c]
      · rw [if_neg c, if_neg c]
    rw [fX3_goneIn_17, if_neg (show ¬ (100 : Int32) ≤ Int32.ofNat k from fun q => by have := (zN_le (a := 100) (by omega) (by omega)).mp q; omega), q17, ob_some]
    by_cases c : b j < 0
    · rw [if_pos c, if_pos rfl, held, ob_some]
      by_cases c2 : b j = -1
      · rw [if_pos c2, if_pos rfl, fX4_goneIn_36, if_neg (show ¬ (100 : Int32) < Int32.ofNat k from fun q => by have := (zN_lt (a := 100) (by omega) (by omega)).mp q; omega), z256k, if_neg (zi785 (by omega)), zk785 (by omega), (h.1 j hj).2.1, if_pos c2, if_pos rfl]
        refine ⟨_, _, _, _, _, _, _, _, _, _, sF, sB, r, rfl, ?_⟩
        rw [zN_sub (by omega), show T0 + k - T0 = k by omega]
      · rw [if_neg c2, if_neg n10]
        obtain ⟨sF2, sB2, r2, g⟩ := mgone_stay hp hS hj rf (101 - k) k (f2 + 1) (T0 + k) b qt cm ds dr r sF sB (by omega) (by omega) (by omega) h hI c c2
        exact ⟨_, _, _, _, _, _, _, _, _, _, sF2, sB2, r2, rfl, g⟩
    · have c2 : ¬ b j = -1 := fun q => c (by rw [q]; decide)
      rw [if_neg c, if_neg n10, fX4_goneIn_36, if_neg (show ¬ (100 : Int32) < Int32.ofNat k from fun q => by have := (zN_lt (a := 100) (by omega) (by omega)).mp q; omega), z256k, if_neg (zi785 (by omega)), zk785 (by omega), (h.1 j hj).2.1, if_neg c2, if_neg n10]
      obtain ⟨b2, cm2, D, dr2, r2, sF2, sB2, a0, a1, a2, a3, a4, a5⟩ := op_tick hp hS (by omega) sF sB h hI
      rw [a1, a2, ob6_some, ob3_some, zN_1, show T0 + k + 1 = T0 + (k + 1) by omega]
      exact ih (k + 1) f f2 b2 _ cm2 _ dr2 r2 sF2 sB2 (by omega) (by omega) (by omega) hT a3 a4
theorem st_goneIn {b pF pL st : Nat → Int32} {tm qt cm ds dr : Int32} {nw : Nat → Int32} {B : Nat} (h : ZD b pF pL st tm qt cm ds dr nw B) (hB : B + 200 < 2147483647) (bC pFC pLC stC : Nat → Int32) (tmC qtC cmC dsC drC : Int32) (sF sB : Int32) (tr : Nat → Int32) (a1 : Int32) : ∃ (w : Nat) (a : Int32) (b3 pF3 pL3 st3 : Nat → Int32) (tm3 qt3 cm3 ds3 dr3 : Int32) (a' sF5 sB5 : Int32) (tr5 : Nat → Int32),
    fX3_goneIn b pF pL st tm qt cm ds dr bC pFC pLC stC tmC qtC cmC dsC drC a1 = some (Int32.ofNat w, a, b3, pF3, pL3, st3, tm3, qt3, cm3, ds3, dr3) ∧ fX4_goneIn sF sB nw tr a1 = some (a', Int32.ofNat w, sF5, sB5, tr5) ∧ (w = 0 ∧ a = a' ∨ w = 1) := by
  unfold fX3_goneIn fX4_goneIn fX3_checkBlock
  rw [mi_block, cx_isBlock, ob_some, ob_some]
  by_cases c : 0 ≤ a1.toInt ∧ a1.toInt ≤ 255
  · obtain ⟨e1, e2⟩ := zN_ofInt c.1
    rw [decide_eq_true c, if_neg (show ¬ bi true = 0 by decide), ob_some, if_pos rfl, ref0, ob2_some, if_neg (show ¬ bi true = 0 by decide), if_pos rfl, mcopy0, ob_some]
    obtain ⟨T, t1, rfl, t2, t3, t4, t5⟩ := (h.copied bC pFC pLC stC).congr (r2 := zCopy nw tr 0 0) (fun x hx => zCopy0 nw tr hx)
    unfold fX0_copyFrom
    rw [ob9_some]
    obtain ⟨a, b3, pF3, pL3, st3, tm3, qt3, cm3, ds3, dr3, sF2, sB2, r2, g1, g2⟩ := op_gone t4 t5 (j := a1.toInt.toNat) (by omega) 0 T 100 0 1000 1000 _ _ _ _ _ _ sF sB (by omega) (by omega) (by omega) (by omega) t2 t3
    rw [e1]
    exact ⟨0, a, b3, pF3, pL3, st3, tm3, qt3, cm3, ds3, dr3, a, sF2, sB2, r2, g1, g2, Or.inl ⟨rfl, rfl⟩⟩
  · rw [decide_eq_false c, if_pos bi_f, ob_some, if_neg n10, if_pos bi_f, ref1, ob2_some, if_neg n10]
    exact ⟨1, _, _, _, _, _, _, _, _, _, _, _, _, _, _, rfl, rfl, Or.inr rfl⟩
/-! next, bestGranule, stuck -/
theorem op_next {pF pL st : Nat → Int32} (hp : PV pF pL) (hS : SV st) (rf : Int32) {v : Nat} (hv : v < 3) : ∀ (n k f f2 T : Nat) (b : Nat → Int32) (qt cm ds dr : Int32) (r : Nat → Int32) (sF sB : Int32), k + n = 100 → n < f → n < f2 → T + n < 2147483648 → RD b pF pL st (Int32.ofNat T) qt cm ds dr r → IV b (Int32.ofNat T) →
    ∃ a b3 pF3 pL3 st3 tm3 qt3 cm3 ds3 dr3 sF2 sB2 r2, fX3_next_32 f (Int32.ofNat v) (Int32.ofNat k) b pF pL st (Int32.ofNat T) qt cm ds dr = some (0, a, b3, pF3, pL3, st3, tm3, qt3, cm3, ds3, dr3) ∧ fX4_next_41 f2 (Int32.ofNat v) (Int32.ofNat k) rf sF sB r = some (a, rf, sF2, sB2, r2) := by
  obtain ⟨g, hg1, hg2⟩ := hS 0 (by omega)
  obtain ⟨C, hC1, hC2⟩ := hS 4 (by omega)
  obtain ⟨o, ho1, ho2⟩ := hS 5 (by omega)
  obtain ⟨Bd, hB1, hB2⟩ := hS 2 (by omega)
  have hg : g < 5 := by have : zGm 0 = 4 := rfl; omega
  have hC : C ≤ 9 := hC2
  have hBd : Bd ≤ 40 := hB2
  have ho : o < 3 := by have : zGm 5 = 2 := rfl; omega
  have hG := zG_pos g
  intro n
  induction n with
  | zero =>
    intro k f f2 T b qt cm ds dr r sF sB hk hf hf2 hT h hI
    obtain ⟨f, rfl⟩ := zfuel hf
    obtain ⟨f2, rfl⟩ := zfuel hf2
    obtain rfl : k = 100 := by omega
    rw [fX3_next_32, if_pos (show (100 : Int32) ≤ Int32.ofNat 100 by decide), fX4_next_41, if_pos (show (100 : Int32) ≤ Int32.ofNat 100 by decide)]
    exact ⟨_, _, _, _, _, _, _, _, _, _, _, _, _, rfl, rfl⟩
  | succ n ih =>
    intro k f f2 T b qt cm ds dr r sF sB hk hf hf2 hT h hI
    obtain ⟨f, rfl⟩ := zfuel hf
    obtain ⟨f2, rfl⟩ := zfuel hf2
    have n100 : ¬ (100 : Int32) ≤ Int32.ofNat k := fun q => by have := (zN_le (a := 100) (by omega) (by omega)).mp q; omega
    have h774 : r 774 = st 1 := h.g 1 (by omega)
    have h775 : r 775 = st 2 := h.g 2 (by omega)
    have h777 : r 777 = st 4 := h.g 4 (by omega)
    have h769 : r 769 = qt := h.2.2.2.2.1
    have h778 : r 778 = Int32.ofNat o := by rw [← ho1]; exact h.g 5 (by omega)
    have h773 : r 773 = Int32.ofNat g := by rw [← hg1]; exact h.g 0 (by omega)
    obtain ⟨b2, cm2, D, dr2, r2, sF2, sB2, a0, a1, a2, a3, a4, a5⟩ := op_tick hp hS (by omega) sF sB h hI
    have rest : ∃ a b3 pF3 pL3 st3 tm3 qt3 cm3 ds3 dr3 sF3 sB3 r3, (ob6 (fX0_tick b pF pL st (Int32.ofNat T) qt cm ds dr) fun bC4 tmC4 qtC4 cmC4 dsC4 drC4 => fX3_next_32 f (Int32.ofNat v) (Int32.ofNat k + 1) bC4 pF pL st tmC4 qtC4 cmC4 dsC4 drC4) = some (0, a, b3, pF3, pL3, st3, tm3, qt3, cm3, ds3, dr3) ∧ (ob3 (fX4_tick sF sB r) fun sF3 sB3 tr3 => fX4_next_41 f2 (Int32.ofNat v) (Int32.ofNat k + 1) rf sF3 sB3 tr3) = some (a, rf, sF3, sB3, r3) := by
      rw [a1, a2, ob6_some, ob3_some, zN_1]
      exact ih (k + 1) f f2 (T + 1) b2 _ cm2 _ dr2 r2 sF2 sB2 (by omega) (by omega) (by omega) (by omega) a3 a4
    rw [fX3_next_32, if_neg n100, fX4_next_41, if_neg n100, h769, h774, h775, h777]
    unfold fX0_pieceOfTick fX0_budgetOfTick
    by_cases c : qt < st 1
    · rw [if_pos c, if_pos c, ob_some, if_pos (show (0 : Int32) ≤ st 4 by rw [hC1]; exact zN_nn (by omega)), ob_some, if_pos rfl]
      exact rest
    · rw [if_neg c, if_neg c, ob_some]
      by_cases c2 : st 2 ≤ st 4
      · rw [if_pos c2, if_pos c2, ob_some, if_pos rfl]
        exact rest
      · rw [if_neg c2, if_neg c2]
        have hBC : C < Bd := by
          rw [hB1, hC1] at c2
          by_cases q : C < Bd
          · exact q
          · exact absurd ((zN_le (by omega) (by omega)).mpr (by omega)) c2
        obtain ⟨w, e1, hv1⟩ := fx_choose (dd := true) hp hI hg hg1 ho
        obtain ⟨w2, e2, hv2⟩ := mchosen (dd := true) h.1 hp h.2.1 hI h.2.2.2.1 (h.g 3 (by omega)) hg h773 ho
        obtain rfl := CH_one hv1 hv2
        replace e1 : fX0_choosePiece b pF pL st (Int32.ofNat T) 1 (Int32.ofNat o) = some w := e1
        replace e2 : fX4_chosen r (Int32.ofNat o) 1 = some (blk (2 ^ g) w) := e2
        rw [ho1, e1, h778, e2, ob_some, ob_some, ob_some]
        rcases CH_piece hI hv1 with rfl | ⟨s, hs, rfl, hb⟩
        · rw [blk_m1, if_pos rfl, if_pos rfl]
          exact rest
        · have hB3 : zB (fr (zq b) (pn pF pL) (2 ^ g)) := fr_B hG
          have hle := eo_le hB3 (j := s) (by omega)
          have hsG : s * 2 ^ g ≤ 256 := by
            have := fr_lt (bg_iff.mp hb).1
            rw [Nat.add_mul] at this; omega
          rw [blk_N (by omega), if_neg (zN_m (by omega)), if_neg (zN_m (by omega)), mpiece h.1.q hp h.2.1 hg h773 (by omega), show pc (fr (zq b) (pn pF pL) (2 ^ g)) s = eo (fr (zq b) (pn pF pL) (2 ^ g)) s - s from if_pos hb, ob_some, hB1, hC1, zN_sub (by omega), mleast (by omega) (by omega), ob_some]
          have e17 := mleast (x := 16) (y := min (eo (fr (zq b) (pn pF pL) (2 ^ g)) s - s) (Bd - C)) (by omega) (by omega)
          replace e17 : fX4_least 16 (Int32.ofNat (min (eo (fr (zq b) (pn pF pL) (2 ^ g)) s - s) (Bd - C))) = _ := e17
          rw [e17, ob_some]
          unfold fX3_ofCommand
          rcases (show v = 0 ∨ v = 1 ∨ v = 2 by omega) with rfl | rfl | rfl
          · rw [if_pos (show Int32.ofNat 0 = 0 from rfl), if_pos (show Int32.ofNat 0 = 0 from rfl), fx_granule hg hg1, ob_some, ob_some, zN_mul]
            exact ⟨_, _, _, _, _, _, _, _, _, _, _, _, _, rfl, rfl⟩
          · rw [if_neg (show ¬ Int32.ofNat 1 = 0 by decide), if_neg (show ¬ Int32.ofNat 1 = 0 by decide), if_pos (show Int32.ofNat 1 = 1 from rfl), if_pos (show Int32.ofNat 1 = 1 from rfl), fx_granule hg hg1, mgranule hg h773, ob_some]
            unfold fX0_granulesOfTick fX0_budgetOfTick
            rw [if_neg c, ob_some, hB1, fx_most hC1 hBC hBd, ob_some, fx_granulesFrom hp hg hg1 (by omega) (by omega), ob_some, ob_some, ob_some, ob_some]
            refine ⟨_, _, _, _, _, _, _, _, _, _, sF, sB, r, rfl, ?_⟩
            rw [show min 16 (min (eo (fr (zq b) (pn pF pL) (2 ^ g)) s - s) (Bd - C)) = min (min 16 (Bd - C)) (eo (fr (zq b) (pn pF pL) (2 ^ g)) s - s) by omega]
          · rw [if_neg (show ¬ Int32.ofNat 2 = 0 by decide), if_neg (show ¬ Int32.ofNat 2 = 0 by decide), if_neg (show ¬ Int32.ofNat 2 = 1 by decide), if_neg (show ¬ Int32.ofNat 2 = 1 by decide), h.2.2.2.1]
            exact ⟨_, _, _, _, _, _, _, _, _, _, _, _, _, rfl, rfl⟩
section WB2
variable {b pF pL st : Nat → Int32} {tm qt cm ds dr : Int32} {nw : Nat → Int32} {B : Nat}
theorem st_next (h : ZD b pF pL st tm qt cm ds dr nw B) (hB : B + 200 < 2147483647) (bC pFC pLC stC : Nat → Int32) (tmC qtC cmC dsC drC : Int32) (sF sB : Int32) (tr : Nat → Int32) (a1 : Int32) : ∃ (w w' : Nat) (a : Int32) (b3 pF3 pL3 st3 : Nat → Int32) (tm3 qt3 cm3 ds3 dr3 : Int32) (a' sF5 sB5 : Int32) (tr5 : Nat → Int32),
    fX3_next b pF pL st tm qt cm ds dr bC pFC pLC stC tmC qtC cmC dsC drC a1 = some (Int32.ofNat w, a, b3, pF3, pL3, st3, tm3, qt3, cm3, ds3, dr3) ∧ fX4_next sF sB nw tr a1 = some (a', Int32.ofNat w', sF5, sB5, tr5) ∧ (w = 0 ∧ w' = 0 ∧ a = a' ∨ w = 2 ∧ w' = 1) := by
  unfold fX3_next fX4_next
  rw [mi_in32, ob_some, show (0 : Int64).toInt = 0 from rfl, show (2 : Int64).toInt = 2 from rfl]
  by_cases c0 : 0 ≤ a1.toInt ∧ a1.toInt ≤ 2
  · obtain ⟨e5, e6⟩ := zN_ofInt (x := a1) (by omega)
    rw [decide_eq_true c0, if_neg (show ¬ bi true = 0 by decide), if_neg (show ¬ a1 < 0 from fun q => by have := int_lt.mp q; rw [i0] at this; omega), if_pos (show a1 ≤ 2 from int_le.mpr (by rw [i2]; omega)), ref0, ob2_some, if_pos rfl, mcopy0, ob_some]
    obtain ⟨T, t1, rfl, t2, t3, t4, t5⟩ := (h.copied bC pFC pLC stC).congr (r2 := zCopy nw tr 0 0) (fun x hx => zCopy0 nw tr hx)
    unfold fX0_copyFrom
    rw [ob9_some]
    obtain ⟨a, b3, pF3, pL3, st3, tm3, qt3, cm3, ds3, dr3, sF2, sB2, r2, g1, g2⟩ := op_next t4 t5 0 (v := a1.toInt.toNat) (by omega) 100 0 1000 1000 T _ _ _ _ _ _ sF sB (by omega) (by omega) (by omega) (by omega) t2 t3
    rw [← e5] at g1 g2
    exact ⟨0, 0, a, b3, pF3, pL3, st3, tm3, qt3, cm3, ds3, dr3, a, sF2, sB2, r2, g1, g2, Or.inl ⟨rfl, rfl, rfl⟩⟩
  · rw [decide_eq_false c0, if_pos bi_f, ref1, ob2_some, if_neg n10]
    by_cases c2 : a1 < 0
    · rw [if_pos c2]
      exact ⟨2, 1, _, _, _, _, _, _, _, _, _, _, _, _, _, _, rfl, rfl, Or.inr ⟨rfl, rfl⟩⟩
    · rw [if_neg c2, if_neg (show ¬ a1 ≤ 2 from fun q => by
        have h1 := int_le.mp q
        rw [i2] at h1
        have h2 := int_le.mp (zNot_lt.mp c2)
        rw [i0] at h2
        exact c0 ⟨h2, h1⟩)]
      exact ⟨2, 1, _, _, _, _, _, _, _, _, _, _, _, _, _, _, rfl, rfl, Or.inr ⟨rfl, rfl⟩⟩
/-- a setting is laid into a row -/
theorem ZD.lay (h : ZD b pF pL st tm qt cm ds dr nw B) {k n : Nat} (hk : k < 6) (hn : n ≤ zGm k) : ZD b pF pL (upd st k (Int32.ofNat n)) tm qt cm ds dr (upd nw (773 + k) (Int32.ofNat n)) B := by
  obtain ⟨v, r2, -, -, -, -, h3, h4⟩ := op_lay h hk hn
  have e : fX4_lay nw (Int32.ofNat k) (Int32.ofNat n) = some (nw (773 + k), upd nw (773 + k) (Int32.ofNat n)) := by
    unfold fX4_lay
    rw [z773k, if_neg (zi785 (by omega)), zk785 (by omega)]
    exact if_neg (zj785 (by omega))
  rw [e] at h3
  obtain ⟨-, rfl⟩ := Prod.mk.inj (Option.some.inj h3)
  exact h4
theorem op_best (h : ZD b pF pL st tm qt cm ds dr nw B) (hB : B + 200 < 2147483647) {N : Nat} (hN : N ≤ 60) (rf : Int32) : ∀ (n k f f2 : Nat) (v2 v3 : Int32) (bC pFC pLC stC : Nat → Int32) (tmC qtC cmC dsC drC : Int32) (tr : Nat → Int32) (sF sB : Int32), k + n = 5 → n < f → n < f2 →
    ∃ a b3 pF3 pL3 st3 tm3 qt3 cm3 ds3 dr3 sF2 sB2 r2, fX3_bestGranule_13 b pF pL st tm qt cm ds dr f (Int32.ofNat N) v2 v3 (Int32.ofNat k) bC pFC pLC stC tmC qtC cmC dsC drC = some (0, a, b3, pF3, pL3, st3, tm3, qt3, cm3, ds3, dr3) ∧ (0 < k → fX4_bestGranule_33 nw f2 (Int32.ofNat N) v2 v3 (Int32.ofNat k) rf sF sB tr = some (a, rf, sF2, sB2, r2)) ∧ (k = 0 → v3 = 0 → fX4_bestGranule_33 nw f2 (Int32.ofNat N) (-1) (-1) (Int32.ofNat k) rf sF sB tr = some (a, rf, sF2, sB2, r2)) := by
  intro n
  induction n with
  | zero =>
    intro k f f2 v2 v3 bC pFC pLC stC tmC qtC cmC dsC drC tr sF sB hk hf hf2
    obtain ⟨f, rfl⟩ := zfuel hf
    obtain ⟨f2, rfl⟩ := zfuel hf2
    obtain rfl : k = 5 := by omega
    rw [fX3_bestGranule_13, fX4_bestGranule_33]
    exact ⟨_, _, _, _, _, _, _, _, _, _, _, _, _, rfl, fun _ => rfl, fun q => by omega⟩
  | succ n ih =>
    intro k f f2 v2 v3 bC pFC pLC stC tmC qtC cmC dsC drC tr sF sB hk hf hf2
    obtain ⟨f, rfl⟩ := zfuel hf
    obtain ⟨f2, rfl⟩ := zfuel hf2
    have hk4 : ¬ (4 : Int32) < Int32.ofNat k := fun q => by have := (zN_lt (a := 4) (by omega) (by omega)).mp q; omega
    have hcp := ((h.copied bC pFC pLC stC).congr (r2 := zCopy nw tr 0 0) (fun x hx => zCopy0 nw tr hx)).lay (k := 0) (n := k) (by omega) (show k ≤ 4 by omega)
    obtain ⟨T, t1, t0, t2, t3, t4, t5⟩ := hcp
    obtain ⟨b2, qt2, cm2, D, dr2, r2, sF2, sB2, k0, k1, k2, k3, k4, k5⟩ := op_run t4 t5 (T := T) (N := N) (by omega) (by omega) sF sB (by rw [t0] at t2; exact t2) (by rw [t0] at t3; exact t3)
    have hcs : fX0_changeSetting (va_cpy st stC 0 0 6) 0 (Int32.ofNat k) = some (upd (va_cpy st stC 0 0 6) 0 (Int32.ofNat k)) := rfl
    rw [fX3_bestGranule_13, if_neg (show ¬ zGs 0 < Int32.ofNat k from hk4)]
    unfold fX0_copyFrom
    rw [← t0] at k1
    rw [ob9_some, hcs, ob_some, k1, ob7_some]
    replace k2 : fX4_runOn sF sB (upd (zCopy nw tr 0 0) 773 (Int32.ofNat k)) (Int32.ofNat N) = _ := k2
    have model : ∀ x y : Int32, fX4_bestGranule_33 nw (f2 + 1) (Int32.ofNat N) x y (Int32.ofNat k) rf sF sB tr = if Int32.ofNat D < y then fX4_bestGranule_33 nw f2 (Int32.ofNat N) x y (Int32.ofNat (k + 1)) rf sF2 sB2 r2 else fX4_bestGranule_33 nw f2 (Int32.ofNat N) (Int32.ofNat k) (Int32.ofNat D) (Int32.ofNat (k + 1)) rf sF2 sB2 r2 := fun x y => by
      rw [fX4_bestGranule_33, show fX4_greatest 0 = some 4 from rfl, ob_some, if_neg hk4, mcopy0, ob_some, k2, ob4_some, zN_1]
    rw [model, model, zN_1]
    by_cases c : Int32.ofNat D < v3
    · rw [if_pos c, if_pos c]
      obtain ⟨a, b3, pF3, pL3, st3, tm3, qt3, cm3, ds3, dr3, sF3, sB3, r3, g1, g2, -⟩ := ih (k + 1) f f2 v2 v3 b2 _ _ _ _ qt2 cm2 _ dr2 r2 sF2 sB2 (by omega) (by omega) (by omega)
      refine ⟨a, b3, pF3, pL3, st3, tm3, qt3, cm3, ds3, dr3, sF3, sB3, r3, g1, fun _ => g2 (by omega), fun q1 q2 => ?_⟩
      rw [q2] at c
      exact absurd c (zN_neg (by omega))
    · rw [if_neg c, if_neg c, if_neg (show ¬ Int32.ofNat D < -1 from fun q => by
        have := int_lt.mp q
        rw [zN_toInt (by omega), show (-1 : Int32).toInt = -1 by decide] at this
        omega)]
      obtain ⟨a, b3, pF3, pL3, st3, tm3, qt3, cm3, ds3, dr3, sF3, sB3, r3, g1, g2, -⟩ := ih (k + 1) f f2 (Int32.ofNat k) (Int32.ofNat D) b2 _ _ _ _ qt2 cm2 _ dr2 r2 sF2 sB2 (by omega) (by omega) (by omega)
      exact ⟨a, b3, pF3, pL3, st3, tm3, qt3, cm3, ds3, dr3, sF3, sB3, r3, g1, fun _ => g2 (by omega), fun _ _ => g2 (by omega)⟩
theorem st_bestGranule (h : ZD b pF pL st tm qt cm ds dr nw B) (hB : B + 200 < 2147483647) (bC pFC pLC stC : Nat → Int32) (tmC qtC cmC dsC drC : Int32) (sF sB : Int32) (tr : Nat → Int32) (a1 : Int32) : ∃ (w w' : Nat) (a : Int32) (b3 pF3 pL3 st3 : Nat → Int32) (tm3 qt3 cm3 ds3 dr3 : Int32) (a' sF5 sB5 : Int32) (tr5 : Nat → Int32),
    fX3_bestGranule b pF pL st tm qt cm ds dr bC pFC pLC stC tmC qtC cmC dsC drC a1 = some (Int32.ofNat w, a, b3, pF3, pL3, st3, tm3, qt3, cm3, ds3, dr3) ∧ fX4_bestGranule sF sB nw tr a1 = some (a', Int32.ofNat w', sF5, sB5, tr5) ∧ (w = 0 ∧ w' = 0 ∧ a = a' ∨ w = 2 ∧ w' = 1) := by
  unfold fX3_bestGranule fX4_bestGranule
  rw [cx_checkTicks, mi_in32, ob_some, ob_some, show (1 : Int64).toInt = 1 from rfl, show (60 : Int64).toInt = 60 from rfl, i60]
  by_cases c0 : 1 ≤ a1.toInt ∧ a1.toInt ≤ 60
  · rw [if_pos c0, decide_eq_true c0, if_pos rfl, if_neg (show ¬ bi true = 0 by decide), ref0, ob2_some, if_pos rfl]
    obtain ⟨e5, e6⟩ := zN_ofInt (x := a1) (by omega)
    obtain ⟨a, b3, pF3, pL3, st3, tm3, qt3, cm3, ds3, dr3, sF3, sB3, r3, g1, -, g3⟩ := op_best h hB (N := a1.toInt.toNat) (by omega) 0 5 0 1000 1000 0 0 bC pFC pLC stC tmC qtC cmC dsC drC tr sF sB rfl (by omega) (by omega)
    rw [← e5] at g1 g3
    exact ⟨0, 0, a, b3, pF3, pL3, st3, tm3, qt3, cm3, ds3, dr3, a, sF3, sB3, r3, g1, g3 rfl rfl, Or.inl ⟨rfl, rfl, rfl⟩⟩
  · rw [if_neg c0, decide_eq_false c0, if_neg (show ¬ (2 : Int32) = 0 by decide), if_pos bi_f, ref1, ob2_some, if_neg n10]
    exact ⟨2, 1, _, _, _, _, _, _, _, _, _, _, _, _, _, _, rfl, rfl, Or.inr ⟨rfl, rfl⟩⟩
end WB2
/-! good granules, counted by blocks and by granules -/
theorem cn_mul {G : Nat} (hG : 0 < G) (p f : Nat → Bool) (hp : ∀ i, p (i * G) = f i) (hn : ∀ j, ¬ j % G = 0 → p j = false) : ∀ m, cn p (m * G) = cn f m := by
  have step : ∀ m t, t < G → cn p (m * G + (t + 1)) = cn p (m * G) + (if f m then 1 else 0) := by
    intro m t
    induction t with
    | zero =>
      intro _
      show cn p (m * G) + (if p (m * G) then 1 else 0) = _
      rw [hp]
    | succ t ih =>
      intro ht
      show cn p (m * G + (t + 1)) + (if p (m * G + (t + 1)) then 1 else 0) = _
      rw [ih (by omega), hn _ (by rw [Nat.mul_comm, Nat.mul_add_mod, Nat.mod_eq_of_lt ht]; omega)]
      simp
  intro m
  induction m with
  | zero => rw [Nat.zero_mul]; rfl
  | succ m ih =>
    rw [Nat.add_mul, Nat.one_mul]
    have := step m (G - 1) (by omega)
    rw [show G - 1 + 1 = G by omega] at this
    rw [this, ih, cn]
theorem gd_0 {q p : Nat → Bool} {G j : Nat} (h : ¬ j % G = 0) : gd q p G j = false := by
  unfold gd
  rw [decide_eq_false (fun y => h y.2)]; rfl
theorem gd_cn (q p : Nat → Bool) {g : Nat} (hg : g < 5) : cn (gd q p (2 ^ g)) 256 = cn (fr q p (2 ^ g)) (256 / 2 ^ g) := by
  have h := cn_mul (zG_pos g) (gd q p (2 ^ g)) (fr q p (2 ^ g)) (fun i => rfl) (fun j hj => gd_0 hj) (256 / 2 ^ g)
  have e : ∀ g, g < 5 → 256 / 2 ^ g * 2 ^ g = 256 := by decide
  rw [e g hg] at h
  exact h
theorem mstuck_15 {q : Nat → Bool} {pF pL r : Nat → Int32} (hq : RQ q r) (hp : PV pF pL) (hr : RP pF pL r) {g : Nat} (hg : g < 5) (h : r 773 = Int32.ofNat g) (v rf : Int32) : ∀ n k f, k + n = 256 → n < f → fX4_stuck_15 r f (v - Int32.ofNat (cn (gd q (pn pF pL) (2 ^ g)) k * 2 ^ g)) (Int32.ofNat k) rf = some (v - Int32.ofNat (cn (gd q (pn pF pL) (2 ^ g)) 256 * 2 ^ g), rf) := by
  intro n
  induction n with
  | zero =>
    intro k f hk hf
    obtain ⟨f, rfl⟩ := zfuel hf
    obtain rfl : k = 256 := by omega
    rw [fX4_stuck_15, if_pos z256p]
  | succ n ih =>
    intro k f hk hf
    obtain ⟨f, rfl⟩ := zfuel hf
    have hk2 : k < 256 := by omega
    rw [fX4_stuck_15, if_neg (z256 hk2), mgood hq hp hr hg h (by omega), ob_some, mgranule hg h, zN_1]
    have h1 := ih (k + 1) f (by omega) (by omega)
    rw [cn] at h1
    cases c : gd q (pn pF pL) (2 ^ g) k
    · rw [c] at h1
      rw [if_pos bi_f, Int32.sub_zero]
      exact h1
    · rw [c] at h1
      rw [if_neg (show ¬ bi true = 0 by decide), ob_some, Int32.sub_sub, zN_add]
      rw [if_pos rfl, Nat.add_mul, Nat.one_mul] at h1
      exact h1
/-- free granules from one on, ahead of another -/
theorem fx_countGranules_19 {b pF pL st : Nat → Int32} (hp : PV pF pL) {g : Nat} (hg : g < 5) (h : st 0 = Int32.ofNat g) {e : Nat} (he : e ≤ 256) (c0 : Nat) : ∀ n k f, k + n = e → n < f → c0 ≤ cn (fr (zq b) (pn pF pL) (2 ^ g)) k → fX0_countGranules_19 b pF pL st f (Int32.ofNat (cn (fr (zq b) (pn pF pL) (2 ^ g)) k - c0)) (Int32.ofNat e) (Int32.ofNat k) = some (Int32.ofNat (cn (fr (zq b) (pn pF pL) (2 ^ g)) e - c0)) := by
  intro n
  induction n with
  | zero =>
    intro k f hk hf hc
    obtain ⟨f, rfl⟩ := zfuel hf
    obtain rfl : k = e := by omega
    rw [fX0_countGranules_19, if_pos ((zN_le (by omega) (by omega)).mpr (Nat.le_refl _))]
  | succ n ih =>
    intro k f hk hf hc
    obtain ⟨f, rfl⟩ := zfuel hf
    rw [fX0_countGranules_19, if_neg (fun q => by have := (zN_le (by omega) (by omega)).mp q; omega), fx_isFree hp hg h (by omega), ob_some, zN_1]
    have h1 := ih (k + 1) f (by omega) (by omega)
    rw [cn] at h1
    cases c : fr (zq b) (pn pF pL) (2 ^ g) k
    · rw [c] at h1
      rw [if_pos bi_f]
      exact h1 (by simpa using hc)
    · rw [c] at h1
      rw [if_neg (show ¬ bi true = 0 by decide), zN_1]
      have := h1 (by simp; omega)
      rw [if_pos rfl, show cn (fr (zq b) (pn pF pL) (2 ^ g)) k + 1 - c0 = cn (fr (zq b) (pn pF pL) (2 ^ g)) k - c0 + 1 by omega] at this
      exact this
theorem fx_granuleFrom {st : Nat → Int32} {g : Nat} (hg : g < 5) (h : st 0 = Int32.ofNat g) {a : Nat} (ha : a ≤ 256) : fX0_granuleFrom st (Int32.ofNat a) = some (Int32.ofNat ((a + 2 ^ g - 1) / 2 ^ g)) := by
  have hG := zG_pos g
  have hG2 := zG_le g hg
  unfold fX0_granuleFrom
  rw [fx_granule hg h, ob_some, h, zN_add, show Int32.ofNat (a + 2 ^ g) - 1 = Int32.ofNat (a + 2 ^ g - 1) from zN_sub (c := 1) (by omega), zshr g hg _ (by omega)]
theorem st_stuck {b pF pL st : Nat → Int32} {tm qt cm ds dr : Int32} {nw : Nat → Int32} {B : Nat} (h : ZD b pF pL st tm qt cm ds dr nw B) : ∃ a, fX3_stuck b pF pL st = some a ∧ fX4_stuck nw = some (a, 0) := by
  obtain ⟨T, t1, t0, t2, t3, t4, t5⟩ := h
  obtain ⟨g, hg1, hg2⟩ := t5 0 (by omega)
  have hg : g < 5 := by have : zGm 0 = 4 := rfl; omega
  have hG := zG_pos g
  have h773 : nw 773 = Int32.ofNat g := by rw [← hg1]; exact t2.g 0 (by omega)
  have hN : 256 / 2 ^ g ≤ 256 := Nat.div_le_self _ _
  refine ⟨Int32.ofNat (cn (zq b) 256) - Int32.ofNat (cn (gd (zq b) (pn pF pL) (2 ^ g)) 256 * 2 ^ g), ?_, ?_⟩
  · unfold fX3_stuck fX0_countGranules
    have e0 : fX0_granuleFrom st 0 = some (Int32.ofNat 0) := by
      have := fx_granuleFrom hg hg1 (a := 0) (by omega)
      rw [Nat.zero_add, Nat.div_eq_of_lt (by omega)] at this
      exact this
    have e1 := fx_countGranules_19 (b := b) t4 hg hg1 hN 0 (256 / 2 ^ g) 0 1000 (by omega) (by omega) (Nat.zero_le _)
    rw [Nat.sub_zero] at e1
    rw [fx_countQueued, ob_some, e0, ob_some, hg1, show (256 : Int32) = Int32.ofNat 256 from rfl, zshr g hg 256 (by omega)]
    replace e1 : fX0_countGranules_19 b pF pL st 1000 0 (Int32.ofNat (256 / 2 ^ g)) (Int32.ofNat 0) = _ := e1
    rw [e1, ob_some, fx_granule hg hg1, ob_some, zN_mul, gd_cn _ _ hg, Nat.sub_zero]
  · unfold fX4_stuck
    rw [mqueued t2.1.q, ob_some]
    have e2 := mstuck_15 t2.1.q t4 t2.2.1 hg h773 (Int32.ofNat (cn (zq b) 256)) 0 256 0 1000 (by omega) (by omega)
    rw [show Int32.ofNat (cn (gd (zq b) (pn pF pL) (2 ^ g)) 0 * 2 ^ g) = 0 by rw [cn, Nat.zero_mul]; rfl, Int32.sub_zero] at e2
    exact e2
/-! what there is -/
theorem cn_not (p : Nat → Bool) : ∀ n, cn (fun i => !p i) n + cn p n = n
  | 0 => rfl
  | n + 1 => by
    have := cn_not p n
    rw [cn, cn]
    cases p n <;> simp <;> omega
theorem msum_4 {r : Nat → Int32} {base : Nat} (hb : base + 256 ≤ 785) (p : Nat → Bool) (h : ∀ i, i < 256 → r (base + i) = if p i = true then 1 else 0) : ∀ n k f, k + n = 256 → n < f → fX4_sum_4 r f (Int32.ofNat base) (Int32.ofNat (cn p k)) (Int32.ofNat k) = some (Int32.ofNat (cn p 256)) := by
  intro n
  induction n with
  | zero =>
    intro k f hk hf
    obtain ⟨f, rfl⟩ := zfuel hf
    obtain rfl : k = 256 := by omega
    rw [fX4_sum_4, if_pos z256p]
  | succ n ih =>
    intro k f hk hf
    obtain ⟨f, rfl⟩ := zfuel hf
    have hk2 : k < 256 := by omega
    rw [fX4_sum_4, if_neg (z256 hk2), zN_add, if_neg (zi785 (by omega)), zk785 (by omega), h k hk2, zN_1]
    have h1 := ih (k + 1) f (by omega) (by omega)
    rw [cn] at h1
    by_cases c : p k = true
    · rw [if_pos c] at h1 ⊢
      rw [zN_1]
      exact h1
    · rw [if_neg c] at h1 ⊢
      rw [Int32.add_zero]
      exact h1
theorem mlost_4 {b r : Nat → Int32} {tm : Int32} (hb : RB b r) (hI : IV b tm) : ∀ n k f, k + n = 256 → n < f → fX4_lost_4 r f (Int32.ofNat (cn (fun i => decide (b i = -3)) k)) (Int32.ofNat k) = some (Int32.ofNat (cn (fun i => decide (b i = -3)) 256)) := by
  intro n
  induction n with
  | zero =>
    intro k f hk hf
    obtain ⟨f, rfl⟩ := zfuel hf
    obtain rfl : k = 256 := by omega
    rw [fX4_lost_4, if_pos z256p]
  | succ n ih =>
    intro k f hk hf
    obtain ⟨f, rfl⟩ := zfuel hf
    have hk2 : k < 256 := by omega
    obtain ⟨g1, g2, g3⟩ := hb k hk2
    have h1 := ih (k + 1) f (by omega) (by omega)
    rw [cn] at h1
    have no : ¬ b k = -3 → fX4_lost_4 r f (Int32.ofNat (cn (fun i => decide (b i = -3)) k) + 0) (Int32.ofNat (k + 1)) = some (Int32.ofNat (cn (fun i => decide (b i = -3)) 256)) := fun c => by
      rw [if_neg (by rw [decide_eq_false c]; exact Bool.false_ne_true)] at h1
      rw [Int32.add_zero]; exact h1
    rw [fX4_lost_4, if_neg (z256 hk2), z256k, if_neg (zi785 (by omega)), zk785 (by omega), g2, zN_1 k]
    by_cases c1 : b k = -1
    · rw [if_pos c1, if_neg (show ¬ (0 : Int32) = 1 by decide)]
      exact no (by rw [c1]; decide)
    · rw [if_neg c1, if_pos rfl, z0k, Nat.zero_add, if_neg (zi785 (by omega)), zk785 (by omega), g1]
      by_cases c2 : b k = -2
      · rw [if_pos c2, if_neg n10]
        exact no (by rw [c2]; decide)
      · rw [if_neg c2, if_pos rfl, mq hb.q (by omega), ob_some]
        cases c3 : zq b k
        · rw [if_pos bi_f]
          have hn := zq_neg hk2 c3
          have h3 : b k = -3 := by
            have a1 := int_le.mp (hI.1 k hk2).1
            have a2 := int_lt.mp hn
            rw [← Int32.toInt_inj] at c1 c2 ⊢
            rw [show (-1 : Int32).toInt = -1 by decide] at c1
            rw [show (-2 : Int32).toInt = -2 by decide] at c2
            rw [show (-3 : Int32).toInt = -3 by decide] at a1 ⊢
            rw [i0] at a2
            omega
          rw [if_pos (decide_eq_true h3)] at h1
          rw [zN_1]; exact h1
        · rw [if_neg (show ¬ bi true = 0 by decide)]
          exact no (fun q => zq_nn c3 (by rw [q]; decide))
section WT
variable {b pF pL st : Nat → Int32} {tm qt cm ds dr : Int32} {nw : Nat → Int32} {B : Nat}
theorem st_about (h : ZD b pF pL st tm qt cm ds dr nw B) (a1 : Int32) : ∃ (w w' : Nat) (a a' : Int32), fX3_about b pF pL tm qt cm ds dr a1 = some (Int32.ofNat w, a) ∧ fX4_about nw a1 = some (a', Int32.ofNat w') ∧ (w = 0 ∧ w' = 0 ∧ a = a' ∨ w = 2 ∧ w' = 1) := by
  obtain ⟨T, t1, t0, t2, t3, t4, t5⟩ := h
  obtain ⟨hb, hp, hs, h4, h5, h6, h7, h8⟩ := t2
  unfold fX4_about
  rw [mi_in32, ob_some, show (0 : Int64).toInt = 0 from rfl, show (10 : Int64).toInt = 10 from rfl]
  by_cases c : 0 ≤ a1.toInt ∧ a1.toInt ≤ 10
  · rw [decide_eq_true c, if_neg (show ¬ bi true = 0 by decide), ref0, ob2_some, if_pos rfl]
    obtain ⟨e1, e2⟩ := zN_ofInt c.1
    have hk : a1.toInt.toNat ≤ 10 := by omega
    generalize a1.toInt.toNat = k at e1 hk
    subst e1
    have s0 : fX4_sum nw 0 = some (Int32.ofNat (cn (fun i => decide (b i = -2)) 256)) := msum_4 (base := 0) (by omega) _ (fun i hi => by
      rw [Nat.zero_add, (hb i hi).1]
      by_cases c : b i = -2
      · rw [if_pos c, if_pos (decide_eq_true c)]
      · rw [if_neg c, if_neg (by rw [decide_eq_false c]; exact Bool.false_ne_true)]) 256 0 1000 rfl (by omega)
    have s1 : fX4_sum nw 256 = some (Int32.ofNat (cn (fun i => !decide (b i = -1)) 256)) := msum_4 (base := 256) (by omega) _ (fun i hi => by
      rw [(hb i hi).2.1]
      by_cases c : b i = -1
      · rw [if_pos c, decide_eq_true c]; rfl
      · rw [if_neg c, decide_eq_false c]; rfl) 256 0 1000 rfl (by omega)
    have s10 : fX4_lost nw = some (Int32.ofNat (cn (fun i => decide (b i = -3)) 256)) := mlost_4 hb t3 256 0 1000 rfl (by omega)
    rcases (show k = 0 ∨ k = 1 ∨ k = 2 ∨ k = 3 ∨ k = 4 ∨ k = 5 ∨ k = 6 ∨ k = 7 ∨ k = 8 ∨ k = 9 ∨ k = 10 by omega) with rfl | rfl | rfl | rfl | rfl | rfl | rfl | rfl | rfl | rfl | rfl
    · refine ⟨0, 0, Int32.ofNat (cn (fun i => decide (b i = -2)) 256), Int32.ofNat (cn (fun i => decide (b i = -2)) 256), ?_, ?_, Or.inl ⟨rfl, rfl, rfl⟩⟩
      · show ob (fX0_count b (-2)) (fun r2 => some (0, r2)) = _
        rw [fx_count]; rfl
      · rw [if_pos (show Int32.ofNat 0 = 0 from rfl), s0, ob_some]; exact rfl
    · refine ⟨0, 0, Int32.ofNat (cn (fun i => !decide (b i = -1)) 256), Int32.ofNat (cn (fun i => !decide (b i = -1)) 256), ?_, ?_, Or.inl ⟨rfl, rfl, rfl⟩⟩
      · show ob (fX0_count b (-1)) (fun r2 => some (0, 256 - r2)) = some (Int32.ofNat 0, Int32.ofNat (cn (fun i => !decide (b i = -1)) 256))
        rw [fx_count, ob_some]
        have e := cn_not (fun i => decide (b i = -1)) 256
        rw [show (256 : Int32) - Int32.ofNat (cn (fun i => decide (b i = -1)) 256) = Int32.ofNat (256 - cn (fun i => decide (b i = -1)) 256) from zN_sub (a := 256) (by omega)]
        rw [show 256 - cn (fun i => decide (b i = -1)) 256 = cn (fun i => !decide (b i = -1)) 256 by omega]
        rfl
      · rw [if_neg (show ¬ Int32.ofNat 1 = 0 by decide), if_pos (show Int32.ofNat 1 = 1 from rfl), s1, ob_some]; exact rfl
    · refine ⟨0, 0, Int32.ofNat (cn (bg (zq b)) 256), Int32.ofNat (cn (bg (zq b)) 256), ?_, ?_, Or.inl ⟨rfl, rfl, rfl⟩⟩
      · show ob (fX0_countRanges b) (fun r2 => some (0, r2)) = _
        rw [fx_countRanges]; rfl
      · show ob (fX4_ranges nw) (fun r24 => some (r24, 0)) = _
        rw [mranges hb.q]; rfl
    · refine ⟨0, 0, Int32.ofNat (cn (zq b) 256), Int32.ofNat (cn (zq b) 256), ?_, ?_, Or.inl ⟨rfl, rfl, rfl⟩⟩
      · show ob (fX0_countQueued b) (fun r2 => some (0, r2)) = _
        rw [fx_countQueued]; rfl
      · show ob (fX4_queuedBlocks nw) (fun r24 => some (r24, 0)) = _
        rw [mqueued hb.q]; rfl
    · exact ⟨0, 0, _, _, rfl, rfl, Or.inl ⟨rfl, rfl, h4.symm⟩⟩
    · exact ⟨0, 0, _, _, rfl, rfl, Or.inl ⟨rfl, rfl, h5.symm⟩⟩
    · exact ⟨0, 0, _, _, rfl, rfl, Or.inl ⟨rfl, rfl, h6.symm⟩⟩
    · exact ⟨0, 0, _, _, rfl, rfl, Or.inl ⟨rfl, rfl, h7.symm⟩⟩
    · exact ⟨0, 0, _, _, rfl, rfl, Or.inl ⟨rfl, rfl, h8.symm⟩⟩
    · refine ⟨0, 0, Int32.ofNat (cn (pn pF pL) 256), Int32.ofNat (cn (pn pF pL) 256), ?_, ?_, Or.inl ⟨rfl, rfl, rfl⟩⟩
      · show ob (fX0_countPinned pF pL) (fun r2 => some (0, r2)) = _
        rw [fx_countPinned t4]; rfl
      · show ob (fX4_allPinned nw) (fun r24 => some (r24, 0)) = _
        rw [mallPinned t4 hp]; rfl
    · refine ⟨0, 0, Int32.ofNat (cn (fun i => decide (b i = -3)) 256), Int32.ofNat (cn (fun i => decide (b i = -3)) 256), ?_, ?_, Or.inl ⟨rfl, rfl, rfl⟩⟩
      · show ob (fX0_count b (-3)) (fun r2 => some (0, r2)) = _
        rw [fx_count]; rfl
      · show ob (fX4_lost nw) (fun r24 => some (r24, 0)) = _
        rw [s10]; rfl
  · rw [decide_eq_false c, if_pos bi_f, ref1, ob2_some, if_neg n10]
    have ne : ∀ k : Nat, k ≤ 10 → ¬ a1 = Int32.ofNat k := fun k hk q => by
      rw [q, zN_toInt (by omega)] at c
      omega
    unfold fX3_about
    rw [if_neg (show ¬ a1 = 0 from ne 0 (by omega)), if_neg (show ¬ a1 = 1 from ne 1 (by omega)), if_neg (show ¬ a1 = 2 from ne 2 (by omega)), if_neg (show ¬ a1 = 3 from ne 3 (by omega)), if_neg (show ¬ a1 = 4 from ne 4 (by omega)), if_neg (show ¬ a1 = 5 from ne 5 (by omega)), if_neg (show ¬ a1 = 6 from ne 6 (by omega)), if_neg (show ¬ a1 = 7 from ne 7 (by omega)), if_neg (show ¬ a1 = 8 from ne 8 (by omega)), if_neg (show ¬ a1 = 9 from ne 9 (by omega)), if_neg (show ¬ a1 = 10 from ne 10 (by omega))]
    exact ⟨2, 1, _, _, rfl, rfl, Or.inr ⟨rfl, rfl⟩⟩
theorem mblock_88 {q : Nat → Bool} {r : Nat → Int32} (hq : RQ q r) {j : Nat} (hj : j < 256) (rf : Int32) : ∀ n k f, k + n = j + 1 → n < f → fX4_block_88 r f (Int32.ofNat j) (Int32.ofNat (cn (bg q) k) - 1) (Int32.ofNat k) rf = some (if q j = true then Int32.ofNat (cn (bg q) (j + 1)) - 1 else -1, rf) := by
  intro n
  induction n with
  | zero =>
    intro k f hk hf
    obtain ⟨f, rfl⟩ := zfuel hf
    obtain rfl : k = j + 1 := by omega
    rw [fX4_block_88, if_pos ((zN_lt (by omega) (by omega)).mpr (Nat.lt_succ_self _)), mq hq (by omega), ob_some]
    cases c : q j
    · rw [if_pos bi_f, if_neg Bool.false_ne_true]
    · rw [if_neg (show ¬ bi true = 0 by decide), if_pos rfl]
  | succ n ih =>
    intro k f hk hf
    obtain ⟨f, rfl⟩ := zfuel hf
    rw [fX4_block_88, if_neg (fun q => by have := (zN_lt (by omega) (by omega)).mp q; omega), mbegins hq (by omega), ob_some, zN_1]
    have h1 := ih (k + 1) f (by omega) (by omega)
    rw [cn] at h1
    cases c : bg q k
    · rw [c] at h1
      rw [if_pos bi_f, Int32.add_zero]
      exact h1
    · rw [c] at h1
      rw [if_neg (show ¬ bi true = 0 by decide)]
      rw [if_pos rfl, ← zN_1] at h1
      rw [show Int32.ofNat (cn (bg q) k) - 1 + 1 = Int32.ofNat (cn (bg q) k) + 1 - 1 by rw [Int32.sub_add_cancel, Int32.add_sub_cancel]]
      exact h1
theorem st_block (h : ZD b pF pL st tm qt cm ds dr nw B) (a1 a2 : Int32) : ∃ (w : Nat) (a a' : Int32), fX3_block b pF pL a1 a2 = some (Int32.ofNat w, a) ∧ fX4_block nw a1 a2 = some (a', Int32.ofNat w) ∧ w ≤ 2 ∧ (w = 0 → a = a') := by
  obtain ⟨T, t1, t0, t2, t3, t4, t5⟩ := h
  have hb := t2.1
  have hp := t2.2.1
  unfold fX3_block fX4_block fX3_checkBlock
  rw [mi_block, cx_isBlock, ob_some, ob_some]
  by_cases c : 0 ≤ a1.toInt ∧ a1.toInt ≤ 255
  · obtain ⟨e1, e2⟩ := zN_ofInt c.1
    rw [decide_eq_true c, if_neg (show ¬ bi true = 0 by decide), ob_some, if_pos rfl, if_neg (show ¬ bi true = 0 by decide)]
    have hj : a1.toInt.toNat < 256 := by omega
    generalize a1.toInt.toNat = j at e1 hj e2
    subst e1
    rw [mi_in32, ob_some, show (0 : Int64).toInt = 0 from rfl, show (3 : Int64).toInt = 3 from rfl]
    obtain ⟨g1, g2, g3⟩ := hb j hj
    by_cases c2 : 0 ≤ a2.toInt ∧ a2.toInt ≤ 3
    · obtain ⟨e3, e4⟩ := zN_ofInt c2.1
      rw [decide_eq_true c2, if_neg (show ¬ bi true = 0 by decide), ref0, ob2_some, if_pos rfl]
      have hk : a2.toInt.toNat ≤ 3 := by omega
      generalize a2.toInt.toNat = k at e3 hk
      subst e3
      rcases (show k = 0 ∨ k = 1 ∨ k = 2 ∨ k = 3 by omega) with rfl | rfl | rfl | rfl
      · rw [if_pos (show Int32.ofNat 0 = 0 from rfl), if_neg (show ¬ (2 : Int32) ≤ Int32.ofNat 0 by decide), if_pos (show Int32.ofNat 0 = 0 from rfl), z0k, Nat.zero_add, if_neg (zi785 (by omega)), zk785 (by omega), g1]
        unfold fX0_isAlive
        rw [if_neg (zi256 hj), zk256 hj]
        by_cases d : b j = -2
        · rw [if_pos d, if_pos d, ob_some, if_neg n10]
          exact ⟨0, _, _, rfl, rfl, by omega, fun _ => rfl⟩
        · rw [if_neg d, if_neg d, ob_some, if_pos rfl]
          exact ⟨0, _, _, rfl, rfl, by omega, fun _ => rfl⟩
      · rw [if_neg (show ¬ Int32.ofNat 1 = 0 by decide), if_pos (show Int32.ofNat 1 = 1 from rfl), if_neg (show ¬ (2 : Int32) ≤ Int32.ofNat 1 by decide), if_neg (show ¬ Int32.ofNat 1 = 0 by decide), z256k, if_neg (zi785 (by omega)), zk785 (by omega), g2]
        unfold fX0_isHeld
        rw [if_neg (zi256 hj), zk256 hj]
        by_cases d : b j = -1
        · rw [if_pos d, if_pos d, ob_some, if_pos rfl]
          exact ⟨0, _, _, rfl, rfl, by omega, fun _ => rfl⟩
        · rw [if_neg d, if_neg d, ob_some, if_neg n10]
          exact ⟨0, _, _, rfl, rfl, by omega, fun _ => rfl⟩
      · rw [if_neg (show ¬ Int32.ofNat 2 = 0 by decide), if_neg (show ¬ Int32.ofNat 2 = 1 by decide), if_pos (show Int32.ofNat 2 = 2 from rfl), if_pos (show (2 : Int32) ≤ Int32.ofNat 2 by decide), if_neg (show ¬ Int32.ofNat 2 = 3 by decide)]
        have e := mblock_88 hb.q hj 0 (j + 1) 0 1000 (by omega) (by omega)
        replace e : fX4_block_88 nw 1000 (Int32.ofNat j) (-1) 0 0 = _ := e
        rw [e]
        unfold fX0_rangeOf
        rw [if_neg (zi256 hj), zk256 hj, zN_1, fx_countRangesAhead b (by omega)]
        by_cases d : b j < 0
        · rw [if_pos d, ob_some, if_neg (by rw [zq_f d]; exact Bool.false_ne_true)]
          exact ⟨0, _, _, rfl, rfl, by omega, fun _ => rfl⟩
        · rw [if_neg d, ob_some, ob_some, if_pos (zq_t hj d)]
          exact ⟨0, _, _, rfl, rfl, by omega, fun _ => rfl⟩
      · rw [if_neg (show ¬ Int32.ofNat 3 = 0 by decide), if_neg (show ¬ Int32.ofNat 3 = 1 by decide), if_neg (show ¬ Int32.ofNat 3 = 2 by decide), if_pos (show Int32.ofNat 3 = 3 from rfl), if_pos (show (2 : Int32) ≤ Int32.ofNat 3 by decide), if_pos (show Int32.ofNat 3 = 3 from rfl), zN_1, fx_anyPinned t4 (by omega) (by omega), mpinned t4 hp (by omega), pnR_one, ob_some, ob_some]
        cases pn pF pL j
        · rw [if_pos bi_f, if_pos bi_f]
          exact ⟨0, _, _, rfl, rfl, by omega, fun _ => rfl⟩
        · rw [if_neg (show ¬ bi true = 0 by decide), if_neg (show ¬ bi true = 0 by decide)]
          exact ⟨0, _, _, rfl, rfl, by omega, fun _ => rfl⟩
    · rw [decide_eq_false c2, if_pos bi_f, ref2, ob2_some, if_neg n10]
      have ne : ∀ k : Nat, k ≤ 3 → ¬ a2 = Int32.ofNat k := fun k hk q => by
        rw [q, zN_toInt (by omega)] at c2
        omega
      rw [if_neg (show ¬ a2 = 0 from ne 0 (by omega)), if_neg (show ¬ a2 = 1 from ne 1 (by omega)), if_neg (show ¬ a2 = 2 from ne 2 (by omega)), if_neg (show ¬ a2 = 3 from ne 3 (by omega))]
      exact ⟨2, _, _, rfl, rfl, by omega, fun q => by omega⟩
  · rw [decide_eq_false c, if_pos bi_f, ob_some, if_neg n10, if_pos bi_f, ref1, ob2_some, if_neg n10]
    exact ⟨1, _, _, rfl, rfl, by omega, fun q => by omega⟩
theorem st_setting (h : ZD b pF pL st tm qt cm ds dr nw B) (a1 : Int32) : ∃ (w w' : Nat) (a a' : Int32), fX3_setting st a1 = some (Int32.ofNat w, a) ∧ fX4_setting nw a1 = some (a', Int32.ofNat w') ∧ (w = 0 ∧ w' = 0 ∧ a = a' ∨ w = 2 ∧ w' = 1) := by
  obtain ⟨T, t1, t0, t2, t3, t4, t5⟩ := h
  unfold fX3_setting fX4_setting
  rw [mi_in32, cx_isSetting, ob_some, ob_some, show (0 : Int64).toInt = 0 from rfl, show (5 : Int64).toInt = 5 from rfl]
  by_cases c : 0 ≤ a1.toInt ∧ a1.toInt ≤ 5
  · obtain ⟨e1, e2⟩ := zN_ofInt c.1
    have hk : a1.toInt.toNat < 6 := by omega
    rw [decide_eq_true c, if_neg (show ¬ bi true = 0 by decide), if_neg (show ¬ bi true = 0 by decide), ref0, ob2_some, if_pos rfl, e1, z773k, if_neg (zi785 (by omega)), zk785 (by omega), t2.g _ hk]
    unfold fX0_settingAt
    rw [if_neg (show ¬ (Int32.ofNat a1.toInt.toNat < 0 ∨ 6 ≤ (Int32.ofNat a1.toInt.toNat).toNatClampNeg) from zN_in hk (by omega)), zN_cl (by omega), ob_some]
    exact ⟨0, 0, _, _, rfl, rfl, Or.inl ⟨rfl, rfl, rfl⟩⟩
  · rw [decide_eq_false c, if_pos bi_f, if_pos bi_f, ref1, ob2_some, if_neg n10]
    exact ⟨2, 1, _, _, rfl, rfl, Or.inr ⟨rfl, rfl⟩⟩
theorem st_pinned (h : ZD b pF pL st tm qt cm ds dr nw B) (a1 a2 : Int32) : ∃ (w : Nat) (a a' : Int32), fX3_pinned pF pL a1 a2 = some (Int32.ofNat w, a) ∧ fX4_pinned nw a1 a2 = some (a', Int32.ofNat w) ∧ w ≤ 2 ∧ (w = 0 → a = a') := by
  unfold fX3_pinned fX4_pinned
  rw [cx_checkPin, mi_in32, ob_some, ob_some, show (0 : Int64).toInt = 0 from rfl, show (2 : Int64).toInt = 2 from rfl]
  by_cases c0 : 0 ≤ a1.toInt ∧ a1.toInt ≤ 2
  · rw [if_pos c0, decide_eq_true c0, if_pos rfl, if_neg (show ¬ bi true = 0 by decide)]
    obtain ⟨e5, e6⟩ := zN_ofInt c0.1
    have hk : a1.toInt.toNat < 3 := by omega
    generalize a1.toInt.toNat = k at e5 hk e6
    subst e5
    obtain ⟨t, g1, g2⟩ := op_hasPin h hk
    obtain ⟨T, t1, t0, t2, t3, t4, t5⟩ := h
    obtain ⟨y1, y2⟩ := t2.2.1 k hk
    rw [mi_in32, ob_some, show (0 : Int64).toInt = 0 from rfl, show (1 : Int64).toInt = 1 from rfl]
    have pf : fX0_firstPinned pF (Int32.ofNat k) = some (pF k) := by
      unfold fX0_firstPinned
      rw [if_neg (zi3 hk), zk3 hk]
    have pl : fX0_lengthPinned pL (Int32.ofNat k) = some (pL k) := by
      unfold fX0_lengthPinned
      rw [if_neg (zi3 hk), zk3 hk]
    by_cases d0 : a2 = 0
    · rw [if_pos d0, decide_eq_true (show 0 ≤ a2.toInt ∧ a2.toInt ≤ 1 by rw [d0, i0]; omega), if_neg (show ¬ bi true = 0 by decide), ref0, ob2_some, if_pos rfl, z782k, z779k, if_neg (zi785 (by omega)), zk785 (by omega), zk785 (by omega), g1, ob_some]
      cases t
      · rw [if_pos bi_f, if_pos (g2.mpr rfl)]
        exact ⟨0, _, _, rfl, rfl, by omega, fun _ => rfl⟩
      · rw [if_neg (show ¬ bi true = 0 by decide), if_pos d0, if_neg (show ¬ nw (782 + k) = 0 from fun q => by have := g2.mp q; cases this), if_pos d0, if_neg (zj785 (by omega)), pf, ob_some, y1]
        exact ⟨0, _, _, rfl, rfl, by omega, fun _ => rfl⟩
    · rw [if_neg d0]
      by_cases d1 : a2 = 1
      · rw [if_pos d1, decide_eq_true (show 0 ≤ a2.toInt ∧ a2.toInt ≤ 1 by rw [d1, i1]; omega), if_neg (show ¬ bi true = 0 by decide), ref0, ob2_some, if_pos rfl, z782k, z779k, if_neg (zi785 (by omega)), zk785 (by omega), zk785 (by omega), g1, ob_some]
        cases t
        · rw [if_pos bi_f, if_pos (g2.mpr rfl)]
          exact ⟨0, _, _, rfl, rfl, by omega, fun _ => rfl⟩
        · rw [if_neg (show ¬ bi true = 0 by decide), if_neg d0, if_neg (show ¬ nw (782 + k) = 0 from fun q => by have := g2.mp q; cases this), if_neg d0, if_neg (zj785 (by omega)), pl, ob_some, y2]
          exact ⟨0, _, _, rfl, rfl, by omega, fun _ => rfl⟩
      · have hn : ¬ (0 ≤ a2.toInt ∧ a2.toInt ≤ 1) := fun q => by
          rw [← Int32.toInt_inj] at d0 d1
          rw [i0] at d0
          rw [i1] at d1
          omega
        rw [if_neg d1, decide_eq_false hn, if_pos bi_f, ref2, ob2_some, if_neg n10]
        exact ⟨2, _, _, rfl, rfl, by omega, fun q => by omega⟩
  · rw [if_neg c0, decide_eq_false c0, if_neg n10, if_pos bi_f, ref1, ob2_some, if_neg n10]
    exact ⟨1, _, _, rfl, rfl, by omega, fun q => by omega⟩
end WT
