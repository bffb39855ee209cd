/-! small numbers as ints -/
theorem zN_toInt {a : Nat} (ha : a < 2147483648) : (Int32.ofNat a).toInt = (a : Int) := Int32.toInt_ofNat_of_lt ha
theorem zN_cl {a : Nat} (ha : a < 2147483648) : (Int32.ofNat a).toNatClampNeg = a := by
  show (Int32.ofNat a).toInt.toNat = a
  rw [zN_toInt ha]; rfl
theorem zN_lt {a c : Nat} (ha : a < 2147483648) (hc : c < 2147483648) : Int32.ofNat a < Int32.ofNat c ↔ a < c := by
  rw [Int32.lt_iff_toInt_lt, zN_toInt ha, zN_toInt hc]; omega
theorem zN_le {a c : Nat} (ha : a < 2147483648) (hc : c < 2147483648) : Int32.ofNat a ≤ Int32.ofNat c ↔ a ≤ c := by
  rw [Int32.le_iff_toInt_le, zN_toInt ha, zN_toInt hc]; omega
theorem zN_inj {a c : Nat} (ha : a < 2147483648) (hc : c < 2147483648) : Int32.ofNat a = Int32.ofNat c ↔ a = c := by
  rw [← Int32.toInt_inj, zN_toInt ha, zN_toInt hc]; omega
theorem zN_neg {a : Nat} (ha : a < 2147483648) : ¬ Int32.ofNat a < 0 := by
  rw [Int32.lt_iff_toInt_lt, zN_toInt ha]; simp
theorem zN_nn {a : Nat} (ha : a < 2147483648) : 0 ≤ Int32.ofNat a := by
  rw [Int32.le_iff_toInt_le, zN_toInt ha]; simp
theorem zN_in {a n : Nat} (ha : a < n) (hn : n ≤ 2147483648) : ¬ (Int32.ofNat a < 0 ∨ n ≤ (Int32.ofNat a).toNatClampNeg) := by
  rw [zN_cl (by omega)]
  rintro (h | h)
  · exact zN_neg (by omega) h
  · omega
theorem zN_add (a c : Nat) : Int32.ofNat a + Int32.ofNat c = Int32.ofNat (a + c) := (Int32.ofNat_add a c).symm
theorem zN_1 (a : Nat) : Int32.ofNat a + 1 = Int32.ofNat (a + 1) := (Int32.ofNat_add a 1).symm
theorem zN_sub {a c : Nat} (h : c ≤ a) : Int32.ofNat a - Int32.ofNat c = Int32.ofNat (a - c) := (Int32.ofNat_sub _ _ h).symm
theorem zN_mul (a c : Nat) : Int32.ofNat a * Int32.ofNat c = Int32.ofNat (a * c) := (Int32.ofNat_mul a c).symm
theorem zNot_lt {x y : Int32} : ¬ x < y ↔ y ≤ x := by rw [Int32.lt_iff_toInt_lt, Int32.le_iff_toInt_le]; omega
theorem zNot_le {x y : Int32} : ¬ x ≤ y ↔ y < x := by rw [Int32.lt_iff_toInt_lt, Int32.le_iff_toInt_le]; omega
/-- an int that isn't negative is a number's -/
theorem zN_of {x : Int32} (h : 0 ≤ x) : ∃ a : Nat, a < 2147483648 ∧ x = Int32.ofNat a := by
  rw [Int32.le_iff_toInt_le] at h
  have h2 := Int32.toInt_lt x
  have h0 : (0 : Int32).toInt = 0 := by decide
  refine ⟨x.toInt.toNat, by omega, ?_⟩
  rw [← Int32.toInt_inj, zN_toInt (by omega)]
  omega
theorem zupd_self (f : Nat → Int32) (k : Nat) (x : Int32) : upd f k x k = x := if_pos rfl
theorem zupd_ne (f : Nat → Int32) {k j : Nat} (x : Int32) (h : j ≠ k) : upd f k x j = f j := if_neg h
/-! rows of blocks, by number: counts, begins, ends, what is erased -/
def cn (p : Nat → Bool) : Nat → Nat
  | 0 => 0
  | n + 1 => cn p n + (if p n then 1 else 0)
theorem cn_le (p : Nat → Bool) : ∀ n, cn p n ≤ n
  | 0 => Nat.le_refl _
  | n + 1 => by have := cn_le p n; rw [cn]; split <;> omega
theorem cn_congr {p p2 : Nat → Bool} : ∀ n, (∀ i, i < n → p i = p2 i) → cn p n = cn p2 n
  | 0, _ => rfl
  | n + 1, h => by rw [cn, cn, cn_congr n (fun i hi => h i (by omega)), h n (by omega)]
theorem cn_mono (p : Nat → Bool) {m : Nat} : ∀ n, m ≤ n → cn p m ≤ cn p n
  | 0, h => by rw [show m = 0 by omega]; exact Nat.le_refl _
  | n + 1, h => by
    by_cases e : m = n + 1
    · rw [e]; exact Nat.le_refl _
    · have := cn_mono p n (m := m) (by omega); rw [cn]; omega
/-- one fewer -/
theorem cn_drop {p p2 : Nat → Bool} {s : Nat} (h1 : p s = true) (h2 : p2 s = false) : ∀ n, (∀ i, i < n → i ≠ s → p2 i = p i) → s < n → cn p2 n + 1 = cn p n
  | 0, _, h => absurd h (Nat.not_lt_zero _)
  | n + 1, h, hs => by
    by_cases e : s = n
    · subst e
      rw [cn, cn, h1, h2, cn_congr s (fun i hi => h i (by omega) (by omega))]
      simp
    · have := cn_drop h1 h2 n (fun i hi he => h i (by omega) he) (by omega)
      rw [cn, cn, h n (by omega) (by omega)]
      omega
theorem cn_lt {p p2 : Nat → Bool} : ∀ n, (∀ i, i < n → p2 i = true → p i = true) → cn p2 n ≤ cn p n
  | 0, _ => Nat.le_refl _
  | n + 1, h => by
    have := cn_lt n (fun i hi he => h i (by omega) he)
    rw [cn, cn]
    have h2 := h n (by omega)
    split
    · rename_i q; rw [if_pos (h2 q)]; omega
    · split <;> omega
theorem cn_zero {p : Nat → Bool} : ∀ n, cn p n = 0 → ∀ i, i < n → p i = false
  | 0, _, i, h => absurd h (Nat.not_lt_zero _)
  | n + 1, h, i, hi => by
    rw [cn] at h
    by_cases e : i = n
    · subst e
      cases hp : p i
      · rfl
      · rw [hp] at h; simp at h
    · exact cn_zero n (by omega) i (by omega)
/-- strictly fewer -/
theorem cn_slt {p p2 : Nat → Bool} {s : Nat} (h1 : p s = true) (h2 : p2 s = false) : ∀ n, (∀ i, i < n → p2 i = true → p i = true) → s < n → cn p2 n + 1 ≤ cn p n
  | 0, _, h => absurd h (Nat.not_lt_zero _)
  | n + 1, h, hs => by
    by_cases e : s = n
    · subst e
      have := cn_lt s (fun i hi he => h i (by omega) he) (p := p) (p2 := p2)
      rw [cn, cn, h1, h2]
      simp; omega
    · have := cn_slt h1 h2 n (fun i hi he => h i (by omega) he) (by omega)
      rw [cn, cn]
      have h3 := h n (by omega)
      split
      · rename_i q; rw [if_pos (h3 q)]; omega
      · split <;> omega
def bg (q : Nat → Bool) (i : Nat) : Bool := q i && !(decide (0 < i) && q (i - 1))
theorem bg_iff {q : Nat → Bool} {i : Nat} : bg q i = true ↔ q i = true ∧ (0 < i → q (i - 1) = false) := by
  unfold bg
  cases q i <;> cases q (i - 1) <;> by_cases h : 0 < i <;> simp [h]
/-- the rows: nothing behind the last block -/
abbrev zB (q : Nat → Bool) : Prop := ∀ i, 256 ≤ i → q i = false
def en (q : Nat → Bool) : Nat → Nat → Nat
  | 0, j => j
  | n + 1, j => if q j then en q n (j + 1) else j
def eo (q : Nat → Bool) (j : Nat) : Nat := en q (256 - j) j
theorem eo_not {q : Nat → Bool} {j : Nat} (h : q j = false) : eo q j = j := by
  unfold eo
  cases 256 - j with
  | zero => rfl
  | succ n => rw [en, h]; rfl
theorem eo_step {q : Nat → Bool} (hq : zB q) {j : Nat} (h : q j = true) : eo q j = eo q (j + 1) := by
  have hj : j < 256 := by
    by_cases e : j < 256
    · exact e
    · rw [hq j (by omega)] at h; cases h
  unfold eo
  rw [show 256 - j = (256 - (j + 1)) + 1 by omega, en, h]
  rfl
theorem eo_all {q : Nat → Bool} (hq : zB q) : ∀ n j, 256 - j = n → (j ≤ eo q j ∧ (j ≤ 256 → eo q j ≤ 256) ∧ (∀ i, j ≤ i → i < eo q j → q i = true) ∧ q (eo q j) = false) := by
  intro n
  induction n with
  | zero =>
    intro j hj
    have h := hq j (by omega)
    rw [eo_not h]
    exact ⟨Nat.le_refl _, fun h => h, fun i h1 h2 => by omega, h⟩
  | succ n ih =>
    intro j hj
    cases h : q j
    · rw [eo_not h]
      exact ⟨Nat.le_refl _, fun h => h, fun i h1 h2 => by omega, h⟩
    · obtain ⟨a1, a2, a3, a4⟩ := ih (j + 1) (by omega)
      rw [eo_step hq h]
      exact ⟨by omega, fun _ => a2 (by omega), fun i h1 h2 => by
        by_cases e : i = j
        · rw [e]; exact h
        · exact a3 i (by omega) h2, a4⟩
theorem eo_ge {q : Nat → Bool} (hq : zB q) (j : Nat) : j ≤ eo q j := (eo_all hq _ j rfl).1
theorem eo_le {q : Nat → Bool} (hq : zB q) {j : Nat} (h : j ≤ 256) : eo q j ≤ 256 := (eo_all hq _ j rfl).2.1 h
theorem eo_in {q : Nat → Bool} (hq : zB q) {j i : Nat} (h1 : j ≤ i) (h2 : i < eo q j) : q i = true := (eo_all hq _ j rfl).2.2.1 i h1 h2
theorem eo_end {q : Nat → Bool} (hq : zB q) (j : Nat) : q (eo q j) = false := (eo_all hq _ j rfl).2.2.2
theorem eo_gt {q : Nat → Bool} (hq : zB q) {j : Nat} (h : q j = true) : j < eo q j := by
  rw [eo_step hq h]; exact eo_ge hq (j + 1)
theorem eo_eq {q : Nat → Bool} (hq : zB q) {j e : Nat} (h1 : j ≤ e) (h2 : ∀ i, j ≤ i → i < e → q i = true) (h3 : q e = false) : eo q j = e := by
  have a := eo_ge hq j
  rcases Nat.lt_trichotomy (eo q j) e with h | h | h
  · have := h2 _ a h
    rw [eo_end hq j] at this; cases this
  · exact h
  · have := eo_in hq h1 h
    rw [h3] at this; cases this
theorem eo_congr {q q2 : Nat → Bool} (h : ∀ i, q i = q2 i) (j : Nat) : eo q j = eo q2 j := by rw [show q = q2 from funext h]
/-- what is left when the blocks from s on, ahead of e, are taken out -/
def er (q : Nat → Bool) (s e : Nat) : Nat → Bool := fun i => q i && !(decide (s ≤ i) && decide (i < e))
theorem er_in {q : Nat → Bool} {s e i : Nat} (h1 : s ≤ i) (h2 : i < e) : er q s e i = false := by simp [er, h1, h2]
theorem er_out {q : Nat → Bool} {s e i : Nat} (h : ¬ (s ≤ i ∧ i < e)) : er q s e i = q i := by
  unfold er
  by_cases h1 : s ≤ i <;> by_cases h2 : i < e <;> simp [h1, h2] <;> omega
theorem er_B {q : Nat → Bool} (hq : zB q) (s e : Nat) : zB (er q s e) := fun i hi => by rw [er, hq i hi]; rfl
/-- a range that is taken out whole: one fewer -/
theorem er_ranges {q : Nat → Bool} (hq : zB q) {s : Nat} (h : bg q s = true) : cn (bg (er q s (eo q s))) 256 + 1 = cn (bg q) 256 := by
  obtain ⟨h1, h2⟩ := bg_iff.mp h
  have hs : s < 256 := by
    by_cases e : s < 256
    · exact e
    · rw [hq s (by omega)] at h1; cases h1
  have hgt := eo_gt hq h1
  refine cn_drop h ?_ 256 (fun i hi he => ?_) hs
  · cases hb : bg (er q s (eo q s)) s
    · rfl
    · have := (bg_iff.mp hb).1
      rw [er_in (Nat.le_refl _) hgt] at this; cases this
  · by_cases hin : s ≤ i ∧ i < eo q s
    · have e1 : bg q i = false := by
        cases hb : bg q i
        · rfl
        · have := (bg_iff.mp hb).2 (by omega)
          rw [eo_in hq (j := s) (i := i - 1) (by omega) (by omega)] at this; cases this
      rw [e1]
      cases hb : bg (er q s (eo q s)) i
      · rfl
      · have := (bg_iff.mp hb).1
        rw [er_in hin.1 hin.2] at this; cases this
    · unfold bg
      rw [er_out hin]
      by_cases hz : 0 < i
      · by_cases hin2 : s ≤ i - 1 ∧ i - 1 < eo q s
        · have : i = eo q s := by omega
          rw [this, eo_end hq s]; rfl
        · rw [er_out hin2]
      · rw [show decide (0 < i) = false from decide_eq_false hz]; rfl
/-- the range that is dropped: the shortest, the first of these -/
def sh (q : Nat → Bool) (s : Nat) : Prop := bg q s = true ∧ (∀ j, bg q j = true → eo q s - s ≤ eo q j - j) ∧ (∀ j, j < s → bg q j = true → eo q s - s < eo q j - j)
theorem sh_one {q : Nat → Bool} {s t : Nat} (h1 : sh q s) (h2 : sh q t) : s = t := by
  rcases Nat.lt_trichotomy s t with h | h | h
  · have a := h2.2.2 s h h1.1
    have b := h1.2.1 t h2.1
    omega
  · exact h
  · have a := h1.2.2 t h h2.1
    have b := h2.2.1 s h1.1
    omega
/-! the device: counts, ranges, what is dropped -/
theorem z256 {k : Nat} (h : k < 256) : ¬ (256 : Int32) ≤ Int32.ofNat k := fun q => by
  have := (zN_le (a := 256) (c := k) (by omega) (by omega)).mp q
  omega
theorem z256p : (256 : Int32) ≤ Int32.ofNat 256 := by decide
theorem zi256 {k : Nat} (h : k < 256) : ¬ (Int32.ofNat k < 0 ∨ 256 ≤ (Int32.ofNat k).toNatClampNeg) := zN_in h (by omega)
theorem zk256 {k : Nat} (h : k < 256) : (Int32.ofNat k).toNatClampNeg = k := zN_cl (by omega)
theorem zfuel {f n : Nat} (h : n < f) : ∃ g, f = g + 1 := ⟨f - 1, by omega⟩
/-- queued, in the words of the program -/
def zq (b : Nat → Int32) (i : Nat) : Bool := decide (i < 256) && decide (0 ≤ b i)
theorem zq_B (b : Nat → Int32) : zB (zq b) := fun i h => by rw [zq, decide_eq_false (by omega)]; rfl
theorem zq_lt {b : Nat → Int32} {k : Nat} (h : zq b k = true) : k < 256 := by
  by_cases e : k < 256
  · exact e
  · rw [zq_B b k (by omega)] at h; cases h
theorem zq_t {b : Nat → Int32} {k : Nat} (h : k < 256) (hb : ¬ b k < 0) : zq b k = true := by
  rw [zq, decide_eq_true h, decide_eq_true (zNot_lt.mp hb)]; rfl
theorem zq_f {b : Nat → Int32} {k : Nat} (hb : b k < 0) : zq b k = false := by
  have : ¬ 0 ≤ b k := fun q => zNot_lt.mpr q hb
  rw [zq, decide_eq_false this, Bool.and_false]
theorem zq_nn {b : Nat → Int32} {k : Nat} (h : zq b k = true) : ¬ b k < 0 := fun q => by rw [zq_f q] at h; cases h
theorem zq_neg {b : Nat → Int32} {k : Nat} (hk : k < 256) (h : zq b k = false) : b k < 0 := by
  by_cases q : b k < 0
  · exact q
  · rw [zq_t hk q] at h; cases h
theorem zq_congr {b b2 : Nat → Int32} (h : ∀ i, i < 256 → b2 i = b i) : zq b2 = zq b := by
  funext i
  by_cases e : i < 256
  · unfold zq; rw [h i e]
  · rw [zq_B b i (by omega), zq_B b2 i (by omega)]
theorem fx_count_4 (b : Nat → Int32) (w : Int32) : ∀ n k f, k + n = 256 → n < f → fX0_count_4 b f w (Int32.ofNat (cn (fun i => decide (b i = w)) k)) (Int32.ofNat k) = some (Int32.ofNat (cn (fun i => decide (b i = w)) 256)) := by
  intro n
  induction n with
  | zero =>
    intro k f hk hf
    obtain ⟨f, rfl⟩ := zfuel hf
    obtain rfl : k = 256 := by omega
    rw [fX0_count_4, if_pos z256p]
  | succ n ih =>
    intro k f hk hf
    obtain ⟨f, rfl⟩ := zfuel hf
    have hk2 : k < 256 := by omega
    rw [fX0_count_4, if_neg (z256 hk2), if_neg (zi256 hk2), zk256 hk2]
    have h1 := ih (k + 1) f (by omega) (by omega)
    rw [cn] at h1
    by_cases hb : b k = w
    · rw [if_pos hb, zN_1, zN_1]
      rw [if_pos (decide_eq_true hb)] at h1
      exact h1
    · rw [if_neg hb, zN_1]
      rw [if_neg (by rw [decide_eq_false hb]; exact Bool.false_ne_true)] at h1
      exact h1
theorem fx_count (b : Nat → Int32) (w : Int32) : fX0_count b w = some (Int32.ofNat (cn (fun i => decide (b i = w)) 256)) := fx_count_4 b w 256 0 1000 rfl (by omega)
theorem fx_countQueued_4 (b : Nat → Int32) : ∀ n k f, k + n = 256 → n < f → fX0_countQueued_4 b f (Int32.ofNat (cn (zq b) k)) (Int32.ofNat k) = some (Int32.ofNat (cn (zq b) 256)) := by
  intro n
  induction n with
  | zero =>
    intro k f hk hf
    obtain ⟨f, rfl⟩ := zfuel hf
    obtain rfl : k = 256 := by omega
    rw [fX0_countQueued_4, if_pos z256p]
  | succ n ih =>
    intro k f hk hf
    obtain ⟨f, rfl⟩ := zfuel hf
    have hk2 : k < 256 := by omega
    rw [fX0_countQueued_4, if_neg (z256 hk2), if_neg (zi256 hk2), zk256 hk2]
    have h1 := ih (k + 1) f (by omega) (by omega)
    rw [cn] at h1
    by_cases hb : b k < 0
    · rw [if_pos hb, zN_1]
      rw [zq_f hb] at h1
      exact h1
    · rw [if_neg hb, zN_1, zN_1]
      rw [zq_t hk2 hb] at h1
      exact h1
theorem fx_countQueued (b : Nat → Int32) : fX0_countQueued b = some (Int32.ofNat (cn (zq b) 256)) := fx_countQueued_4 b 256 0 1000 rfl (by omega)
/-- true and false as ints -/
def bi (t : Bool) : Int32 := if t then 1 else 0
theorem bi_t : bi true = 1 := rfl
theorem bi_f : bi false = 0 := rfl
theorem bi_0 {t : Bool} (h : bi t = 0) : t = false := by cases t; rfl; exact absurd h (by decide)
theorem bi_n0 {t : Bool} (h : ¬ bi t = 0) : t = true := by cases t; exact absurd rfl h; rfl
/-- whether the block ahead is queued -/
def pv (q : Nat → Bool) (k : Nat) : Bool := decide (0 < k) && q (k - 1)
theorem pv_succ (q : Nat → Bool) (k : Nat) : pv q (k + 1) = q k := by simp [pv]
theorem bg_pv (q : Nat → Bool) (k : Nat) : bg q k = (q k && !pv q k) := rfl
theorem fx_countRangesAhead_7 (b : Nat → Int32) (e : Nat) (he : e ≤ 256) : ∀ n k f, k + n = e → n < f → fX0_countRangesAhead_7 b f (Int32.ofNat e) (Int32.ofNat (cn (bg (zq b)) k)) (bi (pv (zq b) k)) (Int32.ofNat k) = some (Int32.ofNat (cn (bg (zq b)) e)) := by
  intro n
  induction n with
  | zero =>
    intro k f hk hf
    obtain ⟨f, rfl⟩ := zfuel hf
    obtain rfl : k = e := by omega
    rw [fX0_countRangesAhead_7, if_pos ((zN_le (by omega) (by omega)).mpr (Nat.le_refl _))]
  | succ n ih =>
    intro k f hk hf
    obtain ⟨f, rfl⟩ := zfuel hf
    have hk2 : k < 256 := by omega
    rw [fX0_countRangesAhead_7, if_neg (fun q => by have := (zN_le (by omega) (by omega)).mp q; omega), if_neg (zi256 hk2), zk256 hk2]
    have h1 := ih (k + 1) f (by omega) (by omega)
    rw [cn, pv_succ, bg_pv] at h1
    by_cases hb : b k < 0
    · rw [if_pos hb, zN_1]
      rw [zq_f hb] at h1
      exact h1
    · rw [if_neg hb]
      rw [zq_t hk2 hb] at h1
      cases hp : pv (zq b) k
      · rw [hp] at h1
        rw [if_pos bi_f, zN_1, zN_1]
        exact h1
      · rw [hp] at h1
        rw [if_neg (show ¬ bi true = 0 by decide), zN_1]
        exact h1
theorem fx_countRangesAhead (b : Nat → Int32) {e : Nat} (he : e ≤ 256) : fX0_countRangesAhead b (Int32.ofNat e) = some (Int32.ofNat (cn (bg (zq b)) e)) := fx_countRangesAhead_7 b e he e 0 1000 (by omega) (by omega)
theorem fx_countRanges (b : Nat → Int32) : fX0_countRanges b = some (Int32.ofNat (cn (bg (zq b)) 256)) := by
  unfold fX0_countRanges
  rw [show (256 : Int32) = Int32.ofNat 256 from rfl, fx_countRangesAhead b (Nat.le_refl _)]
  rfl
theorem bg_lt {b : Nat → Int32} {j : Nat} (h : bg (zq b) j = true) : j < 256 := zq_lt (bg_iff.mp h).1
/-- the shortest range: what the loop knows at a block -/
def zSI (q : Nat → Bool) (s L len k : Nat) : Prop :=
  len ≤ k ∧ (∀ i, k - len ≤ i → i < k → q i = true) ∧ (0 < k - len → q (k - len - 1) = false) ∧
  (∀ j, bg q j = true → eo q j < k → L ≤ eo q j - j) ∧ (∀ j, bg q j = true → eo q j < k → j < s → L < eo q j - j) ∧
  (L = 257 ∨ (bg q s = true ∧ eo q s < k ∧ L = eo q s - s)) ∧ L ≤ 257 ∧ s < 257
theorem zSI_more {q : Nat → Bool} (hq : zB q) {s L len k : Nat} (h : zSI q s L len k) (hk : q k = true) : zSI q s L (len + 1) (k + 1) := by
  obtain ⟨a1, a2, a3, a4, a5, a6, a7, a8⟩ := h
  have key : ∀ j, eo q j < k + 1 → eo q j < k := fun j hj => by
    by_cases e : eo q j = k
    · have := eo_end hq j
      rw [e, hk] at this; cases this
    · omega
  refine ⟨by omega, fun i h1 h2 => ?_, fun h1 => ?_, fun j h1 h2 => a4 j h1 (key j h2), fun j h1 h2 h3 => a5 j h1 (key j h2) h3, ?_, a7, a8⟩
  · by_cases e : i = k
    · rw [e]; exact hk
    · exact a2 i (by omega) (by omega)
  · rw [show k + 1 - (len + 1) = k - len by omega]
    exact a3 (by omega)
  · rcases a6 with h | ⟨h1, h2, h3⟩
    · exact Or.inl h
    · exact Or.inr ⟨h1, by omega, h3⟩
theorem zSI_end {q : Nat → Bool} (hq : zB q) {s L len k : Nat} (h : zSI q s L len k) (hk : q k = false) (j : Nat) (hj : bg q j = true) : eo q j = k ↔ (0 < len ∧ j = k - len) := by
  obtain ⟨a1, a2, a3, -⟩ := h
  obtain ⟨b1, b2⟩ := bg_iff.mp hj
  constructor
  · intro e
    have h1 := eo_gt hq b1
    have h2 : 0 < len := by
      by_cases e2 : len = 0
      · have := a3 (by omega)
        rw [show k - len - 1 = k - 1 by omega] at this
        rw [eo_in hq (j := j) (i := k - 1) (by omega) (by omega)] at this; cases this
      · omega
    refine ⟨h2, ?_⟩
    rcases Nat.lt_trichotomy j (k - len) with h3 | h3 | h3
    · have := a3 (by omega)
      rw [eo_in hq (j := j) (i := k - len - 1) (by omega) (by omega)] at this; cases this
    · exact h3
    · have := b2 (by omega)
      rw [a2 (j - 1) (by omega) (by omega)] at this; cases this
  · rintro ⟨h1, rfl⟩
    exact eo_eq hq (by omega) (fun i h2 h3 => a2 i h2 h3) hk
theorem zSI_keep {q : Nat → Bool} (hq : zB q) {s L len k : Nat} (h : zSI q s L len k) (hk : q k = false) (hk2 : k < 257) (hL : len = 0 ∨ L ≤ len) : zSI q s L 0 (k + 1) := by
  have hend := zSI_end hq h hk
  obtain ⟨a1, a2, a3, a4, a5, a6, a7, a8⟩ := h
  refine ⟨by omega, fun i h1 h2 => by omega, fun h1 => by rw [show k + 1 - 0 - 1 = k by omega]; exact hk, fun j h1 h2 => ?_, fun j h1 h2 h3 => ?_, ?_, a7, a8⟩
  · by_cases e : eo q j = k
    · obtain ⟨c1, c2⟩ := (hend j h1).mp e
      rw [e]; omega
    · exact a4 j h1 (by omega)
  · by_cases e : eo q j = k
    · obtain ⟨c1, c2⟩ := (hend j h1).mp e
      rcases a6 with h | ⟨g1, g2, g3⟩
      · omega
      · have g4 := eo_gt hq (bg_iff.mp g1).1
        have := (bg_iff.mp g1).2 (by omega)
        rw [a2 (s - 1) (by omega) (by omega)] at this; cases this
    · exact a5 j h1 (by omega) h3
  · rcases a6 with h | ⟨h1, h2, h3⟩
    · exact Or.inl h
    · exact Or.inr ⟨h1, by omega, h3⟩
theorem zSI_new {q : Nat → Bool} (hq : zB q) {s L len k : Nat} (h : zSI q s L len k) (hk : q k = false) (hk2 : k < 257) (h0 : 0 < len) (hL : len < L) : zSI q (k - len) len 0 (k + 1) := by
  have hend := zSI_end hq h hk
  obtain ⟨a1, a2, a3, a4, a5, a6, a7, a8⟩ := h
  have hb : bg q (k - len) = true := bg_iff.mpr ⟨a2 _ (by omega) (by omega), a3⟩
  have he := (hend _ hb).mpr ⟨h0, rfl⟩
  refine ⟨by omega, fun i h1 h2 => by omega, fun h1 => by rw [show k + 1 - 0 - 1 = k by omega]; exact hk, fun j h1 h2 => ?_, fun j h1 h2 h3 => ?_, Or.inr ⟨hb, by omega, by omega⟩, by omega, by omega⟩
  · by_cases e : eo q j = k
    · obtain ⟨c1, c2⟩ := (hend j h1).mp e
      rw [e]; omega
    · have := a4 j h1 (by omega); omega
  · by_cases e : eo q j = k
    · obtain ⟨c1, c2⟩ := (hend j h1).mp e
      omega
    · have := a4 j h1 (by omega); omega
theorem fx_shortest_11 (b : Nat → Int32) : ∀ n k f s L len, k + n = 257 → n < f → zSI (zq b) s L len k → ∃ s2 L2, fX0_shortestRange_11 b f (Int32.ofNat s) (Int32.ofNat L) (Int32.ofNat len) (Int32.ofNat k) = some (Int32.ofNat s2) ∧ zSI (zq b) s2 L2 0 257 := by
  intro n
  induction n with
  | zero =>
    intro k f s L len hk hf h
    obtain ⟨f, rfl⟩ := zfuel hf
    obtain rfl : k = 257 := by omega
    rw [fX0_shortestRange_11, if_pos (show (256 : Int32) < Int32.ofNat 257 by decide)]
    have hlen : len = 0 := by
      by_cases e : len = 0
      · exact e
      · have := h.2.1 256 (by omega) (by omega)
        rw [zq_B b 256 (Nat.le_refl _)] at this; cases this
    subst hlen
    exact ⟨s, L, rfl, h⟩
  | succ n ih =>
    intro k f s L len hk hf h
    obtain ⟨f, rfl⟩ := zfuel hf
    have hk2 : k ≤ 256 := by omega
    have hlen : len ≤ 256 := Nat.le_trans h.1 hk2
    have hL := h.2.2.2.2.2.2.1
    rw [fX0_shortestRange_11, if_neg (show ¬ (256 : Int32) < Int32.ofNat k from fun q => by have := (zN_lt (a := 256) (c := k) (by omega) (by omega)).mp q; omega)]
    have fin : zq b k = false → ∃ s2 L2, (if Int32.ofNat len ≤ 0 then fX0_shortestRange_11 b f (Int32.ofNat s) (Int32.ofNat L) 0 (Int32.ofNat k + 1) else if Int32.ofNat L ≤ Int32.ofNat len then fX0_shortestRange_11 b f (Int32.ofNat s) (Int32.ofNat L) 0 (Int32.ofNat k + 1) else fX0_shortestRange_11 b f (Int32.ofNat k - Int32.ofNat len) (Int32.ofNat len) 0 (Int32.ofNat k + 1)) = some (Int32.ofNat s2) ∧ zSI (zq b) s2 L2 0 257 := by
      intro hz
      rw [zN_1]
      by_cases c1 : len = 0
      · rw [if_pos (by rw [c1]; decide)]
        exact ih (k + 1) f s L 0 (by omega) (by omega) (zSI_keep (zq_B b) h hz (by omega) (Or.inl c1))
      · rw [if_neg (show ¬ Int32.ofNat len ≤ 0 from fun q => by have := (zN_le (a := len) (c := 0) (by omega) (by omega)).mp q; omega)]
        by_cases c2 : L ≤ len
        · rw [if_pos ((zN_le (by omega) (by omega)).mpr c2)]
          exact ih (k + 1) f s L 0 (by omega) (by omega) (zSI_keep (zq_B b) h hz (by omega) (Or.inr c2))
        · rw [if_neg (fun q => c2 ((zN_le (by omega) (by omega)).mp q)), zN_sub h.1]
          exact ih (k + 1) f (k - len) len 0 (by omega) (by omega) (zSI_new (zq_B b) h hz (by omega) (by omega) (by omega))
    by_cases hk3 : k = 256
    · subst hk3
      rw [if_pos z256p]
      exact fin (zq_B b 256 (Nat.le_refl _))
    · have hk4 : k < 256 := by omega
      rw [if_neg (z256 hk4), if_neg (zi256 hk4), zk256 hk4]
      by_cases hb : b k < 0
      · rw [if_pos hb]
        exact fin (zq_f hb)
      · rw [if_neg hb, zN_1, zN_1]
        exact ih (k + 1) f s L (len + 1) (by omega) (by omega) (zSI_more (zq_B b) h (zq_t hk4 hb))
theorem fx_shortest (b : Nat → Int32) {j : Nat} (hj : bg (zq b) j = true) : ∃ s, fX0_shortestRange b = some (Int32.ofNat s) ∧ sh (zq b) s ∧ s < 256 := by
  obtain ⟨s, L, h1, h2⟩ := fx_shortest_11 b 257 0 1000 0 257 0 rfl (by omega) ⟨by omega, fun i h1 h2 => by omega, fun h => by omega, fun j h1 h2 => by omega, fun j h1 h2 => by omega, Or.inl rfl, by omega, by omega⟩
  refine ⟨s, h1, ?_⟩
  obtain ⟨-, -, -, a4, a5, a6, -, -⟩ := h2
  have hle : ∀ j, bg (zq b) j = true → eo (zq b) j < 257 := fun j hj => by
    have := eo_le (zq_B b) (j := j) (by have := bg_lt hj; omega)
    omega
  rcases a6 with h | ⟨h3, h4, h5⟩
  · have := a4 j hj (hle j hj)
    have := hle j hj
    have := eo_gt (zq_B b) (bg_iff.mp hj).1
    have hj2 := bg_lt hj
    omega
  · exact ⟨⟨h3, fun i hi => by have := a4 i hi (hle i hi); omega, fun i hi1 hi2 => by have := a5 i hi2 (hle i hi2) hi1; omega⟩, bg_lt h3⟩
/-- a range is dropped -/
def dr1 (b : Nat → Int32) (s : Nat) : Nat → Int32 := fun i => if s ≤ i ∧ i < eo (zq b) s then -3 else b i
theorem dr1_q (b : Nat → Int32) (s : Nat) : zq (dr1 b s) = er (zq b) s (eo (zq b) s) := by
  funext i
  by_cases h : s ≤ i ∧ i < eo (zq b) s
  · rw [er_in h.1 h.2]
    refine zq_f ?_
    rw [dr1, if_pos h]; decide
  · rw [er_out h]
    unfold zq dr1
    rw [if_neg h]
theorem fx_drop_22 (b : Nat → Int32) (s : Nat) (v1 dr : Int32) : ∀ n k f, k + n = eo (zq b) s → eo (zq b) s ≤ 256 → s ≤ k → n < f → fX0_dropSurplus_22 f v1 (Int32.ofNat k) (fun i => if s ≤ i ∧ i < k then -3 else b i) dr = some (dr1 b s) := by
  intro n
  induction n with
  | zero =>
    intro k f hk he hs hf
    obtain ⟨f, rfl⟩ := zfuel hf
    obtain rfl : k = eo (zq b) s := by omega
    rw [fX0_dropSurplus_22]
    by_cases c1 : eo (zq b) s = 256
    · rw [c1, if_pos z256p, ← c1]; rfl
    · have hk2 : eo (zq b) s < 256 := by omega
      rw [if_neg (z256 hk2), if_neg (zi256 hk2), zk256 hk2]
      have hb : b (eo (zq b) s) < 0 := zq_neg hk2 (eo_end (zq_B b) s)
      have hb2 : (if s ≤ eo (zq b) s ∧ eo (zq b) s < eo (zq b) s then (-3 : Int32) else b (eo (zq b) s)) < 0 := by
        rw [if_neg (by omega)]; exact hb
      rw [if_pos hb2]; rfl
  | succ n ih =>
    intro k f hk he hs hf
    obtain ⟨f, rfl⟩ := zfuel hf
    have hk2 : k < 256 := by omega
    rw [fX0_dropSurplus_22, if_neg (z256 hk2), if_neg (zi256 hk2), zk256 hk2]
    have hq : zq b k = true := eo_in (zq_B b) hs (by omega)
    have hb2 : ¬ (if s ≤ k ∧ k < k then (-3 : Int32) else b k) < 0 := by
      rw [if_neg (by omega)]; exact zq_nn hq
    rw [if_neg hb2, if_neg (show ¬ (Int32.ofNat k < 0 ∨ 256 ≤ k) from fun q => by rcases q with q | q; exact zN_neg (by omega) q; omega), zN_1]
    have e : upd (fun i => if s ≤ i ∧ i < k then -3 else b i) k (-3) = (fun i => if s ≤ i ∧ i < k + 1 then -3 else b i) := by
      funext i
      by_cases e : i = k
      · rw [e, zupd_self, if_pos (by omega)]
      · rw [zupd_ne _ _ e]
        by_cases c : s ≤ i ∧ i < k
        · rw [if_pos c, if_pos (by omega)]
        · rw [if_neg c, if_neg (by omega)]
    rw [e]
    exact ih (k + 1) f (by omega) he (by omega) (by omega)
/-- ranges are dropped, n of them, until there are few enough -/
def DS : Nat → (Nat → Int32) → Int32 → (Nat → Int32) → Int32 → Prop
  | 0, b, dr, b2, dr2 => b2 = b ∧ dr2 = dr ∧ cn (bg (zq b)) 256 ≤ 16
  | n + 1, b, dr, b2, dr2 => cn (bg (zq b)) 256 = 16 + (n + 1) ∧ ∃ s, sh (zq b) s ∧ DS n (dr1 b s) (dr + 1) b2 dr2
theorem cn_ex {p : Nat → Bool} : ∀ n, 0 < cn p n → ∃ j, j < n ∧ p j = true
  | 0, h => absurd h (Nat.lt_irrefl _)
  | n + 1, h => by
    rw [cn] at h
    cases hp : p n
    · rw [hp] at h
      obtain ⟨j, h1, h2⟩ := cn_ex n (by simpa using h)
      exact ⟨j, by omega, h2⟩
    · exact ⟨n, by omega, hp⟩
theorem zN_m1 {a : Nat} (h : 0 < a) : Int32.ofNat a + (-1) = Int32.ofNat (a - 1) := by
  rw [← zN_sub (by omega : 1 ≤ a)]
  rw [show (-1 : Int32) = -(Int32.ofNat 1) by decide]
  exact (Int32.sub_eq_add_neg _ _).symm
theorem fx_drop_11 : ∀ n f (b : Nat → Int32) (dr : Int32), n ≤ 256 → n < f → (n = 0 ∧ cn (bg (zq b)) 256 ≤ 16 ∨ cn (bg (zq b)) 256 = 16 + n) → ∃ b2 dr2, fX0_dropSurplus_11 f (Int32.ofNat n) b dr = some (b2, dr2) ∧ DS n b dr b2 dr2 := by
  intro n
  induction n with
  | zero =>
    intro f b dr h0 hf h
    obtain ⟨f, rfl⟩ := zfuel hf
    rw [fX0_dropSurplus_11, if_pos (by decide)]
    exact ⟨b, dr, rfl, rfl, rfl, by omega⟩
  | succ n ih =>
    intro f b dr h0 hf h
    obtain ⟨f, rfl⟩ := zfuel hf
    have hc : cn (bg (zq b)) 256 = 16 + (n + 1) := by omega
    obtain ⟨j, hj1, hj2⟩ := cn_ex (p := bg (zq b)) 256 (by omega)
    obtain ⟨s, e1, hs, hs2⟩ := fx_shortest b hj2
    rw [fX0_dropSurplus_11, if_neg (show ¬ Int32.ofNat (n + 1) ≤ 0 from fun q => by have := (zN_le (a := n + 1) (c := 0) (by omega) (by omega)).mp q; omega), e1]
    have hge := eo_ge (zq_B b) s
    have hle := eo_le (zq_B b) (j := s) (by omega)
    have e2 := fx_drop_22 b s (Int32.ofNat (n + 1)) dr (eo (zq b) s - s) s 1000 (by omega) hle (Nat.le_refl _) (by omega)
    rw [show (fun i => if s ≤ i ∧ i < s then (-3 : Int32) else b i) = b from funext fun i => if_neg (by omega)] at e2
    show ∃ b2 dr2, ob (fX0_dropSurplus_22 1000 (Int32.ofNat (n + 1)) (Int32.ofNat s) b dr) _ = some (b2, dr2) ∧ _
    rw [e2]
    have hr := er_ranges (zq_B b) hs.1
    rw [← dr1_q] at hr
    obtain ⟨b2, dr2, g1, g2⟩ := ih f (dr1 b s) (dr + 1) (by omega) (by omega) (by omega)
    refine ⟨b2, dr2, ?_, hc, s, hs, g2⟩
    show fX0_dropSurplus_11 f (Int32.ofNat (n + 1) + (-1)) (dr1 b s) (dr + 1) = _
    rw [zN_m1 (by omega)]
    exact g1
theorem fx_drop (b : Nat → Int32) (dr : Int32) : ∃ n b2 dr2, fX0_dropSurplus b dr = some (b2, dr2) ∧ DS n b dr b2 dr2 := by
  unfold fX0_dropSurplus
  rw [show (256 : Int32) = Int32.ofNat 256 from rfl, fx_countRangesAhead b (Nat.le_refl _)]
  have hle := cn_le (bg (zq b)) 256
  by_cases h : cn (bg (zq b)) 256 ≤ 16
  · refine ⟨0, b, dr, ?_, rfl, rfl, h⟩
    show fX0_dropSurplus_11 1000 (Int32.ofNat (cn (bg (zq b)) 256) - 16) b dr = _
    have hn : Int32.ofNat (cn (bg (zq b)) 256) - 16 ≤ 0 := by
      rw [Int32.le_iff_toInt_le]
      have h3 : ∀ k, k ≤ 16 → (Int32.ofNat k - 16).toInt ≤ (0 : Int32).toInt := by decide
      exact h3 _ h
    rw [fX0_dropSurplus_11, if_pos hn]
  · obtain ⟨b2, dr2, g1, g2⟩ := fx_drop_11 (cn (bg (zq b)) 256 - 16) 1000 b dr (by omega) (by omega) (Or.inr (by omega))
    refine ⟨_, b2, dr2, ?_, g2⟩
    show fX0_dropSurplus_11 1000 (Int32.ofNat (cn (bg (zq b)) 256) - Int32.ofNat 16) b dr = _
    rw [zN_sub (by omega)]
    exact g1
/-! the Model's rows: who is queued, ranges, what is dropped -/
theorem mi_in (a lo hi : Int64) : fX4_in a lo hi = some (bi (decide (lo.toInt ≤ a.toInt ∧ a.toInt ≤ hi.toInt))) := by
  unfold fX4_in lg_cmp
  simp only [gt_iff_lt, Int64.lt_iff_toInt_lt, ← Int64.toInt_inj]
  by_cases h1 : lo.toInt ≤ a.toInt
  · by_cases h2 : a.toInt ≤ hi.toInt
    · rw [decide_eq_true ⟨h1, h2⟩]
      by_cases h3 : lo.toInt < a.toInt
      · rw [if_pos h3, if_neg (show ¬ (1 : Int32) < 0 by decide), if_neg (show ¬ hi.toInt < a.toInt by omega)]
        by_cases h4 : a.toInt = hi.toInt
        · rw [if_pos h4]; rfl
        · rw [if_neg h4]; rfl
      · rw [if_neg h3, if_pos (show a.toInt = lo.toInt by omega), if_neg (show ¬ (0 : Int32) < 0 by decide), if_neg (show ¬ hi.toInt < a.toInt by omega)]
        by_cases h4 : a.toInt = hi.toInt
        · rw [if_pos h4]; rfl
        · rw [if_neg h4]; rfl
    · rw [decide_eq_false (fun q => h2 q.2), if_pos (show hi.toInt < a.toInt by omega)]
      by_cases h3 : lo.toInt < a.toInt
      · rw [if_pos h3]; rfl
      · rw [if_neg h3, if_pos (show a.toInt = lo.toInt by omega)]; rfl
  · rw [decide_eq_false (fun q => h1 q.1), if_neg (show ¬ lo.toInt < a.toInt by omega), if_neg (show ¬ a.toInt = lo.toInt by omega)]; rfl
theorem bi_and (t : Bool) : ¬ ¬ (bi t &&& 1 = bi t) := by cases t <;> decide
theorem mi_block (x : Int32) : fX4_isBlock x = some (bi (decide (0 ≤ x.toInt ∧ x.toInt ≤ 255))) := by
  unfold fX4_isBlock
  rw [mi_in, Int32.toInt_toInt64]
  show (if ¬ (bi _ &&& 1 = bi _) then none else some (bi _)) = _
  rw [if_neg (bi_and _)]
  rfl
theorem mi_blockN {k : Nat} (hk : k < 2147483648) : fX4_isBlock (Int32.ofNat k) = some (bi (decide (k < 256))) := by
  rw [mi_block, zN_toInt hk]
  rw [show decide ((0 : Int) ≤ (k : Int) ∧ (k : Int) ≤ 255) = decide (k < 256) from decide_eq_decide.mpr (by omega)]
theorem z0k (k : Nat) : (0 : Int32) + Int32.ofNat k = Int32.ofNat (0 + k) := zN_add 0 k
theorem z256k (k : Nat) : (256 : Int32) + Int32.ofNat k = Int32.ofNat (256 + k) := zN_add 256 k
theorem z512k (k : Nat) : (512 : Int32) + Int32.ofNat k = Int32.ofNat (512 + k) := zN_add 512 k
theorem z773k (k : Nat) : (773 : Int32) + Int32.ofNat k = Int32.ofNat (773 + k) := zN_add 773 k
theorem z779k (k : Nat) : (779 : Int32) + Int32.ofNat k = Int32.ofNat (779 + k) := zN_add 779 k
theorem z782k (k : Nat) : (782 : Int32) + Int32.ofNat k = Int32.ofNat (782 + k) := zN_add 782 k
theorem zi785 {k : Nat} (h : k < 785) : ¬ (Int32.ofNat k < 0 ∨ 785 ≤ (Int32.ofNat k).toNatClampNeg) := zN_in h (by omega)
theorem zj785 {k : Nat} (h : k < 785) : ¬ (Int32.ofNat k < 0 ∨ 785 ≤ k) := fun q => by
  rcases q with q | q
  · exact zN_neg (by omega) q
  · omega
theorem zk785 {k : Nat} (h : k < 785) : (Int32.ofNat k).toNatClampNeg = k := zN_cl (by omega)
/-- who is queued, in the Model's words -/
def RQ (q : Nat → Bool) (r : Nat → Int32) : Prop := zB q ∧ ∀ i, i < 256 → (r (512 + i) = -1 ↔ q i = false)
theorem mq {q : Nat → Bool} {r : Nat → Int32} (h : RQ q r) {k : Nat} (hk : k < 2147483648) : fX4_isQueued r (Int32.ofNat k) = some (bi (q k)) := by
  unfold fX4_isQueued
  rw [mi_blockN hk]
  show (if bi _ = 0 then _ else _) = _
  by_cases h1 : k < 256
  · rw [decide_eq_true h1, if_neg (show ¬ bi true = 0 by decide), z512k, if_neg (zi785 (by omega)), zk785 (by omega)]
    by_cases h2 : r (512 + k) = -1
    · rw [if_pos h2, (h.2 k h1).mp h2]; rfl
    · rw [if_neg h2]
      cases h3 : q k
      · exact absurd ((h.2 k h1).mpr h3) h2
      · rfl
  · rw [decide_eq_false h1, if_pos (show bi false = 0 by decide), h.1 k (by omega)]; rfl
theorem mq1 {q : Nat → Bool} {r : Nat → Int32} (h : RQ q r) {k : Nat} (hk : k < 2147483648) : fX4_isQueued r (Int32.ofNat k - 1) = some (bi (pv q k)) := by
  by_cases h0 : k = 0
  · subst h0
    unfold fX4_isQueued
    rw [mi_block]
    rfl
  · rw [show Int32.ofNat k - 1 = Int32.ofNat (k - 1) from zN_sub (a := k) (c := 1) (by omega), mq h (by omega)]
    unfold pv
    rw [decide_eq_true (show 0 < k by omega)]; rfl
theorem mbegins {q : Nat → Bool} {r : Nat → Int32} (h : RQ q r) {k : Nat} (hk : k < 2147483648) : fX4_begins r (Int32.ofNat k) = some (bi (bg q k)) := by
  unfold fX4_begins
  rw [mq h hk, mq1 h hk, bg_pv]
  cases q k <;> cases pv q k <;> rfl
theorem mranges_4 {q : Nat → Bool} {r : Nat → Int32} (h : RQ q r) : ∀ n k f, k + n = 256 → n < f → fX4_ranges_4 r f (Int32.ofNat (cn (bg q) k)) (Int32.ofNat k) = some (Int32.ofNat (cn (bg q) 256)) := by
  intro n
  induction n with
  | zero =>
    intro k f hk hf
    obtain ⟨f, rfl⟩ := zfuel hf
    obtain rfl : k = 256 := by omega
    rw [fX4_ranges_4, if_pos z256p]
  | succ n ih =>
    intro k f hk hf
    obtain ⟨f, rfl⟩ := zfuel hf
    have hk2 : k < 256 := by omega
    rw [fX4_ranges_4, if_neg (z256 hk2), mbegins h (by omega)]
    have h1 := ih (k + 1) f (by omega) (by omega)
    rw [cn] at h1
    show (if bi (bg q k) = 0 then _ else _) = _
    cases hb : bg q k
    · rw [hb] at h1
      rw [if_pos bi_f, zN_1, Int32.add_zero]
      exact h1
    · rw [hb] at h1
      rw [if_neg (show ¬ bi true = 0 by decide), zN_1, zN_1]
      exact h1
theorem mranges {q : Nat → Bool} {r : Nat → Int32} (h : RQ q r) : fX4_ranges r = some (Int32.ofNat (cn (bg q) 256)) := mranges_4 h 256 0 1000 rfl (by omega)
theorem mqueued_4 {q : Nat → Bool} {r : Nat → Int32} (h : RQ q r) : ∀ n k f, k + n = 256 → n < f → fX4_queuedBlocks_4 r f (Int32.ofNat (cn q k)) (Int32.ofNat k) = some (Int32.ofNat (cn q 256)) := by
  intro n
  induction n with
  | zero =>
    intro k f hk hf
    obtain ⟨f, rfl⟩ := zfuel hf
    obtain rfl : k = 256 := by omega
    rw [fX4_queuedBlocks_4, if_pos z256p]
  | succ n ih =>
    intro k f hk hf
    obtain ⟨f, rfl⟩ := zfuel hf
    have hk2 : k < 256 := by omega
    rw [fX4_queuedBlocks_4, if_neg (z256 hk2), mq h (by omega)]
    have h1 := ih (k + 1) f (by omega) (by omega)
    rw [cn] at h1
    show (if bi (q k) = 0 then _ else _) = _
    cases hb : q k
    · rw [hb] at h1
      rw [if_pos bi_f, zN_1, Int32.add_zero]
      exact h1
    · rw [hb] at h1
      rw [if_neg (show ¬ bi true = 0 by decide), zN_1, zN_1]
      exact h1
theorem mqueued {q : Nat → Bool} {r : Nat → Int32} (h : RQ q r) : fX4_queuedBlocks r = some (Int32.ofNat (cn q 256)) := mqueued_4 h 256 0 1000 rfl (by omega)
theorem mend_2 {q : Nat → Bool} {r : Nat → Int32} (h : RQ q r) : ∀ n k f, 256 - k = n → k ≤ 256 → n < f → fX4_endOf_2 r f (Int32.ofNat k) = some (Int32.ofNat (eo q k)) := by
  intro n
  induction n with
  | zero =>
    intro k f hk hk2 hf
    obtain ⟨f, rfl⟩ := zfuel hf
    have hq := h.1 k (by omega)
    rw [fX4_endOf_2, mq h (by omega), hq, eo_not hq]
    rfl
  | succ n ih =>
    intro k f hk hk2 hf
    obtain ⟨f, rfl⟩ := zfuel hf
    rw [fX4_endOf_2, mq h (by omega)]
    show (if bi (q k) = 0 then _ else _) = _
    cases hb : q k
    · rw [if_pos bi_f, eo_not hb]
    · rw [if_neg (show ¬ bi true = 0 by decide), zN_1, eo_step h.1 hb]
      exact ih (k + 1) f (by omega) (by omega) (by omega)
theorem mend {q : Nat → Bool} {r : Nat → Int32} (h : RQ q r) {k : Nat} (hk : k ≤ 256) : fX4_endOf r (Int32.ofNat k) = some (Int32.ofNat (eo q k)) := mend_2 h (256 - k) k 1000 rfl hk (by omega)
/-- the first block of the row that ends at a block -/
def so (q : Nat → Bool) : Nat → Nat
  | 0 => 0
  | k + 1 => if q k then so q k else k + 1
theorem so_le (q : Nat → Bool) : ∀ k, so q k ≤ k
  | 0 => Nat.le_refl _
  | k + 1 => by have := so_le q k; rw [so]; split <;> omega
theorem so_in (q : Nat → Bool) : ∀ k i, so q k ≤ i → i < k → q i = true
  | 0, i, _, h => absurd h (Nat.not_lt_zero _)
  | k + 1, i, h1, h2 => by
    rw [so] at h1
    cases hq : q k
    · rw [hq] at h1
      simp at h1; omega
    · rw [hq] at h1
      by_cases e : i = k
      · rw [e]; exact hq
      · exact so_in q k i h1 (by omega)
theorem so_pv (q : Nat → Bool) : ∀ k, 0 < so q k → q (so q k - 1) = false
  | 0, h => absurd h (Nat.lt_irrefl _)
  | k + 1, h => by
    rw [so] at h ⊢
    cases hq : q k
    · exact hq
    · rw [hq] at h
      exact so_pv q k h
theorem mstart_2 {q : Nat → Bool} {r : Nat → Int32} (h : RQ q r) : ∀ k f, k < 2147483648 → k < f → fX4_startOf_2 r f (Int32.ofNat k) = some (Int32.ofNat (so q k)) := by
  intro k
  induction k with
  | zero =>
    intro f hk2 hf
    obtain ⟨f, rfl⟩ := zfuel hf
    rw [fX4_startOf_2, mq1 h (by omega)]
    rfl
  | succ k ih =>
    intro f hk2 hf
    obtain ⟨f, rfl⟩ := zfuel hf
    rw [fX4_startOf_2, mq1 h (by omega), pv_succ, so]
    show (if bi (q k) = 0 then _ else _) = _
    cases hb : q k
    · rw [if_pos bi_f]; rfl
    · rw [if_neg (show ¬ bi true = 0 by decide), zN_m1 (by omega)]
      exact ih f (by omega) (by omega)
theorem mstart {q : Nat → Bool} {r : Nat → Int32} (h : RQ q r) {k : Nat} (hk : k ≤ 256) : fX4_startOf r (Int32.ofNat k) = some (Int32.ofNat (so q k)) := mstart_2 h k 1000 (by omega) (by omega)
/-- the range that is the shortest of those that begin ahead of k -/
def zBest (q : Nat → Bool) (v : Int32) (k : Nat) : Prop :=
  (v = -1 ∧ ∀ j, j < k → bg q j = false) ∨
  ∃ s, v = Int32.ofNat s ∧ s < k ∧ bg q s = true ∧ (∀ j, j < k → bg q j = true → eo q s - s ≤ eo q j - j) ∧ (∀ j, j < s → bg q j = true → eo q s - s < eo q j - j)
theorem zN_m {a : Nat} (ha : a < 2147483648) : ¬ Int32.ofNat a = -1 := fun q => by
  have := congrArg Int32.toInt q
  rw [zN_toInt ha] at this
  rw [show (-1 : Int32).toInt = -1 by decide] at this
  omega
theorem mbest_13 {q : Nat → Bool} {r : Nat → Int32} (h : RQ q r) : ∀ n k f v, k + n = 256 → n < f → zBest q v k → ∃ w, fX4_limit_13 f v (Int32.ofNat k) r = some w ∧ zBest q w 256 := by
  intro n
  induction n with
  | zero =>
    intro k f v hk hf hv
    obtain ⟨f, rfl⟩ := zfuel hf
    obtain rfl : k = 256 := by omega
    rw [fX4_limit_13, if_pos z256p]
    exact ⟨v, rfl, hv⟩
  | succ n ih =>
    intro k f v hk hf hv
    obtain ⟨f, rfl⟩ := zfuel hf
    have hk2 : k < 256 := by omega
    rw [fX4_limit_13, if_neg (z256 hk2), mbegins h (by omega)]
    show ∃ w, (if bi (bg q k) = 0 then _ else _) = some w ∧ _
    cases hb : bg q k
    · rw [if_pos bi_f, zN_1]
      refine ih (k + 1) f v (by omega) (by omega) ?_
      rcases hv with ⟨h1, h2⟩ | ⟨s, h1, h2, h3, h4, h5⟩
      · refine Or.inl ⟨h1, fun j hj => ?_⟩
        by_cases e : j = k
        · rw [e]; exact hb
        · exact h2 j (by omega)
      · refine Or.inr ⟨s, h1, by omega, h3, fun j hj hj2 => ?_, h5⟩
        by_cases e : j = k
        · rw [e, hb] at hj2; cases hj2
        · exact h4 j (by omega) hj2
    · rw [if_neg (show ¬ bi true = 0 by decide), zN_1]
      rcases hv with ⟨h1, h2⟩ | ⟨s, h1, h2, h3, h4, h5⟩
      · rw [if_pos h1]
        refine ih (k + 1) f _ (by omega) (by omega) (Or.inr ⟨k, rfl, by omega, hb, fun j hj hj2 => ?_, fun j hj hj2 => ?_⟩)
        · by_cases e : j = k
          · rw [e]; exact Nat.le_refl _
          · rw [h2 j (by omega)] at hj2; cases hj2
        · rw [h2 j (by omega)] at hj2; cases hj2
      · rw [if_neg (by rw [h1]; exact zN_m (by omega)), mend h (by omega), h1, mend h (by omega)]
        have g1 := eo_ge h.1 k
        have g2 := eo_ge h.1 s
        have g3 := eo_le h.1 (j := k) (by omega)
        have g4 := eo_le h.1 (j := s) (by omega)
        show ∃ w, (if Int32.ofNat (eo q s) - Int32.ofNat s ≤ Int32.ofNat (eo q k) - Int32.ofNat k then _ else _) = some w ∧ _
        rw [zN_sub g1, zN_sub g2]
        by_cases c : eo q s - s ≤ eo q k - k
        · rw [if_pos ((zN_le (by omega) (by omega)).mpr c)]
          refine ih (k + 1) f _ (by omega) (by omega) (Or.inr ⟨s, rfl, by omega, h3, fun j hj hj2 => ?_, h5⟩)
          by_cases e : j = k
          · rw [e]; exact c
          · exact h4 j (by omega) hj2
        · rw [if_neg (fun q => c ((zN_le (by omega) (by omega)).mp q))]
          refine ih (k + 1) f _ (by omega) (by omega) (Or.inr ⟨k, rfl, by omega, hb, fun j hj hj2 => ?_, fun j hj hj2 => ?_⟩)
          · by_cases e : j = k
            · rw [e]; exact Nat.le_refl _
            · have := h4 j (by omega) hj2; omega
          · have := h4 j hj hj2; omega
theorem mbest {q : Nat → Bool} {r : Nat → Int32} (h : RQ q r) {j : Nat} (hj : bg q j = true) : ∃ s, fX4_limit_13 1000 (-1) 0 r = some (Int32.ofNat s) ∧ sh q s ∧ s < 256 := by
  obtain ⟨w, h1, h2⟩ := mbest_13 h 256 0 1000 (-1) rfl (by omega) (Or.inl ⟨rfl, fun j hj => absurd hj (Nat.not_lt_zero _)⟩)
  have lt : ∀ j, bg q j = true → j < 256 := fun j hj => by
    by_cases e : j < 256
    · exact e
    · have := (bg_iff.mp hj).1
      rw [h.1 j (by omega)] at this; cases this
  rcases h2 with ⟨-, h4⟩ | ⟨s, rfl, h4, h5, h6, h7⟩
  · rw [h4 j (lt j hj)] at hj; cases hj
  · exact ⟨s, h1, ⟨h5, fun j hj => h6 j (lt j hj) hj, h7⟩, h4⟩
/-- the blocks from s on, ahead of e, are no longer queued -/
def zEr (r : Nat → Int32) (s e : Nat) : Nat → Int32 := fun x => if 512 + s ≤ x ∧ x < 512 + e then -1 else r x
theorem zE_up (r : Nat → Int32) (s k : Nat) (hs : s ≤ k) : upd (zEr r s k) (512 + k) (-1) = zEr r s (k + 1) := by
  funext x
  by_cases e : x = 512 + k
  · rw [e, zupd_self, zEr, if_pos (by omega)]
  · rw [zupd_ne _ _ e, zEr, zEr]
    by_cases c : 512 + s ≤ x ∧ x < 512 + k
    · rw [if_pos c, if_pos (by omega)]
    · rw [if_neg c, if_neg (by omega)]
theorem zE_0 (r : Nat → Int32) (s : Nat) : zEr r s s = r := funext fun x => if_neg (by omega)
theorem mlimit_66 (r : Nat → Int32) (s e : Nat) (he : e ≤ 256) : ∀ n k f, k + n = e → s ≤ k → n < f → fX4_limit_66 f (Int32.ofNat e) (Int32.ofNat k) (zEr r s k) = some (zEr r s e) := by
  intro n
  induction n with
  | zero =>
    intro k f hk hs hf
    obtain ⟨f, rfl⟩ := zfuel hf
    obtain rfl : k = e := by omega
    rw [fX4_limit_66, if_pos ((zN_le (by omega) (by omega)).mpr (Nat.le_refl _))]
  | succ n ih =>
    intro k f hk hs hf
    obtain ⟨f, rfl⟩ := zfuel hf
    rw [fX4_limit_66, if_neg (fun q => by have := (zN_le (by omega) (by omega)).mp q; omega), z512k, if_neg (zi785 (by omega)), zk785 (by omega), zE_up r s k hs, zN_1]
    exact ih (k + 1) f (by omega) (by omega) (by omega)
/-- the blocks, in the Model's words -/
def RB (b r : Nat → Int32) : Prop := ∀ i, i < 256 → r i = (if b i = -2 then 1 else 0) ∧ r (256 + i) = (if b i = -1 then 0 else 1) ∧ r (512 + i) = (if b i < 0 then -1 else b i)
theorem RB.q {b r : Nat → Int32} (h : RB b r) : RQ (zq b) r := by
  refine ⟨zq_B b, fun i hi => ?_⟩
  rw [(h i hi).2.2]
  by_cases c : b i < 0
  · rw [if_pos c]; exact ⟨fun _ => zq_f c, fun _ => rfl⟩
  · rw [if_neg c]
    refine ⟨fun q => absurd ?_ c, fun q => ?_⟩
    · rw [q]; decide
    · rw [zq_t hi c] at q; cases q
/-- a range is dropped, in the Model's words -/
def mr1 (r : Nat → Int32) (s e : Nat) : Nat → Int32 := upd (zEr r s e) 772 (zEr r s e 772 + 1)
theorem mr1_RB {b r : Nat → Int32} (h : RB b r) (s : Nat) : RB (dr1 b s) (mr1 r s (eo (zq b) s)) := by
  intro i hi
  unfold mr1
  rw [zupd_ne _ _ (by omega), zupd_ne _ _ (by omega), zupd_ne _ _ (by omega)]
  rw [show zEr r s (eo (zq b) s) i = r i from if_neg (by omega), show zEr r s (eo (zq b) s) (256 + i) = r (256 + i) from if_neg (by omega)]
  obtain ⟨h1, h2, h3⟩ := h i hi
  by_cases c : s ≤ i ∧ i < eo (zq b) s
  · have hq : ¬ b i < 0 := zq_nn (eo_in (zq_B b) c.1 c.2)
    rw [show dr1 b s i = -3 from if_pos c, show zEr r s (eo (zq b) s) (512 + i) = -1 from if_pos (by omega), h1, h2]
    refine ⟨?_, ?_, by decide⟩
    · rw [if_neg (fun q => hq (by rw [q]; decide)), if_neg (by decide)]
    · rw [if_neg (fun q => hq (by rw [q]; decide)), if_neg (by decide)]
  · rw [show dr1 b s i = b i from if_neg c, show zEr r s (eo (zq b) s) (512 + i) = r (512 + i) from if_neg (by omega)]
    exact ⟨h1, h2, h3⟩
/-- what lies outside blocks and the number of drops stays -/
def zOut (r r2 : Nat → Int32) : Prop := ∀ x, 768 ≤ x → x ≠ 772 → r2 x = r x
theorem mlimit_DS : ∀ n (b : Nat → Int32) (dr : Int32) (b2 : Nat → Int32) (dr2 : Int32) (r : Nat → Int32) (f : Nat), n < f → DS n b dr b2 dr2 → RB b r → r 772 = dr → ∃ r2, fX4_limit_0 f r = some r2 ∧ RB b2 r2 ∧ r2 772 = dr2 ∧ zOut r r2
  | 0, b, dr, b2, dr2, r, f, hf, h, hr, hd => by
    obtain ⟨f, rfl⟩ := zfuel hf
    obtain ⟨rfl, rfl, h3⟩ := h
    rw [fX4_limit_0, mranges hr.q]
    refine ⟨r, ?_, hr, hd, fun x _ _ => rfl⟩
    show (if Int32.ofNat (cn (bg (zq b2)) 256) ≤ Int32.ofNat 16 then some r else _) = some r
    rw [if_pos ((zN_le (by omega) (by omega)).mpr h3)]
  | n + 1, b, dr, b2, dr2, r, f, hf, h, hr, hd => by
    obtain ⟨f, rfl⟩ := zfuel hf
    obtain ⟨h1, s, h2, h3⟩ := h
    obtain ⟨s2, e1, h4, h5⟩ := mbest hr.q h2.1
    obtain rfl := sh_one h2 h4
    have hge := eo_ge (zq_B b) s
    have hcl := cn_le (bg (zq b)) 256
    have hle := eo_le (zq_B b) (j := s) (by omega)
    have e2 := mlimit_66 r s (eo (zq b) s) hle (eo (zq b) s - s) s 1000 (by omega) (Nat.le_refl _) (by omega)
    rw [zE_0] at e2
    rw [fX4_limit_0, mranges hr.q]
    show ∃ r2, (if Int32.ofNat (cn (bg (zq b)) 256) ≤ Int32.ofNat 16 then some r else _) = some r2 ∧ _
    rw [if_neg (fun q => by have := (zN_le (by omega) (by omega)).mp q; omega), e1]
    show ∃ r2, ob (fX4_endOf r (Int32.ofNat s)) _ = some r2 ∧ _
    rw [mend hr.q (by omega)]
    show ∃ r2, ob (fX4_limit_66 1000 (Int32.ofNat (eo (zq b) s)) (Int32.ofNat s) r) _ = some r2 ∧ _
    rw [e2]
    have hm : mr1 r s (eo (zq b) s) 772 = dr + 1 := by
      unfold mr1
      rw [zupd_self, show zEr r s (eo (zq b) s) 772 = r 772 from if_neg (by omega), hd]
    obtain ⟨r2, g1, g2, g3, g4⟩ := mlimit_DS n (dr1 b s) (dr + 1) b2 dr2 (mr1 r s (eo (zq b) s)) f (by omega) h3 (mr1_RB hr s) hm
    refine ⟨r2, g1, g2, g3, fun x hx hx2 => ?_⟩
    rw [g4 x hx hx2]
    unfold mr1
    rw [zupd_ne _ _ hx2]
    exact if_neg (by omega)
theorem mlimit_0 (r : Nat → Int32) : fX4_limit r = fX4_limit_0 1001 r := rfl
theorem DS_n : ∀ {n : Nat} {b : Nat → Int32} {dr : Int32} {b2 : Nat → Int32} {dr2 : Int32}, DS n b dr b2 dr2 → n ≤ 256
  | 0, _, _, _, _, _ => by omega
  | n + 1, b, _, _, _, h => by have := cn_le (bg (zq b)) 256; have := h.1; omega
theorem mlimit {n : Nat} {b : Nat → Int32} {dr : Int32} {b2 : Nat → Int32} {dr2 : Int32} {r : Nat → Int32} (h : DS n b dr b2 dr2) (hr : RB b r) (hd : r 772 = dr) : ∃ r2, fX4_limit r = some r2 ∧ RB b2 r2 ∧ r2 772 = dr2 ∧ zOut r r2 := by
  rw [mlimit_0]
  exact mlimit_DS n b dr b2 dr2 r 1001 (by have := DS_n h; omega) h hr hd
/-! what stays when ranges are dropped; writing -/
theorem dr1_at (b : Nat → Int32) (s i : Nat) : dr1 b s i = b i ∨ (zq b i = true ∧ dr1 b s i = -3) := by
  unfold dr1
  by_cases c : s ≤ i ∧ i < eo (zq b) s
  · rw [if_pos c]; exact Or.inr ⟨eo_in (zq_B b) c.1 c.2, rfl⟩
  · rw [if_neg c]; exact Or.inl rfl
theorem DS_at : ∀ {n : Nat} {b : Nat → Int32} {dr : Int32} {b2 : Nat → Int32} {dr2 : Int32}, DS n b dr b2 dr2 → ∀ i, b2 i = b i ∨ (zq b i = true ∧ b2 i = -3)
  | 0, b, _, _, _, h, i => by obtain ⟨rfl, -, -⟩ := h; exact Or.inl rfl
  | n + 1, b, _, b2, _, h, i => by
    obtain ⟨-, s, -, h3⟩ := h
    rcases DS_at h3 i with e | ⟨e1, e2⟩
    · rw [e]; exact dr1_at b s i
    · rcases dr1_at b s i with g | ⟨g1, g2⟩
      · refine Or.inr ⟨?_, e2⟩
        unfold zq at e1 ⊢
        rw [← g]; exact e1
      · exact Or.inr ⟨g1, e2⟩
theorem DS_q {n : Nat} {b : Nat → Int32} {dr : Int32} {b2 : Nat → Int32} {dr2 : Int32} (h : DS n b dr b2 dr2) {i : Nat} (hi : zq b2 i = true) : zq b i = true ∧ b2 i = b i := by
  rcases DS_at h i with e | ⟨e1, e2⟩
  · unfold zq at hi ⊢
    rw [e] at hi
    exact ⟨hi, e⟩
  · rw [zq_f (by rw [e2]; decide)] at hi; cases hi
theorem DS_neg {n : Nat} {b : Nat → Int32} {dr : Int32} {b2 : Nat → Int32} {dr2 : Int32} (h : DS n b dr b2 dr2) {i : Nat} (hi : b i < 0) : b2 i = b i := by
  rcases DS_at h i with e | ⟨e1, e2⟩
  · exact e
  · rw [zq_f hi] at e1; cases e1
/-- what holds of the blocks at all times -/
def IV (b : Nat → Int32) (tm : Int32) : Prop := (∀ i, i < 256 → -3 ≤ b i ∧ b i ≤ tm) ∧ (∀ i, i + 1 < 256 → zq b i = true → zq b (i + 1) = true → b i = b (i + 1)) ∧ 0 ≤ tm
theorem le_tr {x y z : Int32} (h1 : x ≤ y) (h2 : y ≤ z) : x ≤ z := Int32.le_trans h1 h2
theorem IV_DS {n : Nat} {b : Nat → Int32} {dr tm : Int32} {b2 : Nat → Int32} {dr2 : Int32} (h : DS n b dr b2 dr2) (hI : IV b tm) : IV b2 tm := by
  refine ⟨fun i hi => ?_, fun i hi h1 h2 => ?_, hI.2.2⟩
  · rcases DS_at h i with e | ⟨e1, e2⟩
    · rw [e]; exact hI.1 i hi
    · rw [e2]; exact ⟨by decide, le_tr (by decide : (-3 : Int32) ≤ 0) hI.2.2⟩
  · obtain ⟨a1, a2⟩ := DS_q h h1
    obtain ⟨c1, c2⟩ := DS_q h h2
    rw [a2, c2]; exact hI.2.1 i hi a1 c1
/-- a device, in the Model's words -/
def RD (b pF pL st : Nat → Int32) (tm qt cm ds dr : Int32) (r : Nat → Int32) : Prop :=
  RB b r ∧ (∀ i, i < 3 → r (779 + i) = pF i ∧ r (782 + i) = pL i) ∧ (∀ i, i < 6 → r (773 + i) = st i) ∧ r 768 = tm ∧ r 769 = qt ∧ r 770 = cm ∧ r 771 = ds ∧ r 772 = dr
/-- rows that differ at the blocks alone -/
def zO (r r2 : Nat → Int32) : Prop := ∀ x, 768 ≤ x → r2 x = r x
theorem RD.put {b pF pL st : Nat → Int32} {tm qt cm ds dr : Int32} {r r2 b2 : Nat → Int32} (h : RD b pF pL st tm qt cm ds dr r) (hb : RB b2 r2) (ho : zO r r2) : RD b2 pF pL st tm qt cm ds dr r2 := by
  obtain ⟨-, h2, h3, h4, h5, h6, h7, h8⟩ := h
  exact ⟨hb, fun i hi => by rw [ho _ (by omega), ho _ (by omega)]; exact h2 i hi, fun i hi => by rw [ho _ (by omega)]; exact h3 i hi, by rw [ho _ (by omega)]; exact h4, by rw [ho _ (by omega)]; exact h5, by rw [ho _ (by omega)]; exact h6, by rw [ho _ (by omega)]; exact h7, by rw [ho _ (by omega)]; exact h8⟩
theorem RB.up {b r : Nat → Int32} (h : RB b r) {x : Nat} (hx : 768 ≤ x) (v : Int32) : RB b (upd r x v) := fun i hi => by
  rw [zupd_ne _ _ (by omega), zupd_ne _ _ (by omega), zupd_ne _ _ (by omega)]; exact h i hi
/-- ranges are dropped -/
theorem RD.limit {n : Nat} {b pF pL st : Nat → Int32} {tm qt cm ds dr : Int32} {r b2 : Nat → Int32} {dr2 : Int32} (h : RD b pF pL st tm qt cm ds dr r) (hd : DS n b dr b2 dr2) : ∃ r2, fX4_limit r = some r2 ∧ RD b2 pF pL st tm qt cm ds dr2 r2 := by
  obtain ⟨h1, h2, h3, h4, h5, h6, h7, h8⟩ := h
  obtain ⟨r2, g1, g2, g3, g4⟩ := mlimit hd h1 h8
  exact ⟨r2, g1, g2, fun i hi => by rw [g4 _ (by omega) (by omega), g4 _ (by omega) (by omega)]; exact h2 i hi, fun i hi => by rw [g4 _ (by omega) (by omega)]; exact h3 i hi, by rw [g4 _ (by omega) (by omega)]; exact h4, by rw [g4 _ (by omega) (by omega)]; exact h5, by rw [g4 _ (by omega) (by omega)]; exact h6, by rw [g4 _ (by omega) (by omega)]; exact h7, g3⟩
theorem RD.quiet {b pF pL st : Nat → Int32} {tm qt cm ds dr : Int32} {r : Nat → Int32} (h : RD b pF pL st tm qt cm ds dr r) (v : Int32) : RD b pF pL st tm v cm ds dr (upd r 769 v) := by
  obtain ⟨h1, h2, h3, h4, h5, h6, h7, h8⟩ := h
  exact ⟨h1.up (by omega) v, fun i hi => by rw [zupd_ne _ _ (by omega), zupd_ne _ _ (by omega)]; exact h2 i hi, fun i hi => by rw [zupd_ne _ _ (by omega)]; exact h3 i hi, by rw [zupd_ne _ _ (by omega)]; exact h4, zupd_self _ _ _, by rw [zupd_ne _ _ (by omega)]; exact h6, by rw [zupd_ne _ _ (by omega)]; exact h7, by rw [zupd_ne _ _ (by omega)]; exact h8⟩
/-- a span is alive -/
def wr (b : Nat → Int32) (s m : Nat) : Nat → Int32 := fun i => if s ≤ i ∧ i < s + m then -2 else b i
theorem wr_0 (b : Nat → Int32) (s : Nat) : wr b s 0 = b := funext fun i => if_neg (by omega)
theorem wr_up (b : Nat → Int32) (s m : Nat) : upd (wr b s m) (s + m) (-2) = wr b s (m + 1) := by
  funext i
  by_cases e : i = s + m
  · rw [e, zupd_self, wr, if_pos (by omega)]
  · rw [zupd_ne _ _ e, wr, wr]
    by_cases c : s ≤ i ∧ i < s + m
    · rw [if_pos c, if_pos (by omega)]
    · rw [if_neg c, if_neg (by omega)]
theorem IV_wr {b : Nat → Int32} {tm : Int32} (h : IV b tm) (s m : Nat) : IV (wr b s m) tm := by
  have key : ∀ i, zq (wr b s m) i = true → zq b i = true ∧ wr b s m i = b i := fun i hi => by
    by_cases c : s ≤ i ∧ i < s + m
    · rw [zq_f (by rw [show wr b s m i = -2 from if_pos c]; decide)] at hi; cases hi
    · have e : wr b s m i = b i := if_neg c
      unfold zq at hi ⊢
      rw [e] at hi
      exact ⟨hi, e⟩
  refine ⟨fun i hi => ?_, fun i hi h1 h2 => ?_, h.2.2⟩
  · by_cases c : s ≤ i ∧ i < s + m
    · rw [show wr b s m i = -2 from if_pos c]
      exact ⟨by decide, le_tr (by decide : (-2 : Int32) ≤ 0) h.2.2⟩
    · rw [show wr b s m i = b i from if_neg c]; exact h.1 i hi
  · obtain ⟨a1, a2⟩ := key _ h1
    obtain ⟨c1, c2⟩ := key _ h2
    rw [a2, c2]; exact h.2.1 i hi a1 c1
theorem fx_write_5 (b : Nat → Int32) (s : Nat) (qt dr : Int32) (nn : Nat) (hs : s + nn ≤ 256) : ∀ n m f, m + n = nn → n < f → fX0_writeSpan_5 f (Int32.ofNat s) (Int32.ofNat nn) (Int32.ofNat (cn (fun i => zq b (s + i)) m)) (Int32.ofNat (s + m)) (wr b s m) qt dr = ob2 (fX0_dropSurplus (wr b s nn) dr) fun b2 dr2 => some (Int32.ofNat (cn (fun i => zq b (s + i)) nn), b2, 0, dr2) := by
  intro n
  induction n with
  | zero =>
    intro m f hm hf
    obtain ⟨f, rfl⟩ := zfuel hf
    obtain rfl : m = nn := by omega
    rw [fX0_writeSpan_5, zN_add, if_pos ((zN_le (by omega) (by omega)).mpr (Nat.le_refl _))]
  | succ n ih =>
    intro m f hm hf
    obtain ⟨f, rfl⟩ := zfuel hf
    have hk2 : s + m < 256 := by omega
    have hin := zi256 hk2
    have h1 := ih (m + 1) f (by omega) (by omega)
    rw [cn, ← Nat.add_assoc] at h1
    have e : wr b s m (s + m) = b (s + m) := if_neg (by omega)
    rw [fX0_writeSpan_5, zN_add, if_neg (fun q => by have := (zN_le (by omega) (by omega)).mp q; omega), if_neg hin, zN_1]
    rw [zN_1] at *
    rw [zk256 hk2] at *
    rw [e, wr_up]
    by_cases c : b (s + m) < 0
    · rw [if_pos c, if_neg hin]
      rw [zq_f c] at h1
      exact h1
    · rw [if_neg c, if_neg hin]
      rw [zq_t hk2 c] at h1
      exact h1
theorem fx_write (b : Nat → Int32) (qt dr : Int32) {s n : Nat} (hs : s + n ≤ 256) : fX0_writeSpan b qt dr (Int32.ofNat s) (Int32.ofNat n) = ob2 (fX0_dropSurplus (wr b s n) dr) fun b2 dr2 => some (Int32.ofNat (cn (fun i => zq b (s + i)) n), b2, 0, dr2) := by
  have h := fx_write_5 b s qt dr n hs n 0 1000 (by omega) (by omega)
  rw [wr_0] at h
  exact h
theorem RB.wr1 {b r : Nat → Int32} (h : RB b r) {k : Nat} (hk : k < 256) : RB (upd b k (-2)) (upd (upd (upd r k 1) (256 + k) 1) (512 + k) (-1)) := by
  intro i hi
  obtain ⟨h1, h2, h3⟩ := h i hi
  by_cases e : i = k
  · subst e
    rw [zupd_self b, zupd_ne _ _ (by omega), zupd_ne _ _ (by omega), zupd_self, zupd_ne _ _ (by omega), zupd_self, zupd_self]
    exact ⟨by decide, by decide, by decide⟩
  · rw [zupd_ne b _ e, zupd_ne _ _ (by omega), zupd_ne _ _ (by omega), zupd_ne _ _ (by omega), zupd_ne _ _ (by omega), zupd_ne _ _ (by omega), zupd_ne _ _ (by omega), zupd_ne _ _ (by omega), zupd_ne _ _ (by omega), zupd_ne _ _ (by omega)]
    exact ⟨h1, h2, h3⟩
theorem mwrite_5 (b : Nat → Int32) (s nn : Nat) (hs : s + nn ≤ 256) (r0 : Nat → Int32) : ∀ n m f r, m + n = nn → n < f → RB (wr b s m) r → zO r0 r → ∃ r2, RB (wr b s nn) r2 ∧ zO r0 r2 ∧ fX4_writeOn_5 f (Int32.ofNat s) (Int32.ofNat nn) (Int32.ofNat (cn (fun i => zq b (s + i)) m)) (Int32.ofNat (s + m)) r = ob (fX4_limit (upd r2 769 0)) fun r3 => some (Int32.ofNat (cn (fun i => zq b (s + i)) nn), r3) := by
  intro n
  induction n with
  | zero =>
    intro m f r hm hf hr ho
    obtain ⟨f, rfl⟩ := zfuel hf
    obtain rfl : m = nn := by omega
    refine ⟨r, hr, ho, ?_⟩
    rw [fX4_writeOn_5, zN_add, if_pos ((zN_le (by omega) (by omega)).mpr (Nat.le_refl _))]
  | succ n ih =>
    intro m f r hm hf hr ho
    obtain ⟨f, rfl⟩ := zfuel hf
    have hk2 : s + m < 256 := by omega
    have hr2 := hr.wr1 hk2
    rw [wr_up] at hr2
    obtain ⟨r2, g1, g2, g3⟩ := ih (m + 1) f _ (by omega) (by omega) hr2 (fun x hx => by rw [zupd_ne _ _ (by omega), zupd_ne _ _ (by omega), zupd_ne _ _ (by omega)]; exact ho x hx)
    refine ⟨r2, g1, g2, ?_⟩
    rw [cn, ← Nat.add_assoc] at g3
    have hq : zq (wr b s m) (s + m) = zq b (s + m) := by
      unfold zq
      rw [show wr b s m (s + m) = b (s + m) from if_neg (by omega)]
    rw [fX4_writeOn_5, zN_add, if_neg (fun q => by have := (zN_le (by omega) (by omega)).mp q; omega), mq hr.q (by omega), hq]
    show (if bi (zq b (s + m)) = 0 then _ else _) = _
    rw [z0k, z256k, z512k, Nat.zero_add, if_neg (zi785 (by omega)), if_neg (zi785 (by omega)), if_neg (zi785 (by omega)), zk785 (by omega), zk785 (by omega), zk785 (by omega), zN_1]
    cases hz : zq b (s + m)
    · rw [hz] at g3
      rw [if_pos bi_f, Int32.add_zero]
      exact g3
    · rw [hz] at g3
      rw [if_neg (show ¬ bi true = 0 by decide), if_neg (zj785 (by omega)), if_neg (zj785 (by omega)), if_neg (zj785 (by omega)), zN_1]
      exact g3
/-- writing -/
theorem op_write {b pF pL st : Nat → Int32} {tm qt cm ds dr : Int32} {r : Nat → Int32} (h : RD b pF pL st tm qt cm ds dr r) (hI : IV b tm) {s n : Nat} (hs : s + n ≤ 256) : ∃ c b2 dr2 r2, c ≤ 256 ∧ fX0_writeSpan b qt dr (Int32.ofNat s) (Int32.ofNat n) = some (Int32.ofNat c, b2, 0, dr2) ∧ fX4_writeOn r (Int32.ofNat s) (Int32.ofNat n) = some (Int32.ofNat c, r2) ∧ RD b2 pF pL st tm 0 cm ds dr2 r2 ∧ IV b2 tm := by
  obtain ⟨k, b2, dr2, e1, hd⟩ := fx_drop (wr b s n) dr
  obtain ⟨r2, g1, g2, g3⟩ := mwrite_5 b s n hs r n 0 1000 r (by omega) (by omega) (by rw [wr_0]; exact h.1) (fun x _ => rfl)
  obtain ⟨r3, k1, k2⟩ := ((h.put g1 g2).quiet 0).limit hd
  have hc := cn_le (fun i => zq b (s + i)) n
  refine ⟨cn (fun i => zq b (s + i)) n, b2, dr2, r3, by omega, ?_, ?_, k2, IV_DS hd (IV_wr hI s n)⟩
  · rw [fx_write b qt dr hs, e1]; rfl
  · show fX4_writeOn_5 1000 (Int32.ofNat s) (Int32.ofNat n) (Int32.ofNat 0) (Int32.ofNat s) r = _
    have g4 := g3
    rw [Nat.add_zero] at g4
    refine g4.trans ?_
    rw [k1]; rfl
