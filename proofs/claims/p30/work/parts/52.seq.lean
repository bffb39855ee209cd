/-! the run of ticks from a device on -/
abbrev dV : Type := (Nat → Int32) × Int32 × Int32 × Int32 × Int32 × Int32
def tk1 (pF pL st : Nat → Int32) (d : dV) : dV := match fX0_tick d.1 pF pL st d.2.1 d.2.2.1 d.2.2.2.1 d.2.2.2.2.1 d.2.2.2.2.2 with
  | some x => x
  | none => d
def tkn (pF pL st : Nat → Int32) (d : dV) : Nat → dV
  | 0 => d
  | n + 1 => tk1 pF pL st (tkn pF pL st d n)
theorem tkn_up {pF pL st : Nat → Int32} {d : dV} {n : Nat} {x : dV} (h : fX0_tick (tkn pF pL st d n).1 pF pL st (tkn pF pL st d n).2.1 (tkn pF pL st d n).2.2.1 (tkn pF pL st d n).2.2.2.1 (tkn pF pL st d n).2.2.2.2.1 (tkn pF pL st d n).2.2.2.2.2 = some x) : tkn pF pL st d (n + 1) = x := by
  show tk1 pF pL st (tkn pF pL st d n) = x
  unfold tk1
  rw [h]
section TKN
variable {pF pL st : Nat → Int32} {T : Nat} {b : Nat → Int32} {qt cm ds dr : Int32}
/-- the device after n ticks -/
theorem tkn_at (hp : PV pF pL) (hS : SV st) (hI : IV b (Int32.ofNat T)) : ∀ n, T + n < 2147483648 → ∃ b2 qt2 dr2 M N, tkn pF pL st (b, Int32.ofNat T, qt, cm, ds, dr) n = (b2, Int32.ofNat (T + n), qt2, cm + Int32.ofNat M, ds + Int32.ofNat N, dr2) ∧ M ≤ 40 * n ∧ TF b b2 N ∧ IV b2 (Int32.ofNat (T + n)) ∧ (R16 b → R16 b2) := by
  obtain ⟨g, hg1, hg2⟩ := hS 0 (by omega)
  have hg : g < 5 := by have : zGm 0 = 4 := rfl; omega
  intro n
  induction n with
  | zero => intro _; exact ⟨b, qt, dr, 0, 0, by rw [ad0, ad0]; rfl, Nat.zero_le _, TF.rf b, hI, fun h => h⟩
  | succ n ih =>
    intro hT
    obtain ⟨b2, qt2, dr2, M, N, e, h1, h2, h3, h4⟩ := ih (by omega)
    obtain ⟨b3, dr3, M3, N3, k1, k2, k3, k4, k5, -⟩ := tk hp hS (show T + n + 1 < 2147483648 by omega) hg hg1 b2 qt2 (cm + Int32.ofNat M) (ds + Int32.ofNat N) dr2 h3
    refine ⟨b3, qt2 + 1, dr3, M + M3, N + N3, ?_, by omega, h2.tr k3, k4, fun h => k5 (h4 h)⟩
    rw [tkn_up (by rw [e]; exact k1), Int32.add_assoc, Int32.add_assoc, zN_add, zN_add]
    rfl
/-- from one to the next -/
theorem tkn_to (hp : PV pF pL) (hS : SV st) (hI : IV b (Int32.ofNat T)) {n : Nat} (hT : T + n + 1 < 2147483648) : fX0_tick (tkn pF pL st (b, Int32.ofNat T, qt, cm, ds, dr) n).1 pF pL st (tkn pF pL st (b, Int32.ofNat T, qt, cm, ds, dr) n).2.1 (tkn pF pL st (b, Int32.ofNat T, qt, cm, ds, dr) n).2.2.1 (tkn pF pL st (b, Int32.ofNat T, qt, cm, ds, dr) n).2.2.2.1 (tkn pF pL st (b, Int32.ofNat T, qt, cm, ds, dr) n).2.2.2.2.1 (tkn pF pL st (b, Int32.ofNat T, qt, cm, ds, dr) n).2.2.2.2.2 = some (tkn pF pL st (b, Int32.ofNat T, qt, cm, ds, dr) (n + 1)) := by
  obtain ⟨g, hg1, hg2⟩ := hS 0 (by omega)
  have hg : g < 5 := by have : zGm 0 = 4 := rfl; omega
  obtain ⟨b2, qt2, dr2, M, N, e, h1, h2, h3, h4⟩ := tkn_at (qt := qt) (cm := cm) (ds := ds) (dr := dr) hp hS hI n (by omega)
  obtain ⟨b3, dr3, M3, N3, k1, -⟩ := tk hp hS (show T + n + 1 < 2147483648 by omega) hg hg1 b2 qt2 (cm + Int32.ofNat M) (ds + Int32.ofNat N) dr2 h3
  obtain ⟨x, k⟩ : ∃ x, fX0_tick (tkn pF pL st (b, Int32.ofNat T, qt, cm, ds, dr) n).1 pF pL st (tkn pF pL st (b, Int32.ofNat T, qt, cm, ds, dr) n).2.1 (tkn pF pL st (b, Int32.ofNat T, qt, cm, ds, dr) n).2.2.1 (tkn pF pL st (b, Int32.ofNat T, qt, cm, ds, dr) n).2.2.2.1 (tkn pF pL st (b, Int32.ofNat T, qt, cm, ds, dr) n).2.2.2.2.1 (tkn pF pL st (b, Int32.ofNat T, qt, cm, ds, dr) n).2.2.2.2.2 = some x := by rw [e]; exact ⟨_, k1⟩
  rw [k, tkn_up k]
/-- the command that a tick begins with -/
theorem tkn_pc (hp : PV pF pL) (hS : SV st) (hI : IV b (Int32.ofNat T)) {g : Nat} (hg : g < 5) (hg1 : st 0 = Int32.ofNat g) {n : Nat} (hT : T + n + 1 < 2147483648) :
    (fX0_pieceOfTick (tkn pF pL st (b, Int32.ofNat T, qt, cm, ds, dr) n).1 pF pL st (tkn pF pL st (b, Int32.ofNat T, qt, cm, ds, dr) n).2.1 (tkn pF pL st (b, Int32.ofNat T, qt, cm, ds, dr) n).2.2.1 = some (-1) ∧ (tkn pF pL st (b, Int32.ofNat T, qt, cm, ds, dr) (n + 1)).2.2.2.1 = (tkn pF pL st (b, Int32.ofNat T, qt, cm, ds, dr) n).2.2.2.1 ∧ (tkn pF pL st (b, Int32.ofNat T, qt, cm, ds, dr) (n + 1)).1 = (tkn pF pL st (b, Int32.ofNat T, qt, cm, ds, dr) n).1) ∨
    ∃ s m M, s < 256 ∧ m ≤ 16 ∧ M ≤ 40 ∧ fX0_pieceOfTick (tkn pF pL st (b, Int32.ofNat T, qt, cm, ds, dr) n).1 pF pL st (tkn pF pL st (b, Int32.ofNat T, qt, cm, ds, dr) n).2.1 (tkn pF pL st (b, Int32.ofNat T, qt, cm, ds, dr) n).2.2.1 = some (Int32.ofNat s) ∧ fX0_granulesOfTick (tkn pF pL st (b, Int32.ofNat T, qt, cm, ds, dr) n).1 pF pL st (tkn pF pL st (b, Int32.ofNat T, qt, cm, ds, dr) n).2.2.1 (Int32.ofNat s) = some (Int32.ofNat m) ∧ 0 < m ∧ (s + m) * 2 ^ g ≤ 256 ∧ 0 < M ∧ (tkn pF pL st (b, Int32.ofNat T, qt, cm, ds, dr) (n + 1)).2.2.2.1 = (tkn pF pL st (b, Int32.ofNat T, qt, cm, ds, dr) n).2.2.2.1 + Int32.ofNat M ∧ ∀ j, s * 2 ^ g ≤ j → j < (s + m) * 2 ^ g → zq (tkn pF pL st (b, Int32.ofNat T, qt, cm, ds, dr) n).1 j = true ∧ (tkn pF pL st (b, Int32.ofNat T, qt, cm, ds, dr) (n + 1)).1 j = -1 := by
  obtain ⟨b2, qt2, dr2, M, N, e, h1, h2, h3, h4⟩ := tkn_at (qt := qt) (cm := cm) (ds := ds) (dr := dr) hp hS hI n (by omega)
  obtain ⟨b3, dr3, M3, N3, k1, k2, k3, k4, k5, k6⟩ := tk hp hS (show T + n + 1 < 2147483648 by omega) hg hg1 b2 qt2 (cm + Int32.ofNat M) (ds + Int32.ofNat N) dr2 h3
  have e2 := tkn_up (n := n) (pF := pF) (pL := pL) (st := st) (d := (b, Int32.ofNat T, qt, cm, ds, dr)) (by rw [e]; exact k1)
  rw [e2, e]
  rcases k6 with ⟨p1, rfl, rfl⟩ | ⟨s, m, q1, q2, q3, q4, q5, q6, q7, q8⟩
  · exact Or.inl ⟨p1, ad0 _, rfl⟩
  · exact Or.inr ⟨s, m, M3, q1, q2, k2, q3, q4, q5, q6, q7, rfl, q8⟩
theorem pt7 (hp : PV pF pL) (hS : SV st) (hI : IV b (Int32.ofNat T)) {n : Nat} (hn : n ≤ 1000) (hT : T + n < 2147483648) (ds0 : Int32) : ∀ m k f, k + m = n → m < f → fX0_passTicks_7 pF pL st f (Int32.ofNat n) ds0 (Int32.ofNat k) (tkn pF pL st (b, Int32.ofNat T, qt, cm, ds, dr) k).1 (tkn pF pL st (b, Int32.ofNat T, qt, cm, ds, dr) k).2.1 (tkn pF pL st (b, Int32.ofNat T, qt, cm, ds, dr) k).2.2.1 (tkn pF pL st (b, Int32.ofNat T, qt, cm, ds, dr) k).2.2.2.1 (tkn pF pL st (b, Int32.ofNat T, qt, cm, ds, dr) k).2.2.2.2.1 (tkn pF pL st (b, Int32.ofNat T, qt, cm, ds, dr) k).2.2.2.2.2 = some ((tkn pF pL st (b, Int32.ofNat T, qt, cm, ds, dr) n).2.2.2.2.1 - ds0, tkn pF pL st (b, Int32.ofNat T, qt, cm, ds, dr) n) := by
  intro m
  induction m with
  | zero =>
    intro k f hk hf
    obtain ⟨f, rfl⟩ := zfuel hf
    obtain rfl : k = n := by omega
    rw [fX0_passTicks_7, if_pos ((zN_le (by omega) (by omega)).mpr (Nat.le_refl _))]
  | succ m ih =>
    intro k f hk hf
    obtain ⟨f, rfl⟩ := zfuel hf
    rw [fX0_passTicks_7, if_neg (fun q => by have := (zN_le (by omega) (by omega)).mp q; omega), tkn_to hp hS hI (n := k) (by omega), zN_1]
    exact ih (k + 1) f (by omega) (by omega)
theorem pass (hp : PV pF pL) (hS : SV st) (hI : IV b (Int32.ofNat T)) {n : Nat} (hn : n ≤ 100) (hT : T + n < 2147483648) : fX0_passTicks b pF pL st (Int32.ofNat T) qt cm ds dr (Int32.ofNat n) = some ((tkn pF pL st (b, Int32.ofNat T, qt, cm, ds, dr) n).2.2.2.2.1 - ds, tkn pF pL st (b, Int32.ofNat T, qt, cm, ds, dr) n) :=
  pt7 (qt := qt) (cm := cm) (ds := ds) (dr := dr) hp hS hI (n := n) (by omega) hT ds n 0 1000 (by omega) (by omega)
/-- what comes next: nothing in a hundred ticks -/
theorem next_no (hp : PV pF pL) (hS : SV st) (hI : IV b (Int32.ofNat T)) (hT : T + 200 < 2147483648) (v : Int32) (hno : ∀ j, j < 100 → fX0_pieceOfTick (tkn pF pL st (b, Int32.ofNat T, qt, cm, ds, dr) j).1 pF pL st (tkn pF pL st (b, Int32.ofNat T, qt, cm, ds, dr) j).2.1 (tkn pF pL st (b, Int32.ofNat T, qt, cm, ds, dr) j).2.2.1 = some (-1)) : ∀ m k f, k + m = 100 → m < f → ∃ c1 c2 c3 c4 c5 c6 c7 c8 c9, fX3_next_32 f v (Int32.ofNat k) (tkn pF pL st (b, Int32.ofNat T, qt, cm, ds, dr) k).1 pF pL st (tkn pF pL st (b, Int32.ofNat T, qt, cm, ds, dr) k).2.1 (tkn pF pL st (b, Int32.ofNat T, qt, cm, ds, dr) k).2.2.1 (tkn pF pL st (b, Int32.ofNat T, qt, cm, ds, dr) k).2.2.2.1 (tkn pF pL st (b, Int32.ofNat T, qt, cm, ds, dr) k).2.2.2.2.1 (tkn pF pL st (b, Int32.ofNat T, qt, cm, ds, dr) k).2.2.2.2.2 = some (0, -1, c1, c2, c3, c4, c5, c6, c7, c8, c9) := by
  intro m
  induction m with
  | zero =>
    intro k f hk hf
    obtain ⟨f, rfl⟩ := zfuel hf
    obtain rfl : k = 100 := by omega
    rw [fX3_next_32, if_pos (show (100 : Int32) ≤ Int32.ofNat 100 by decide)]
    exact ⟨_, _, _, _, _, _, _, _, _, rfl⟩
  | succ m ih =>
    intro k f hk hf
    obtain ⟨f, rfl⟩ := zfuel hf
    rw [fX3_next_32, if_neg (show ¬ (100 : Int32) ≤ Int32.ofNat k from fun q => by have := (zN_le (a := 100) (by omega) (by omega)).mp q; omega), hno k (by omega), ob_some, if_pos rfl, tkn_to hp hS hI (n := k) (by omega), zN_1]
    exact ih (k + 1) f (by omega) (by omega)
/-- what comes next: the command of the tick j -/
theorem next_at (hp : PV pF pL) (hS : SV st) (hI : IV b (Int32.ofNat T)) (hT : T + 200 < 2147483648) (v : Int32) {j : Nat} (hj : j < 100) {x : Int32} (hx : ¬ x = -1) {r : Int32} (hno : ∀ i, i < j → fX0_pieceOfTick (tkn pF pL st (b, Int32.ofNat T, qt, cm, ds, dr) i).1 pF pL st (tkn pF pL st (b, Int32.ofNat T, qt, cm, ds, dr) i).2.1 (tkn pF pL st (b, Int32.ofNat T, qt, cm, ds, dr) i).2.2.1 = some (-1)) (hat : fX0_pieceOfTick (tkn pF pL st (b, Int32.ofNat T, qt, cm, ds, dr) j).1 pF pL st (tkn pF pL st (b, Int32.ofNat T, qt, cm, ds, dr) j).2.1 (tkn pF pL st (b, Int32.ofNat T, qt, cm, ds, dr) j).2.2.1 = some x) (hr : fX3_ofCommand (tkn pF pL st (b, Int32.ofNat T, qt, cm, ds, dr) j).1 pF pL st (tkn pF pL st (b, Int32.ofNat T, qt, cm, ds, dr) j).2.1 (tkn pF pL st (b, Int32.ofNat T, qt, cm, ds, dr) j).2.2.1 x v = some r) : ∀ m k f, k + m = j → m < f → ∃ c1 c2 c3 c4 c5 c6 c7 c8 c9, fX3_next_32 f v (Int32.ofNat k) (tkn pF pL st (b, Int32.ofNat T, qt, cm, ds, dr) k).1 pF pL st (tkn pF pL st (b, Int32.ofNat T, qt, cm, ds, dr) k).2.1 (tkn pF pL st (b, Int32.ofNat T, qt, cm, ds, dr) k).2.2.1 (tkn pF pL st (b, Int32.ofNat T, qt, cm, ds, dr) k).2.2.2.1 (tkn pF pL st (b, Int32.ofNat T, qt, cm, ds, dr) k).2.2.2.2.1 (tkn pF pL st (b, Int32.ofNat T, qt, cm, ds, dr) k).2.2.2.2.2 = some (0, r, c1, c2, c3, c4, c5, c6, c7, c8, c9) := by
  intro m
  induction m with
  | zero =>
    intro k f hk hf
    obtain ⟨f, rfl⟩ := zfuel hf
    obtain rfl : k = j := by omega
    rw [fX3_next_32, if_neg (show ¬ (100 : Int32) ≤ Int32.ofNat k from fun q => by have := (zN_le (a := 100) (by omega) (by omega)).mp q; omega), hat, ob_some, if_neg hx, hr, ob_some]
    exact ⟨_, _, _, _, _, _, _, _, _, rfl⟩
  | succ m ih =>
    intro k f hk hf
    obtain ⟨f, rfl⟩ := zfuel hf
    rw [fX3_next_32, if_neg (show ¬ (100 : Int32) ≤ Int32.ofNat k from fun q => by have := (zN_le (a := 100) (by omega) (by omega)).mp q; omega), hno k (by omega), ob_some, if_pos rfl, tkn_to hp hS hI (n := k) (by omega), zN_1]
    exact ih (k + 1) f (by omega) (by omega)
theorem held_ (b : Nat → Int32) {j : Nat} (hj : j < 256) : fX0_isHeld b (Int32.ofNat j) = some (if b j = -1 then 0 else 1) := by
  unfold fX0_isHeld
  rw [if_neg (zi256 hj), zk256 hj]
  by_cases c : b j = -1
  · rw [if_pos c, if_pos c]
  · rw [if_neg c, if_neg c]
theorem queued_ (b : Nat → Int32) {j : Nat} (hj : j < 256) : fX0_isQueued b (Int32.ofNat j) = some (bi (zq b j)) := by
  unfold fX0_isQueued
  rw [if_neg (zi256 hj), zk256 hj]
  by_cases c : b j < 0
  · rw [if_pos c, zq_f c]; rfl
  · rw [if_neg c, zq_t hj c]; rfl
theorem gone_end (T0 : Int32) {x : Nat} (hx : x < 256) (f : Nat) (k : Int32) (d : dV) (hk : ¬ 100 ≤ k) (hq : zq d.1 x = false) : ∃ c1 c2 c3 c4 c5 c6 c7 c8 c9, fX3_goneIn_17 T0 (f + 1) (Int32.ofNat x) k d.1 pF pL st d.2.1 d.2.2.1 d.2.2.2.1 d.2.2.2.2.1 d.2.2.2.2.2 = some (0, if d.1 x = -1 then d.2.1 - T0 else -1, c1, c2, c3, c4, c5, c6, c7, c8, c9) := by
  rw [fX3_goneIn_17, if_neg hk, queued_ _ hx, hq, ob_some, if_pos (show bi false = 0 from rfl), held_ _ hx, ob_some]
  by_cases c : d.1 x = -1
  · rw [if_pos c, if_pos rfl, if_pos c]
    exact ⟨_, _, _, _, _, _, _, _, _, rfl⟩
  · rw [if_neg c, if_neg n10, if_neg c]
    exact ⟨_, _, _, _, _, _, _, _, _, rfl⟩
/-- gone with the tick j -/
theorem gone_at (hp : PV pF pL) (hS : SV st) (hI : IV b (Int32.ofNat T)) (hT : T + 200 < 2147483648) {x : Nat} (hx : x < 256) {j : Nat} (hj : j < 100) (hq : ∀ i, i ≤ j → zq (tkn pF pL st (b, Int32.ofNat T, qt, cm, ds, dr) i).1 x = true) (he : (tkn pF pL st (b, Int32.ofNat T, qt, cm, ds, dr) (j + 1)).1 x = -1) : ∀ m k f, k + m = j + 1 → m < f → ∃ c1 c2 c3 c4 c5 c6 c7 c8 c9, fX3_goneIn_17 (Int32.ofNat T) f (Int32.ofNat x) (Int32.ofNat k) (tkn pF pL st (b, Int32.ofNat T, qt, cm, ds, dr) k).1 pF pL st (tkn pF pL st (b, Int32.ofNat T, qt, cm, ds, dr) k).2.1 (tkn pF pL st (b, Int32.ofNat T, qt, cm, ds, dr) k).2.2.1 (tkn pF pL st (b, Int32.ofNat T, qt, cm, ds, dr) k).2.2.2.1 (tkn pF pL st (b, Int32.ofNat T, qt, cm, ds, dr) k).2.2.2.2.1 (tkn pF pL st (b, Int32.ofNat T, qt, cm, ds, dr) k).2.2.2.2.2 = some (0, Int32.ofNat (j + 1), c1, c2, c3, c4, c5, c6, c7, c8, c9) := by
  intro m
  induction m with
  | zero =>
    intro k f hk hf
    obtain ⟨f, rfl⟩ := zfuel hf
    obtain rfl : k = j + 1 := by omega
    obtain ⟨b2, qt2, dr2, M, N, e, h1, h2, h3, h4⟩ := tkn_at (qt := qt) (cm := cm) (ds := ds) (dr := dr) hp hS hI (j + 1) (by omega)
    have hm1 : zq (tkn pF pL st (b, Int32.ofNat T, qt, cm, ds, dr) (j + 1)).1 x = false := zq_f (by rw [he]; exact m1_neg)
    by_cases h100 : j + 1 = 100
    · rw [h100] at he e ⊢
      rw [fX3_goneIn_17, if_pos (show (100 : Int32) ≤ Int32.ofNat 100 by decide), held_ _ hx, ob_some, if_pos he, if_pos rfl]
      unfold fX0_time
      rw [ob_some, ob_some, show (tkn pF pL st (b, Int32.ofNat T, qt, cm, ds, dr) 100).2.1 - Int32.ofNat T = Int32.ofNat 100 by rw [e]; show Int32.ofNat (T + 100) - Int32.ofNat T = _; rw [zN_sub (by omega), show T + 100 - T = 100 by omega]]
      exact ⟨_, _, _, _, _, _, _, _, _, rfl⟩
    · obtain ⟨c1, c2, c3, c4, c5, c6, c7, c8, c9, g⟩ := gone_end (pF := pF) (pL := pL) (st := st) (Int32.ofNat T) hx f (Int32.ofNat (j + 1)) (tkn pF pL st (b, Int32.ofNat T, qt, cm, ds, dr) (j + 1)) (fun q => by have := (zN_le (a := 100) (by omega) (by omega)).mp q; omega) hm1
      rw [if_pos he, show (tkn pF pL st (b, Int32.ofNat T, qt, cm, ds, dr) (j + 1)).2.1 - Int32.ofNat T = Int32.ofNat (j + 1) by rw [e]; show Int32.ofNat (T + (j + 1)) - Int32.ofNat T = _; rw [zN_sub (by omega), show T + (j + 1) - T = j + 1 by omega]] at g
      exact ⟨_, _, _, _, _, _, _, _, _, g⟩
  | succ m ih =>
    intro k f hk hf
    obtain ⟨f, rfl⟩ := zfuel hf
    rw [fX3_goneIn_17, if_neg (show ¬ (100 : Int32) ≤ Int32.ofNat k from fun q => by have := (zN_le (a := 100) (by omega) (by omega)).mp q; omega), queued_ _ hx, hq k (by omega), ob_some, if_neg (show ¬ bi true = 0 from n10), tkn_to hp hS hI (n := k) (by omega), zN_1]
    exact ih (k + 1) f (by omega) (by omega)
/-- what is queued isn't gone in no tick -/
theorem gone_not0 (hp : PV pF pL) (hS : SV st) (hI : IV b (Int32.ofNat T)) (hT : T + 200 < 2147483648) {x : Nat} (hx : x < 256) : ∀ m k f, k + m = 100 → m < f → (k = 0 → zq b x = true) → ∃ a c1 c2 c3 c4 c5 c6 c7 c8 c9, fX3_goneIn_17 (Int32.ofNat T) f (Int32.ofNat x) (Int32.ofNat k) (tkn pF pL st (b, Int32.ofNat T, qt, cm, ds, dr) k).1 pF pL st (tkn pF pL st (b, Int32.ofNat T, qt, cm, ds, dr) k).2.1 (tkn pF pL st (b, Int32.ofNat T, qt, cm, ds, dr) k).2.2.1 (tkn pF pL st (b, Int32.ofNat T, qt, cm, ds, dr) k).2.2.2.1 (tkn pF pL st (b, Int32.ofNat T, qt, cm, ds, dr) k).2.2.2.2.1 (tkn pF pL st (b, Int32.ofNat T, qt, cm, ds, dr) k).2.2.2.2.2 = some (0, a, c1, c2, c3, c4, c5, c6, c7, c8, c9) ∧ ¬ a = 0 := by
  have nz : ∀ k : Nat, 0 < k → k ≤ 100 → ¬ Int32.ofNat (T + k) - Int32.ofNat T = 0 := fun k h0 h1 => by
    rw [zN_sub (by omega), show T + k - T = k by omega]
    exact nofne (c := 0) (by omega) (by omega) (by omega)
  intro m
  induction m with
  | zero =>
    intro k f hk hf h0
    obtain ⟨f, rfl⟩ := zfuel hf
    obtain rfl : k = 100 := by omega
    obtain ⟨b2, qt2, dr2, M, N, e, h1, h2, h3, h4⟩ := tkn_at (qt := qt) (cm := cm) (ds := ds) (dr := dr) hp hS hI 100 (by omega)
    rw [fX3_goneIn_17, if_pos (show (100 : Int32) ≤ Int32.ofNat 100 by decide), held_ _ hx, ob_some]
    by_cases c : (tkn pF pL st (b, Int32.ofNat T, qt, cm, ds, dr) 100).1 x = -1
    · rw [if_pos c, if_pos rfl]
      exact ⟨_, _, _, _, _, _, _, _, _, _, rfl, by rw [e]; exact nz 100 (by omega) (by omega)⟩
    · rw [if_neg c, if_neg n10]
      exact ⟨_, _, _, _, _, _, _, _, _, _, rfl, by decide⟩
  | succ m ih =>
    intro k f hk hf h0
    obtain ⟨f, rfl⟩ := zfuel hf
    have h100 : ¬ (100 : Int32) ≤ Int32.ofNat k := fun q => by have := (zN_le (a := 100) (by omega) (by omega)).mp q; omega
    cases hq : zq (tkn pF pL st (b, Int32.ofNat T, qt, cm, ds, dr) k).1 x with
    | false =>
      obtain ⟨b2, qt2, dr2, M, N, e, -⟩ := tkn_at (qt := qt) (cm := cm) (ds := ds) (dr := dr) hp hS hI k (by omega)
      obtain ⟨c1, c2, c3, c4, c5, c6, c7, c8, c9, g⟩ := gone_end (pF := pF) (pL := pL) (st := st) (Int32.ofNat T) hx f (Int32.ofNat k) (tkn pF pL st (b, Int32.ofNat T, qt, cm, ds, dr) k) h100 hq
      refine ⟨_, _, _, _, _, _, _, _, _, _, g, ?_⟩
      by_cases c : (tkn pF pL st (b, Int32.ofNat T, qt, cm, ds, dr) k).1 x = -1
      · rw [if_pos c, e]
        have hk0 : 0 < k := by
          rcases Nat.eq_zero_or_pos k with rfl | h
          · have h1 : zq b x = false := hq
            rw [h0 rfl] at h1; cases h1
          · exact h
        exact nz k hk0 (by omega)
      · rw [if_neg c]; decide
    | true =>
      rw [fX3_goneIn_17, if_neg h100, queued_ _ hx, hq, ob_some, if_neg (show ¬ bi true = 0 from n10), tkn_to hp hS hI (n := k) (by omega), zN_1]
      exact ih (k + 1) f (by omega) (by omega) (fun q => absurd q (Nat.succ_ne_zero _))
end TKN
