/-! what holds: the numbers, the command that comes, what is gone with it -/
section HT
variable {v : zXS} {b pF pL st : Nat → Int32} {T : Nat} {qt cm ds dr : Int32}
theorem h_nums (hd : zDev v = (b, pF, pL, st, Int32.ofNat T, qt, cm, ds, dr)) (hp : PV pF pL) (hS : SV st) {g : Nat} (hg : g < 5) (hg1 : st 0 = Int32.ofNat g) (x : Int32) :
    fL_holds_424 x (Int32.ofNat (cn (bg (zq b)) 256)) (Int32.ofNat (cn (pA b) 256)) (Int32.ofNat (cn (pH b) 256)) (Int32.ofNat (cn (zq b) 256)) (Int32.ofNat (cn (pZ b) 256)) (Int32.ofNat (cn (pn pF pL) 256)) (Int32.ofNat (cn (bg (zq b)) 256)) 1 (Int32.ofNat (cn (zq b) 256)) (Int32.ofNat (cn (fr (zq b) (pn pF pL) (2 ^ g)) (256 / 2 ^ g))) v = fL_holds_535 x 1 v := by
  have hc := cn_le (fr (zq b) (pn pF pL) (2 ^ g)) (256 / 2 ^ g)
  have hN : 256 / 2 ^ g ≤ 256 := Nat.div_le_self _ _
  unfold fL_holds_424
  rw [if_neg n10, if_pos rfl, hv_about hd va_0 0 0, ob2_some, if_pos rfl, hv_about hd va_1 0 0, ob2_some, if_pos rfl, hv_about hd va_3 0 0, ob2_some, if_pos rfl, if_pos rfl, hv_about hd (va_9 hp) 0 0, ob2_some, if_pos rfl, hv_about hd va_10 0 0, ob2_some, if_pos rfl, hv_stuck hd (v_stuck hp hg hg1), ob_some, hv_setting hd (show fX3_setting st 0 = some (0, st 0) from vs_0 hS (k := 0) (by omega)) 0 0, ob2_some, if_pos (by rw [hg1, zshl g hg _ (by omega)])]
theorem least (P : Nat → Prop) [∀ j, Decidable (P j)] : ∀ n, (∀ j, j < n → P j) ∨ ∃ j, j < n ∧ ¬ P j ∧ ∀ i, i < j → P i
  | 0 => Or.inl fun j h => absurd h (Nat.not_lt_zero _)
  | n + 1 => by
    rcases least P n with h | ⟨j, h1, h2, h3⟩
    · by_cases c : P n
      · exact Or.inl fun j hj => by
          by_cases e : j = n
          · rw [e]; exact c
          · exact h j (by omega)
      · exact Or.inr ⟨n, by omega, c, h⟩
    · exact Or.inr ⟨j, by omega, h2, h3⟩
theorem nx_self (v : Int32) (h1 : ¬ v < 0) (h2 : v ≤ 2) : fX3_next b pF pL st (Int32.ofNat T) qt cm ds dr b pF pL st (Int32.ofNat T) qt cm ds dr v = fX3_next_32 1000 v 0 b pF pL st (Int32.ofNat T) qt cm ds dr := by
  unfold fX3_next fX0_copyFrom
  rw [if_neg h1, if_pos h2, ob9_some, cpy_self, cpy_self, cpy_self, cpy_self]
theorem go_self {x : Nat} (hx : x < 256) : fX3_goneIn b pF pL st (Int32.ofNat T) qt cm ds dr b pF pL st (Int32.ofNat T) qt cm ds dr (Int32.ofNat x) = fX3_goneIn_17 (Int32.ofNat T) 1000 (Int32.ofNat x) 0 b pF pL st (Int32.ofNat T) qt cm ds dr := by
  unfold fX3_goneIn fX0_copyFrom
  rw [chk_block hx, ob_some, if_pos rfl, ob9_some, cpy_self, cpy_self, cpy_self, cpy_self]
theorem co_self (hp : PV pF pL) (hS : SV st) (hI : IV b (Int32.ofNat T)) {n : Nat} (h0 : 1 ≤ n) (hn : n ≤ 100) (hT : T + n < 2147483648) {w : Int32} (h1 : ¬ w < 0) (h2 : w ≤ 3) : fX3_coming b pF pL st (Int32.ofNat T) qt cm ds dr b pF pL st (Int32.ofNat T) qt cm ds dr (Int32.ofNat n) w = if w = 0 then some (0, (tkn pF pL st (b, Int32.ofNat T, qt, cm, ds, dr) n).2.2.2.2.1 - ds, (tkn pF pL st (b, Int32.ofNat T, qt, cm, ds, dr) n).1, pF, pL, st, (tkn pF pL st (b, Int32.ofNat T, qt, cm, ds, dr) n).2) else if w = 1 then some (0, (tkn pF pL st (b, Int32.ofNat T, qt, cm, ds, dr) n).2.2.2.1 - cm, (tkn pF pL st (b, Int32.ofNat T, qt, cm, ds, dr) n).1, pF, pL, st, (tkn pF pL st (b, Int32.ofNat T, qt, cm, ds, dr) n).2) else if w = 2 then some (0, Int32.ofNat (cn (bg (zq (tkn pF pL st (b, Int32.ofNat T, qt, cm, ds, dr) n).1)) 256), (tkn pF pL st (b, Int32.ofNat T, qt, cm, ds, dr) n).1, pF, pL, st, (tkn pF pL st (b, Int32.ofNat T, qt, cm, ds, dr) n).2) else some (0, Int32.ofNat (cn (zq (tkn pF pL st (b, Int32.ofNat T, qt, cm, ds, dr) n).1) 256), (tkn pF pL st (b, Int32.ofNat T, qt, cm, ds, dr) n).1, pF, pL, st, (tkn pF pL st (b, Int32.ofNat T, qt, cm, ds, dr) n).2) := by
  unfold fX3_coming fX0_copyFrom
  rw [cx_checkTicks, if_pos ⟨by rw [zN_toInt (by omega)]; omega, by rw [zN_toInt (by omega), i100]; omega⟩, ob_some, if_pos rfl, if_neg h1, if_pos h2, ob9_some, cpy_self, cpy_self, cpy_self, cpy_self, pass hp hS hI hn hT]
  show (if w = 0 then _ else if w = 1 then ob (fX0_commands _) _ else if w = 2 then ob (fX0_countRanges (tkn pF pL st (b, Int32.ofNat T, qt, cm, ds, dr) n).1) _ else ob (fX0_countQueued (tkn pF pL st (b, Int32.ofNat T, qt, cm, ds, dr) n).1) _) = _
  rw [fx_countRanges, fx_countQueued]
  rfl
/-- no command in a hundred ticks -/
theorem quiet_at (hp : PV pF pL) (hS : SV st) (hI : IV b (Int32.ofNat T)) (hT : T + 200 < 2147483648) {n : Nat} (hn : n ≤ 100) (hno : ∀ j, j < n → fX0_pieceOfTick (tkn pF pL st (b, Int32.ofNat T, qt, cm, ds, dr) j).1 pF pL st (tkn pF pL st (b, Int32.ofNat T, qt, cm, ds, dr) j).2.1 (tkn pF pL st (b, Int32.ofNat T, qt, cm, ds, dr) j).2.2.1 = some (-1)) : ∀ j, j ≤ n → (tkn pF pL st (b, Int32.ofNat T, qt, cm, ds, dr) j).1 = b ∧ (tkn pF pL st (b, Int32.ofNat T, qt, cm, ds, dr) j).2.2.2.1 = cm := by
  obtain ⟨g, hg1, hg2⟩ := hS 0 (by omega)
  have hg : g < 5 := by have : zGm 0 = 4 := rfl; omega
  intro j
  induction j with
  | zero => intro _; exact ⟨rfl, rfl⟩
  | succ j ih =>
    intro hj
    obtain ⟨h1, h2⟩ := ih (by omega)
    rcases tkn_pc (qt := qt) (cm := cm) (ds := ds) (dr := dr) hp hS hI hg hg1 (n := j) (by omega) with ⟨-, h3, h4⟩ | ⟨s, m, M, hs, -, -, h3, -⟩
    · exact ⟨by rw [h4, h1], by rw [h3, h2]⟩
    · rw [hno j (by omega)] at h3
      exact absurd (Option.some.inj h3).symm (zN_m (by omega))
/-- the end, once what comes next is told -/
theorem h_765 (hd : zDev v = (b, pF, pL, st, Int32.ofNat T, qt, cm, ds, dr)) {nw : Nat → Int32} {B : Nat} (hZ : ZD b pF pL st (Int32.ofNat T) qt cm ds dr nw B) (hB : B + 200 < 2147483647) (hT : T + 300 < 2147483648) (hp : PV pF pL) (hS : SV st) (hI : IV b (Int32.ofNat T)) {X : Nat} (hX : X < 2147483648) : ∃ c, fL_holds_765 (Int32.ofNat X) 1 v = some (1, wC v c) := by
  have hx : X % 256 < 256 := Nat.mod_lt _ (by omega)
  have er : irem (Int32.ofNat X) 256 = Int32.ofNat (X % 256) := zN_rem (a := X) (c := 256) hX (by omega)
  unfold fL_holds_765
  rw [if_neg n10, er]
  generalize X % 256 = x at hx
  cases hq : zq b x with
  | true =>
    have h1 : ¬ b x = -1 := fun q => zq_nn hq (by rw [q]; exact m1_neg)
    obtain ⟨a, c1, c2, c3, c4, c5, c6, c7, c8, c9, e, ha⟩ := gone_not0 (qt := qt) (cm := cm) (ds := ds) (dr := dr) hp hS hI (by omega) hx 100 0 1000 (by omega) (by omega) (fun _ => hq)
    obtain ⟨c, e2⟩ := hv_goneIn hd hZ hB ⟨c1, c2, c3, c4, c5, c6, c7, c8, c9, (go_self hx).trans e⟩ 0 0
    have hd2 : zDev (wC v c) = (b, pF, pL, st, Int32.ofNat T, qt, cm, ds, dr) := hd
    rw [e2, ob2_some, if_neg ha]
    unfold fL_holds_797
    rw [hv_block hd2 (vb_1 hx) 0, ob2_some, decide_eq_false h1, if_neg (show ¬ bi (!false) = 0 by decide)]
    unfold fL_holds_814
    rw [if_pos rfl, hv_block hd2 (vb_2 hx) 0, ob2_some, if_neg (by
      unfold rv
      rw [if_pos hq]
      have := cn_le (bg (zq b)) (x + 1)
      exact zN_m (by omega))]
    exact ⟨c, rfl⟩
  | false =>
    obtain ⟨c1, c2, c3, c4, c5, c6, c7, c8, c9, e⟩ := gone_end (pF := pF) (pL := pL) (st := st) (Int32.ofNat T) hx 999 0 (b, Int32.ofNat T, qt, cm, ds, dr) (by decide) hq
    obtain ⟨c, e2⟩ := hv_goneIn hd hZ hB ⟨c1, c2, c3, c4, c5, c6, c7, c8, c9, (go_self hx).trans e⟩ 0 0
    have hd2 : zDev (wC v c) = (b, pF, pL, st, Int32.ofNat T, qt, cm, ds, dr) := hd
    have hrv : rv (zq b) x = -1 := if_neg (by rw [hq]; exact Bool.false_ne_true)
    by_cases h1 : b x = -1
    · rw [show (if (b, Int32.ofNat T, qt, cm, ds, dr).1 x = -1 then (b, Int32.ofNat T, qt, cm, ds, dr).2.1 - Int32.ofNat T else -1) = (0 : Int32) from (if_pos h1).trans (Int32.sub_self _)] at e2
      rw [e2, ob2_some, if_pos rfl]
      unfold fL_holds_797
      rw [hv_block hd2 (vb_1 hx) 0, ob2_some, decide_eq_true h1, if_pos (show bi (!true) = 0 from rfl)]
      unfold fL_holds_814
      rw [if_pos rfl, hv_block hd2 (vb_2 hx) 0, ob2_some, if_pos hrv, hv_block hd2 (vb_1 hx) 0, ob2_some, decide_eq_true h1, if_pos (show bi (!true) = 0 from rfl)]
      exact ⟨c, rfl⟩
    · rw [show (if (b, Int32.ofNat T, qt, cm, ds, dr).1 x = -1 then (b, Int32.ofNat T, qt, cm, ds, dr).2.1 - Int32.ofNat T else -1) = (-1 : Int32) from if_neg h1] at e e2
      obtain ⟨c', e3⟩ := hv_goneIn hd2 hZ hB ⟨c1, c2, c3, c4, c5, c6, c7, c8, c9, (go_self hx).trans e⟩ 0 0
      rw [e2, ob2_some, if_neg (show ¬ (-1 : Int32) = 0 by decide)]
      unfold fL_holds_797
      rw [hv_block hd2 (vb_1 hx) 0, ob2_some, decide_eq_false h1, if_neg (show ¬ bi (!false) = 0 by decide)]
      unfold fL_holds_814
      rw [if_pos rfl, hv_block hd2 (vb_2 hx) 0, ob2_some, if_pos hrv, hv_block hd2 (vb_1 hx) 0, ob2_some, decide_eq_false h1, if_neg (show ¬ bi (!false) = 0 by decide), e3, ob2_some, if_pos rfl]
      exact ⟨c', rfl⟩
set_option maxHeartbeats 1000000 in
theorem h_next (hd : zDev v = (b, pF, pL, st, Int32.ofNat T, qt, cm, ds, dr)) {nw : Nat → Int32} {B : Nat} (hZ : ZD b pF pL st (Int32.ofNat T) qt cm ds dr nw B) (hB : B + 200 < 2147483647) (hT : T + 300 < 2147483648) (hp : PV pF pL) (hS : SV st) (hI : IV b (Int32.ofNat T)) {X : Nat} (hX : X < 2147483648) : ∃ c, fL_holds_535 (Int32.ofNat X) 1 v = some (1, wC v c) := by
  obtain ⟨g, hg1, hg2⟩ := hS 0 (by omega)
  have hg : g < 5 := by have : zGm 0 = 4 := rfl; omega
  have hG := zG_pos g
  have hG2 := zG_le g hg
  unfold fL_holds_535
  rcases least (fun j => fX0_pieceOfTick (tkn pF pL st (b, Int32.ofNat T, qt, cm, ds, dr) j).1 pF pL st (tkn pF pL st (b, Int32.ofNat T, qt, cm, ds, dr) j).2.1 (tkn pF pL st (b, Int32.ofNat T, qt, cm, ds, dr) j).2.2.1 = some (-1)) 100 with hno | ⟨j, hj, hat, hno⟩
  · -- nothing comes
    have nx : ∀ w : Int32, ¬ w < 0 → w ≤ 2 → ∃ c1 c2 c3 c4 c5 c6 c7 c8 c9, fX3_next b pF pL st (Int32.ofNat T) qt cm ds dr b pF pL st (Int32.ofNat T) qt cm ds dr w = some (0, -1, c1, c2, c3, c4, c5, c6, c7, c8, c9) := fun w h1 h2 => by
      obtain ⟨c1, c2, c3, c4, c5, c6, c7, c8, c9, e⟩ := next_no (qt := qt) (cm := cm) (ds := ds) (dr := dr) hp hS hI (by omega) w hno 100 0 1000 (by omega) (by omega)
      exact ⟨c1, c2, c3, c4, c5, c6, c7, c8, c9, (nx_self w h1 h2).trans e⟩
    obtain ⟨c0, e0⟩ := hv_next hd hZ hB (nx 0 (by decide) (by decide)) 0 0
    have hd0 : zDev (wC v c0) = (b, pF, pL, st, Int32.ofNat T, qt, cm, ds, dr) := hd
    obtain ⟨c2, e2⟩ := hv_next hd0 hZ hB (nx 2 (by decide) (by decide)) 0 0
    have hd2 : zDev (wC (wC v c0) c2) = (b, pF, pL, st, Int32.ofNat T, qt, cm, ds, dr) := hd
    obtain ⟨c1, e1⟩ := hv_next hd2 hZ hB (nx 1 (by decide) (by decide)) 0 0
    have hd1 : zDev (wC (wC (wC v c0) c2) c1) = (b, pF, pL, st, Int32.ofNat T, qt, cm, ds, dr) := hd
    obtain ⟨q1, q2⟩ := quiet_at (qt := qt) (cm := cm) (ds := ds) (dr := dr) hp hS hI (by omega) (Nat.le_refl 100) hno 100 (Nat.le_refl _)
    obtain ⟨c5, e5⟩ := hv_coming hd1 hZ hB (a2 := 100) (a3 := 1) (r := 0) ⟨_, _, _, _, _, _, _, _, _, (co_self (n := 100) hp hS hI (by omega) (by omega) (by omega) (by decide) (by decide)).trans (by rw [if_neg (by decide), if_pos rfl, q2, Int32.sub_self])⟩ 0
    have hd5 : zDev (wC (wC (wC (wC v c0) c2) c1) c5) = (b, pF, pL, st, Int32.ofNat T, qt, cm, ds, dr) := hd
    rw [e0, ob2_some, e2, ob2_some, e1, ob2_some, hv_about hd1 va_4 0 0, ob2_some, if_neg n10, if_pos rfl]
    unfold fL_holds_596
    rw [if_pos rfl]
    unfold fL_holds_607
    rw [if_pos rfl, if_pos rfl]
    unfold fL_holds_621
    rw [if_pos rfl]
    unfold fL_holds_632
    rw [if_pos rfl, if_pos rfl, e5, ob2_some, if_pos rfl]
    unfold fL_holds_760
    obtain ⟨c, e⟩ := h_765 hd5 hZ hB hT hp hS hI hX
    exact ⟨c, e⟩
  · -- the command of the tick j
    obtain ⟨q1, q2⟩ := quiet_at (qt := qt) (cm := cm) (ds := ds) (dr := dr) hp hS hI (by omega) (n := j) (by omega) hno j (Nat.le_refl _)
    rcases tkn_pc (qt := qt) (cm := cm) (ds := ds) (dr := dr) hp hS hI hg hg1 (n := j) (by omega) with ⟨h3, -⟩ | ⟨s, m, M, hs, hm, hM, p1, p2, p3, p4, p5, p6, p7⟩
    · exact absurd h3 hat
    · obtain ⟨b2, qt2, dr2, M2, N2, ej, -⟩ := tkn_at (qt := qt) (cm := cm) (ds := ds) (dr := dr) hp hS hI j (by omega)
      have etm : (tkn pF pL st (b, Int32.ofNat T, qt, cm, ds, dr) j).2.1 = Int32.ofNat (T + j) := by rw [ej]
      have hsm : s * 2 ^ g + m * 2 ^ g ≤ 256 := by rw [← Nat.add_mul]; exact p4
      have hm0 : 0 < m * 2 ^ g := Nat.mul_pos p3 hG
      have hxs : ¬ Int32.ofNat s = -1 := zN_m (by omega)
      have nx : ∀ (w r : Int32), ¬ w < 0 → w ≤ 2 → fX3_ofCommand (tkn pF pL st (b, Int32.ofNat T, qt, cm, ds, dr) j).1 pF pL st (tkn pF pL st (b, Int32.ofNat T, qt, cm, ds, dr) j).2.1 (tkn pF pL st (b, Int32.ofNat T, qt, cm, ds, dr) j).2.2.1 (Int32.ofNat s) w = some r → ∃ c1 c2 c3 c4 c5 c6 c7 c8 c9, fX3_next b pF pL st (Int32.ofNat T) qt cm ds dr b pF pL st (Int32.ofNat T) qt cm ds dr w = some (0, r, c1, c2, c3, c4, c5, c6, c7, c8, c9) := fun w r h1 h2 h3 => by
        obtain ⟨c1, c2, c3, c4, c5, c6, c7, c8, c9, e⟩ := next_at (qt := qt) (cm := cm) (ds := ds) (dr := dr) hp hS hI (by omega) w hj hxs hno p1 h3 j 0 1000 (by omega) (by omega)
        exact ⟨c1, c2, c3, c4, c5, c6, c7, c8, c9, (nx_self w h1 h2).trans e⟩
      have o0 : fX3_ofCommand (tkn pF pL st (b, Int32.ofNat T, qt, cm, ds, dr) j).1 pF pL st (tkn pF pL st (b, Int32.ofNat T, qt, cm, ds, dr) j).2.1 (tkn pF pL st (b, Int32.ofNat T, qt, cm, ds, dr) j).2.2.1 (Int32.ofNat s) 0 = some (Int32.ofNat (s * 2 ^ g)) := by
        unfold fX3_ofCommand
        rw [if_pos rfl, fx_granule hg hg1, ob_some, zN_mul]
      have o1 : fX3_ofCommand (tkn pF pL st (b, Int32.ofNat T, qt, cm, ds, dr) j).1 pF pL st (tkn pF pL st (b, Int32.ofNat T, qt, cm, ds, dr) j).2.1 (tkn pF pL st (b, Int32.ofNat T, qt, cm, ds, dr) j).2.2.1 (Int32.ofNat s) 1 = some (Int32.ofNat (m * 2 ^ g)) := by
        unfold fX3_ofCommand
        rw [if_neg (by decide), if_pos rfl, p2, ob_some, fx_granule hg hg1, ob_some, zN_mul]
      have o2 : fX3_ofCommand (tkn pF pL st (b, Int32.ofNat T, qt, cm, ds, dr) j).1 pF pL st (tkn pF pL st (b, Int32.ofNat T, qt, cm, ds, dr) j).2.1 (tkn pF pL st (b, Int32.ofNat T, qt, cm, ds, dr) j).2.2.1 (Int32.ofNat s) 2 = some (Int32.ofNat (T + j)) := by
        unfold fX3_ofCommand fX0_time
        rw [if_neg (by decide), if_neg (by decide), ob_some, etm]
      obtain ⟨c0, e0⟩ := hv_next hd hZ hB (nx 0 _ (by decide) (by decide) o0) 0 0
      have hd0 : zDev (wC v c0) = (b, pF, pL, st, Int32.ofNat T, qt, cm, ds, dr) := hd
      obtain ⟨c2, e2⟩ := hv_next hd0 hZ hB (nx 2 _ (by decide) (by decide) o2) 0 0
      have hd2 : zDev (wC (wC v c0) c2) = (b, pF, pL, st, Int32.ofNat T, qt, cm, ds, dr) := hd
      obtain ⟨c1, e1⟩ := hv_next hd2 hZ hB (nx 1 _ (by decide) (by decide) o1) 0 0
      have hd1 : zDev (wC (wC (wC v c0) c2) c1) = (b, pF, pL, st, Int32.ofNat T, qt, cm, ds, dr) := hd
      -- gone with it
      have gn : ∀ x : Nat, s * 2 ^ g ≤ x → x < (s + m) * 2 ^ g → ∃ c1 c2 c3 c4 c5 c6 c7 c8 c9, fX3_goneIn b pF pL st (Int32.ofNat T) qt cm ds dr b pF pL st (Int32.ofNat T) qt cm ds dr (Int32.ofNat x) = some (0, Int32.ofNat (j + 1), c1, c2, c3, c4, c5, c6, c7, c8, c9) := fun x h1 h2 => by
        have hx : x < 256 := by omega
        obtain ⟨k1, k2⟩ := p7 x h1 h2
        rw [q1] at k1
        obtain ⟨c1, c2, c3, c4, c5, c6, c7, c8, c9, e⟩ := gone_at (qt := qt) (cm := cm) (ds := ds) (dr := dr) hp hS hI (by omega) hx hj (fun i hi => by rw [(quiet_at (qt := qt) (cm := cm) (ds := ds) (dr := dr) hp hS hI (by omega) (n := j) (by omega) hno i hi).1]; exact k1) k2 (j + 1) 0 1000 (by omega) (by omega)
        exact ⟨c1, c2, c3, c4, c5, c6, c7, c8, c9, (go_self hx).trans e⟩
      obtain ⟨c3, e3⟩ := hv_goneIn hd1 hZ hB (gn (s * 2 ^ g) (Nat.le_refl _) (by rw [Nat.add_mul]; omega)) 0 0
      have hd3 : zDev (wC (wC (wC (wC v c0) c2) c1) c3) = (b, pF, pL, st, Int32.ofNat T, qt, cm, ds, dr) := hd
      obtain ⟨c4, e4⟩ := hv_goneIn hd3 hZ hB (gn (s * 2 ^ g + m * 2 ^ g - 1) (by omega) (by rw [Nat.add_mul]; omega)) 0 0
      have hd4 : zDev (wC (wC (wC (wC (wC v c0) c2) c1) c3) c4) = (b, pF, pL, st, Int32.ofNat T, qt, cm, ds, dr) := hd
      obtain ⟨c5, e5⟩ := hv_coming hd4 hZ hB (a2 := Int32.ofNat (j + 1)) (a3 := 1) (r := Int32.ofNat M) ⟨_, _, _, _, _, _, _, _, _, (co_self (n := j + 1) hp hS hI (by omega) (by omega) (by omega) (by decide) (by decide)).trans (by rw [if_neg (by decide), if_pos rfl, p6, q2, Int32.add_comm, Int32.add_sub_cancel])⟩ 0
      have hd5 : zDev (wC (wC (wC (wC (wC (wC v c0) c2) c1) c3) c4) c5) = (b, pF, pL, st, Int32.ofNat T, qt, cm, ds, dr) := hd
      have a1 : Int32.ofNat (T + j) - Int32.ofNat T + 1 = Int32.ofNat (j + 1) := by rw [zN_sub (by omega), show T + j - T = j by omega, zN_1]
      have a2 : Int32.ofNat (s * 2 ^ g) + Int32.ofNat (m * 2 ^ g) - 1 = Int32.ofNat (s * 2 ^ g + m * 2 ^ g - 1) := by rw [zN_add]; exact zN_sub (c := 1) (by omega)
      rw [e0, ob2_some, e2, ob2_some, e1, ob2_some, hv_about hd1 va_4 0 0, ob2_some, if_neg n10, if_neg (zN_m (by omega))]
      unfold fL_holds_596
      rw [if_neg (zN_m (by omega))]
      unfold fL_holds_607
      rw [if_pos rfl, if_neg (zN_m (by omega))]
      unfold fL_holds_621
      rw [if_neg (zN_m (by omega))]
      unfold fL_holds_632
      rw [if_pos rfl, if_neg (zN_m (by omega)), if_neg (fun q => by have := (zN_lt (by omega) (by omega)).mp q; omega), if_neg (fun q => by
        replace q : Int32.ofNat T + Int32.ofNat 100 ≤ Int32.ofNat (T + j) := q
        rw [zN_add] at q
        have := (zN_le (by omega) (by omega)).mp q; omega), e3, ob2_some, a1, if_pos rfl, a2, e4, ob2_some, if_pos rfl, e5, ob2_some, if_neg (fun q => by
        replace q : Int32.ofNat M ≤ Int32.ofNat 0 := q
        have := (zN_le (by omega) (by omega)).mp q; omega)]
      by_cases cj : j = 0
      · rw [if_pos (by rw [cj]; rfl)]
        unfold fL_holds_760
        obtain ⟨c, e⟩ := h_765 hd5 hZ hB hT hp hS hI hX
        exact ⟨c, e⟩
      · obtain ⟨c6, e6⟩ := hv_coming hd5 hZ hB (a2 := Int32.ofNat j) (a3 := 1) (r := 0) ⟨_, _, _, _, _, _, _, _, _, (co_self (n := j) hp hS hI (by omega) (by omega) (by omega) (by decide) (by decide)).trans (by rw [if_neg (by decide), if_pos rfl, q2, Int32.sub_self])⟩ 0
        have hd6 : zDev (wC (wC (wC (wC (wC (wC (wC v c0) c2) c1) c3) c4) c5) c6) = (b, pF, pL, st, Int32.ofNat T, qt, cm, ds, dr) := hd
        rw [if_neg (fun q => by have := (zN_inj (by omega) (by omega)).mp q; omega), zN_sub (show T ≤ T + j by omega), show T + j - T = j by omega, e6, ob2_some, if_pos rfl]
        unfold fL_holds_760
        obtain ⟨c, e⟩ := h_765 hd6 hZ hB hT hp hS hI hX
        exact ⟨c, e⟩
end HT
set_option maxHeartbeats 1000000 in
theorem holds_ok {v : zXS} {e : zRS} {B : Nat} (h : LK v e B) (hB : B + 300 < 2147483647) {X : Nat} (hX : X < 2147483648) : ∃ c, fL_holds v (Int32.ofNat X) = some (1, wC v c) := by
  obtain ⟨⟨hT, hZ, hSl⟩, h1, -⟩ := h
  replace hZ := hZ.1
  obtain ⟨b, pF, pL, st, tm, qt, cm, ds, dr, hd⟩ : ∃ b pF pL st tm qt cm ds dr, zDev v = (b, pF, pL, st, tm, qt, cm, ds, dr) := ⟨_, _, _, _, _, _, _, _, _, rfl⟩
  replace hZ : ZD (zDev v).1 (zDev v).2.1 (zDev v).2.2.1 (zDev v).2.2.2.1 (zDev v).2.2.2.2.1 (zDev v).2.2.2.2.2.1 (zDev v).2.2.2.2.2.2.1 (zDev v).2.2.2.2.2.2.2.1 (zDev v).2.2.2.2.2.2.2.2 e.2.2.1 B := hZ
  replace h1 : R16 (zDev v).1 := h1
  rw [hd] at hZ h1
  replace hZ : ZD b pF pL st tm qt cm ds dr e.2.2.1 B := hZ
  replace h1 : cn (bg (zq b)) 256 ≤ 16 := h1
  have hZ0 := hZ
  obtain ⟨T, t1, rfl, t2, hI, hp, hS⟩ := hZ
  obtain ⟨g, hg1, hg2⟩ := hS 0 (by omega)
  have hg : g < 5 := by have : zGm 0 = 4 := rfl; omega
  unfold fL_holds
  rw [hv_about hd va_2 0 0, ob2_some, if_neg (fun q => by
    replace q : Int32.ofNat 16 < Int32.ofNat (cn (bg (zq b)) 256) := q
    have := (zN_lt (by omega) (by omega)).mp q; omega)]
  have l1 := h_loop1 hd hp hg hg1 hI (Int32.ofNat X) (Int32.ofNat (cn (bg (zq b)) 256)) 256 0 257 rfl (by omega)
  replace l1 : fL_holds_45 257 (Int32.ofNat X) (Int32.ofNat (cn (bg (zq b)) 256)) 0 0 0 0 0 (-1) 0 1 0 v = _ := l1
  rw [l1]
  unfold fL_holds_275
  have l2 := h_loop2 hd hp hS hg hg1 hI (Int32.ofNat X) (Int32.ofNat (cn (pA b) 256)) (Int32.ofNat (cn (pH b) 256)) (Int32.ofNat (cn (zq b) 256)) (Int32.ofNat (cn (pZ b) 256)) (Int32.ofNat (cn (pn pF pL) 256)) (Int32.ofNat (cn (bg (zq b)) 256)) (cn (bg (zq b)) 256) 0 17 0 (by omega) (by omega) (by omega) (Or.inl rfl) rfl
  rw [Nat.zero_div] at l2
  replace l2 : fL_holds_284 17 (Int32.ofNat X) (Int32.ofNat (cn (bg (zq b)) 256)) (Int32.ofNat (cn (pA b) 256)) (Int32.ofNat (cn (pH b) 256)) (Int32.ofNat (cn (zq b) 256)) (Int32.ofNat (cn (pZ b) 256)) (Int32.ofNat (cn (pn pF pL) 256)) (Int32.ofNat (cn (bg (zq b)) 256)) 1 0 0 0 v = _ := l2
  rw [l2, h_nums hd hp hS hg hg1]
  exact h_next hd hZ0 (by omega) (by omega) hp hS hI hX
