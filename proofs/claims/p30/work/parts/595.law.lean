/-! the law's turns -/
section LT
variable {L : Nat} {xs : Nat → Int32}
set_option maxHeartbeats 1000000 in
/-- the end of a turn -/
theorem law_261 {e : zRS} {B : Nat} {vo vq : zXS} (ho : LK vo e B) (hq : LK vq e B) (hB : B + 1000 < 2147483647) {X : Nat} (hX : X < 2147483648) (kt : Int32 → Int32 → Int32 → zXS → zXS → Option (Int32 × zXS × zXS)) (v5 v6 : Int32) : ∃ vo2 vq2 e2, fL_law_261 L xs kt v5 v6 (Int32.ofNat X) 1 vo vq = kt 1 v5 (v6 + 1) vo2 vq2 ∧ LK vo2 e2 (B + 60) ∧ LK vq2 e2 (B + 60) := by
  have er : (1 : Int32) + irem (Int32.ofNat X / 7) 12 = Int32.ofNat (1 + X / 7 % 12) := by
    have e1 : Int32.ofNat X / 7 = Int32.ofNat (X / 7) := zN_div (a := X) (c := 7) hX (by omega)
    have e2 : irem (Int32.ofNat (X / 7)) 12 = Int32.ofNat (X / 7 % 12) := zN_rem (a := X / 7) (c := 12) (by omega) (by omega)
    rw [e1, e2]
    exact zN_add 1 _
  obtain ⟨n, hn, h1, h12⟩ : ∃ n, 1 + X / 7 % 12 = n ∧ 1 ≤ n ∧ n ≤ 12 := ⟨_, rfl, by omega, by omega⟩
  rw [hn] at er
  obtain ⟨b, pF, pL, st, tm, qt, cm, ds, dr, hd⟩ : ∃ b pF pL st tm qt cm ds dr, zDev vo = (b, pF, pL, st, tm, qt, cm, ds, dr) := ⟨_, _, _, _, _, _, _, _, _, rfl⟩
  have hZ : ZD (zDev vo).1 (zDev vo).2.1 (zDev vo).2.2.1 (zDev vo).2.2.2.1 (zDev vo).2.2.2.2.1 (zDev vo).2.2.2.2.2.1 (zDev vo).2.2.2.2.2.2.1 (zDev vo).2.2.2.2.2.2.2.1 (zDev vo).2.2.2.2.2.2.2.2 e.2.2.1 B := ho.1.2.1.1
  rw [hd] at hZ
  replace hZ : ZD b pF pL st tm qt cm ds dr e.2.2.1 B := hZ
  have hZ0 := hZ
  obtain ⟨T, t1, rfl, t2, hI, hp, hS⟩ := hZ
  have co : ∀ {w r : Int32}, ¬ w < 0 → w ≤ 3 → (∃ c1 c2 c3 c4 c5 c6 c7 c8 c9, fX3_coming b pF pL st (Int32.ofNat T) qt cm ds dr b pF pL st (Int32.ofNat T) qt cm ds dr (Int32.ofNat n) w = some (0, r, c1, c2, c3, c4, c5, c6, c7, c8, c9)) → ∀ c0, ∃ c, fL_call (wC vo c0) 16 (Int32.ofNat n) w 0 = some (r, wC vo c) := fun _ _ h c0 => by
    obtain ⟨c, h⟩ := hv_coming (v := wC vo c0) hd hZ0 (by omega) h 0
    exact ⟨c, h⟩
  have cs := fun (w : Int32) (h1' : ¬ w < 0) (h2' : w ≤ 3) => co_self (qt := qt) (cm := cm) (ds := ds) (dr := dr) (w := w) hp hS hI h1 (show n ≤ 100 by omega) (show T + n < 2147483648 by omega) h1' h2'
  obtain ⟨c1, q1⟩ := co (w := 0) (by decide) (by decide) ⟨_, _, _, _, _, _, _, _, _, (cs 0 (by decide) (by decide)).trans (if_pos rfl)⟩ vo.2.2.2.2.2.2.1
  replace q1 : fL_call vo 16 (Int32.ofNat n) 0 0 = _ := q1
  obtain ⟨c2, q2⟩ := co (w := 1) (by decide) (by decide) ⟨_, _, _, _, _, _, _, _, _, (cs 1 (by decide) (by decide)).trans (by rw [if_neg (by decide), if_pos rfl])⟩ c1
  obtain ⟨c3, q3⟩ := co (w := 2) (by decide) (by decide) ⟨_, _, _, _, _, _, _, _, _, (cs 2 (by decide) (by decide)).trans (by rw [if_neg (by decide), if_neg (by decide), if_pos rfl])⟩ c2
  obtain ⟨c4, q4⟩ := co (w := 3) (by decide) (by decide) ⟨_, _, _, _, _, _, _, _, _, (cs 3 (by decide) (by decide)).trans (by rw [if_neg (by decide), if_neg (by decide), if_neg (by decide)])⟩ c3
  have hd4 : zDev (wC vo c4) = (b, pF, pL, st, Int32.ofNat T, qt, cm, ds, dr) := hd
  have ho4 : LK (wC vo c4) e B := ho
  obtain ⟨vo2, e5, ho2⟩ := lk_run ho4 (by omega) (Int32.ofNat n)
  obtain ⟨vq2, e6, hq2⟩ := lk_run hq (by omega) (Int32.ofNat n)
  obtain ⟨x1, x2, x3⟩ := run_undo ho4 hd4 hp hS hI (by omega) h1 h12 e5
  obtain ⟨vo3, e7, ho3⟩ := lk_undo ho2
  obtain ⟨vq3, e8, hq3⟩ := lk_undo hq2
  obtain ⟨x4, b3, pF3, pL3, st3, tm3, qt3, ds3, dr3, x5, x6⟩ := x3 _ _ e7
  obtain ⟨bN, qtN, drN, M, N, eN, -, hTF, -⟩ := tkn_at (qt := qt) (cm := cm) (ds := ds) (dr := dr) hp hS hI n (show T + n < 2147483648 by omega)
  rw [eN] at x1 x2 q1 q2 q3 q4
  replace x2 : zDev vo2 = (bN, pF, pL, st, Int32.ofNat (T + n), qtN, cm + Int32.ofNat M, ds + Int32.ofNat N, drN) := x2
  replace x1 : (RF_run e (Int32.ofNat n)).1 = ds + Int32.ofNat N - ds := x1
  have p1 := pH_em b
  have p2 := pH_em bN
  have p3 := hTF.1
  have eN2 : ds + Int32.ofNat N - ds = Int32.ofNat N := by rw [Int32.add_comm, Int32.add_sub_cancel]
  have hb3 : cn (fun i => !decide (b3 i = -1)) 256 = cn (fun i => !decide (b i = -1)) 256 := cn_congr 256 (fun i hi => by show (!decide (b3 i = -1)) = !decide (b i = -1); rw [x6 i hi])
  refine ⟨vo3, vq3, _, ?_, ho3, hq3⟩
  unfold fL_law_261
  rw [er, q1, ob2_some, q2, ob2_some, q3, ob2_some, q4, ob2_some, hv_about hd4 va_6 0 0, ob2_some, hv_about hd4 va_1 0 0, ob2_some, if_neg n10, call_11, e5, ob2_some, if_pos x1, call_11, e6, ob2_some, if_pos x1, hv_about x2 va_6 0 0, ob2_some, if_pos (show cm + Int32.ofNat M = cm + (cm + Int32.ofNat M - cm) by rw [Int32.add_comm cm (Int32.ofNat M), Int32.add_sub_cancel, Int32.add_comm]), hv_about x2 va_2 0 0, ob2_some, if_pos rfl, hv_about x2 va_3 0 0, ob2_some, if_pos rfl, hv_about x2 va_1 0 0, ob2_some, if_pos (by
    show Int32.ofNat (cn (fun i => !decide (bN i = -1)) 256) = Int32.ofNat (cn (fun i => !decide (b i = -1)) 256) - (ds + Int32.ofNat N - ds)
    rw [eN2, zN_sub (by omega), show cn (fun i => !decide (bN i = -1)) 256 = cn (fun i => !decide (b i = -1)) 256 - N by omega]), call_13, e7, ob2_some, thrown_no x4, ob_some, if_pos rfl, call_13, e8, ob2_some, thrown_no x4, ob_some, if_pos rfl, hv_about x5 (show fX3_about b3 pF3 pL3 tm3 qt3 cm ds3 dr3 6 = some (0, cm) from rfl) 0 0, ob2_some, if_pos rfl, hv_about x5 (show fX3_about b3 pF3 pL3 tm3 qt3 cm ds3 dr3 1 = some (0, Int32.ofNat (cn (fun i => !decide (b i = -1)) 256)) by rw [← hb3]; exact va_1 (T := 0)) 0 0, ob2_some, if_pos rfl]
theorem and_max (y : Int32) : ∃ k : Nat, k < 2147483648 ∧ y &&& 2147483647 = Int32.ofNat k := by
  refine ⟨(y &&& 2147483647).toBitVec.toNat, ?_, ?_⟩
  · rw [Int32.toBitVec_and, BitVec.toNat_and]
    exact Nat.lt_of_le_of_lt Nat.and_le_right (by decide)
  · rw [← Int32.toBitVec_inj, Int32.toBitVec_ofNat', BitVec.ofNat_toNat, BitVec.setWidth_eq]
theorem cell_ok (hL : L ≤ 260) {k : Nat} (hk : k < 1000) : ∃ X : Nat, X < 2147483648 ∧ fL_cell L xs (Int32.ofNat k) = some (Int32.ofNat X) := by
  unfold fL_cell
  by_cases c : L ≤ k
  · rw [if_pos ((zN_le (by omega) (by omega)).mpr c)]
    obtain ⟨X, h1, h2⟩ := and_max (((15518623) * (Int32.ofNat k + 3)) + 10859)
    exact ⟨X, h1, by rw [h2]⟩
  · rw [if_neg (fun q => c ((zN_le (by omega) (by omega)).mp q)), if_neg (zN_in (by omega) (by omega))]
    obtain ⟨X, h1, h2⟩ := and_max (xs (Int32.ofNat k).toNatClampNeg)
    exact ⟨X, h1, by rw [h2]⟩
set_option maxHeartbeats 1000000 in
theorem law_turns (hL : L ≤ 260) {n0 : Nat} (hn0 : n0 ≤ 18) : ∀ (m k n B : Nat) (e : zRS) (vo vq : zXS), k + m = n0 → m < n → LK vo e B → LK vq e B → B + 200 * m + 10000 < 2147483647 → ∃ vo2 vq2, fL_law_147 L xs n 1 (Int32.ofNat n0) (Int32.ofNat k) vo vq = some (1, vo2, vq2) := by
  intro m
  induction m with
  | zero =>
    intro k n B e vo vq hk hn ho hq hB
    obtain ⟨n, rfl⟩ := zfuel hn
    exact ⟨vo, vq, by rw [fL_law_147, if_pos ((zN_le (by omega) (by omega)).mpr (by omega))]⟩
  | succ m ih =>
    intro k n B e vo vq hk hn ho hq hB
    obtain ⟨n, rfl⟩ := zfuel hn
    obtain ⟨X, hX, ec⟩ := cell_ok (xs := xs) hL (k := 2 + k) (by omega)
    have e2k : (2 : Int32) + Int32.ofNat k = Int32.ofNat (2 + k) := zN_add 2 k
    have r1 : irem (Int32.ofNat X) 100000 = Int32.ofNat (X % 100000) := zN_rem (a := X) (c := 100000) hX (by omega)
    have r2 : irem (Int32.ofNat X) 1000 = Int32.ofNat (X % 1000) := zN_rem (a := X) (c := 1000) hX (by omega)
    have d3 : Int32.ofNat X / 3 = Int32.ofNat (X / 3) := zN_div (a := X) (c := 3) hX (by omega)
    have d5 : Int32.ofNat X / 5 = Int32.ofNat (X / 5) := zN_div (a := X) (c := 5) hX (by omega)
    obtain ⟨vo1, a1, ho1⟩ := act_ok ho (by omega) (Int32.ofNat X)
    obtain ⟨vq1, a2, hq1⟩ := act_ok hq (by omega) (Int32.ofNat X)
    obtain ⟨vo2, vq2, a3, ho2, hq2⟩ := alike_ok ho1 hq1 (by omega) (irem (Int32.ofNat X) 5000)
    obtain ⟨c1, a4⟩ := holds_ok ho2 (by omega) (X := X / 3) (by omega)
    have ho3 : LK (wC vo2 c1) (RF_act e (Int32.ofNat X)).2 (B + 60) := ho2
    rw [fL_law_147, if_neg (fun q => by have := (zN_le (by omega) (by omega)).mp q; omega), if_neg n10, e2k, ec, ob_some, a1, ob2_some, r1, refuses_ok vq (by omega), ob2_some, if_neg n10, a2, ob2_some, if_pos rfl, r2, refuses_ok vq1 (by omega), ob2_some, if_neg n10, a3, ob3_some, if_neg n10, d3, a4, ob2_some, if_neg n10]
    have go : ∀ vo4 vq4 : zXS, LK vo4 (RF_act e (Int32.ofNat X)).2 (B + 60) → LK vq4 (RF_act e (Int32.ofNat X)).2 (B + 60) → ∃ vo2 vq2, fL_law_256 L xs (fun y0 y1 y2 y3 y4 => fL_law_147 L xs n y0 y1 y2 y3 y4) (Int32.ofNat n0) (Int32.ofNat k) (Int32.ofNat X) vo4 vq4 = some (1, vo2, vq2) := fun vo4 vq4 g1 g2 => by
      obtain ⟨vo5, vq5, e5, b1, b2, b3⟩ := law_261 (L := L) (xs := xs) g1 g2 (by omega) hX (fun y0 y1 y2 y3 y4 => fL_law_147 L xs n y0 y1 y2 y3 y4) (Int32.ofNat n0) (Int32.ofNat k)
      obtain ⟨vo6, vq6, b4⟩ := ih (k + 1) n (B + 60 + 60) e5 vo5 vq5 (by omega) (by omega) b2 b3 (by omega)
      rw [← zN_1] at b4
      exact ⟨vo6, vq6, b1.trans b4⟩
    by_cases c : 0 < irem (Int32.ofNat X) 3
    · rw [if_pos c]
      exact go _ _ ho3 hq2
    · rw [if_neg c, d5]
      obtain ⟨c2, a5⟩ := holds_ok hq2 (by omega) (X := X / 5) (by omega)
      have hq3 : LK (wC vq2 c2) (RF_act e (Int32.ofNat X)).2 (B + 60) := hq2
      rw [a5, ob2_some, if_neg n10]
      exact go _ _ ho3 hq3
set_option maxHeartbeats 1000000 in
theorem law_first (hL : L ≤ 260) {F : Nat} (hF : F < 2147483648) : ∀ (m k n : Nat) (e : zRS) (vo vq : zXS) (B : Nat), k + m = 3 → m < n → LK vo e B → LK vq e B → B + 20000 < 2147483647 → ∃ vo2 vq2, fL_law_28 L xs n (Int32.ofNat F) 1 (Int32.ofNat k) vo vq = some (1, vo2, vq2) := by
  intro m
  induction m with
  | zero =>
    intro k n e vo vq B hk hn ho hq hB
    obtain ⟨n, rfl⟩ := zfuel hn
    obtain rfl : k = 3 := by omega
    obtain ⟨X, hX, ec⟩ := cell_ok (xs := xs) hL (k := 1) (by omega)
    replace ec : fL_cell L xs 1 = some (Int32.ofNat X) := ec
    have r1 : irem (Int32.ofNat X) 13 = Int32.ofNat (X % 13) := zN_rem (a := X) (c := 13) hX (by omega)
    rw [fL_law_28, if_pos (show (3 : Int32) ≤ Int32.ofNat 3 by decide)]
    unfold fL_law_131
    rw [ec, ob_some, r1, show (6 : Int32) + Int32.ofNat (X % 13) = Int32.ofNat (6 + X % 13) from zN_add 6 _]
    exact law_turns hL (n0 := 6 + X % 13) (by omega) (6 + X % 13) 0 19 B e vo vq (by omega) (by omega) ho hq (by omega)
  | succ m ih =>
    intro k n e vo vq B hk hn ho hq hB
    obtain ⟨n, rfl⟩ := zfuel hn
    have e7 : (1 : Int32) + 7 * Int32.ofNat k = Int32.ofNat (1 + 7 * k) := by
      rw [show (7 : Int32) * Int32.ofNat k = Int32.ofNat (7 * k) from zN_mul 7 k]
      exact zN_add 1 _
    rw [fL_law_28, if_neg (show ¬ (3 : Int32) ≤ Int32.ofNat k from fun q => by have := (zN_le (a := 3) (by omega) (by omega)).mp q; omega), if_neg n10, e7, if_neg (show ¬ Int32.ofNat (1 + 7 * k) = 0 from nofne (a := 1 + 7 * k) (c := 0) (by omega) (by omega) (by omega)), call_7]
    obtain ⟨vo1, a1, ho1⟩ := lk_write ho (irem (Int32.ofNat F / Int32.ofNat (1 + 7 * k)) 150) 99
    obtain ⟨vq1, a2, hq1⟩ := lk_write hq (irem (Int32.ofNat F / Int32.ofNat (1 + 7 * k)) 150) 99
    obtain ⟨vo2, a3, ho2⟩ := lk_free ho1 (by omega) ((irem (Int32.ofNat F / Int32.ofNat (1 + 7 * k)) 150) + Int32.ofNat k) (1 + (irem (Int32.ofNat F) 40))
    obtain ⟨vq2, a4, hq2⟩ := lk_free hq1 (by omega) ((irem (Int32.ofNat F / Int32.ofNat (1 + 7 * k)) 150) + Int32.ofNat k) (1 + (irem (Int32.ofNat F) 40))
    rw [a1, ob2_some, call_7, a2, ob2_some, if_pos rfl, call_8, a3, ob2_some, call_8, a4, ob2_some, if_pos rfl, zN_1]
    exact ih (k + 1) n _ vo2 vq2 B (by omega) (by omega) ho2 hq2 hB
theorem law_ok (hL : L ≤ 260) {vo vq : zXS} {e : zRS} (ho : LK vo e 0) (hq : LK vq e 0) : ∃ vo2 vq2, fL_law L xs vo vq = some (1, vo2, vq2) := by
  obtain ⟨F, hF, ec⟩ := cell_ok (xs := xs) hL (k := 0) (by omega)
  replace ec : fL_cell L xs 0 = some (Int32.ofNat F) := ec
  unfold fL_law
  rw [ec, ob_some]
  exact law_first hL hF 3 0 4 e vo vq 0 rfl (by omega) ho hq (by omega)
end LT
