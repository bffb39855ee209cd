/-! what holds in each device: the look at every block, at every range -/
abbrev pA (b : Nat → Int32) : Nat → Bool := fun i => decide (b i = -2)
abbrev pH (b : Nat → Int32) : Nat → Bool := fun i => !decide (b i = -1)
abbrev pZ (b : Nat → Int32) : Nat → Bool := fun i => decide (b i = -3)
def lv0 (q : Nat → Bool) : Nat → Int32
  | 0 => -1
  | k + 1 => rv q k
theorem add_bi (p : Nat → Bool) (k : Nat) : Int32.ofNat (cn p k) + bi (p k) = Int32.ofNat (cn p (k + 1)) := by
  cases h : p k with
  | false => rw [cn_f h, bi_f, Int32.add_zero]
  | true => rw [cn_t h, bi_t, zN_1]
theorem three {x : Int32} (h1 : -3 ≤ x) (h2 : x < 0) : x = -1 ∨ x = -2 ∨ x = -3 := by
  rw [int_le, show (-3 : Int32).toInt = -3 by decide] at h1
  rw [int_lt, i0] at h2
  rcases (show x.toInt = -1 ∨ x.toInt = -2 ∨ x.toInt = -3 by omega) with h | h | h
  · exact Or.inl (Int32.toInt_inj.mp (by rw [h]; decide))
  · exact Or.inr (Or.inl (Int32.toInt_inj.mp (by rw [h]; decide)))
  · exact Or.inr (Or.inr (Int32.toInt_inj.mp (by rw [h]; decide)))
section HL
variable {v : zXS} {b pF pL st : Nat → Int32} {T : Nat} {qt cm ds dr : Int32}
theorem hv_stuck (hd : zDev v = (b, pF, pL, st, Int32.ofNat T, qt, cm, ds, dr)) {r : Int32} (e : fX3_stuck b pF pL st = some r) : fO_stuck v = some r := by
  obtain ⟨ch, nu, le, ta, lt, ⟨b', pF', pL', st', tm', qt', cm', ds', dr'⟩, cp, rest⟩ := v
  replace hd : (b', pF', pL', st', tm', qt', cm', ds', dr') = (b, pF, pL, st, Int32.ofNat T, qt, cm, ds, dr) := hd
  cases hd
  exact e
set_option maxHeartbeats 1000000 in
theorem h_step (hd : zDev v = (b, pF, pL, st, Int32.ofNat T, qt, cm, ds, dr)) (hp : PV pF pL) {g : Nat} (hg : g < 5) (hg1 : st 0 = Int32.ofNat g) (hI : IV b (Int32.ofNat T)) {k : Nat} (hk : k < 256) (kt : Int32 → Int32 → Int32 → Int32 → Int32 → Int32 → Int32 → Int32 → Int32 → Int32 → Int32 → zXS → Option (Int32 × zXS)) (x R A H : Int32) :
    (if rv (zq b) k = -1 then fL_holds_116 kt x R A H (Int32.ofNat (cn (pZ b) k)) (Int32.ofNat (cn (pn pF pL) k)) (lv0 (zq b) k) (Int32.ofNat (cn (bg (zq b)) k)) (Int32.ofNat k) (bi (pA b k)) (bi (pH b k)) (rv (zq b) k) (Int32.ofNat (cn (zq b) k)) 0 v else fL_holds_116 kt x R A H (Int32.ofNat (cn (pZ b) k)) (Int32.ofNat (cn (pn pF pL) k)) (lv0 (zq b) k) (Int32.ofNat (cn (bg (zq b)) k)) (Int32.ofNat k) (bi (pA b k)) (bi (pH b k)) (rv (zq b) k) (Int32.ofNat (cn (zq b) k)) 1 v) =
      kt x R A H (Int32.ofNat (cn (zq b) (k + 1))) (Int32.ofNat (cn (pZ b) (k + 1))) (Int32.ofNat (cn (pn pF pL) (k + 1))) (rv (zq b) k) (Int32.ofNat (cn (bg (zq b)) (k + 1))) 1 (Int32.ofNat k + 1) v := by
  have ep := add_bi (pn pF pL) k
  cases hq : zq b k with
  | true =>
    have hbk := zq_nn hq
    have hA : pA b k = false := decide_eq_false (fun q => hbk (by rw [q]; decide))
    have hm1 : ¬ b k = -1 := fun q => hbk (by rw [q]; decide)
    have hH : pH b k = true := by show (!decide (b k = -1)) = true; rw [decide_eq_false hm1]; rfl
    have hZ : pZ b k = false := decide_eq_false (fun q => hbk (by rw [q]; decide))
    have hrv : rv (zq b) k = Int32.ofNat (cn (bg (zq b)) (k + 1) - 1) := if_pos hq
    have hpos := bg_up hq
    have hle := cn_le (bg (zq b)) (k + 1)
    have hne : ¬ rv (zq b) k = -1 := by rw [hrv]; exact zN_m (by omega)
    have hK : cn (bg (zq b)) (k + 1) - 1 < cn (bg (zq b)) 256 := by
      have := cn_mono (bg (zq b)) (m := k + 1) 256 (by omega)
      omega
    obtain ⟨s, hs, hbs, hcs, r0, r1, -⟩ := vr_all (st := st) (T := T) hp hg hg1 hK
    obtain ⟨g1, g2⟩ := so_bg k hq
    obtain rfl : s = so (zq b) k := bg_one hbs g1 (by omega)
    have hsk := so_le (zq b) k
    have hE : k < eo (zq b) (so (zq b) k) := by
      rcases Nat.lt_or_ge k (eo (zq b) (so (zq b) k)) with h | h
      · exact h
      · exfalso
        have h1 := eo_ge (zq_B b) (so (zq b) k)
        have h2 := eo_end (zq_B b) (so (zq b) k)
        by_cases c : eo (zq b) (so (zq b) k) = k
        · rw [c, hq] at h2; cases h2
        · rw [so_in (zq b) k _ h1 (by omega)] at h2; cases h2
    have hEle := eo_le (zq_B b) (j := so (zq b) k) (by omega)
    have e5 : Int32.ofNat (cn (zq b) k) + 1 = Int32.ofNat (cn (zq b) (k + 1)) := by rw [cn_t hq, zN_1]
    have e6 : Int32.ofNat (cn (pZ b) k) + 0 = Int32.ofNat (cn (pZ b) (k + 1)) := by rw [cn_f hZ, Int32.add_zero]
    have hlast : ∀ X Y : Option (Int32 × zXS), (bg (zq b) k = true → lv0 (zq b) k = -1) ∧ (bg (zq b) k = false → ¬ lv0 (zq b) k = -1) := fun _ _ => by
      cases k with
      | zero =>
        refine ⟨fun _ => rfl, fun h => ?_⟩
        rw [bg_iff.mpr ⟨hq, fun h0 => absurd h0 (Nat.lt_irrefl _)⟩] at h; cases h
      | succ j =>
        refine ⟨fun h => if_neg (by have e : zq b j = false := (bg_iff.mp h).2 (by omega); rw [e]; exact Bool.false_ne_true), fun h => ?_⟩
        have hj : zq b j = true := by
          cases c : zq b j with
          | true => rfl
          | false => rw [bg_iff.mpr ⟨hq, fun _ => c⟩] at h; cases h
        show ¬ rv (zq b) j = -1
        unfold rv
        rw [if_pos hj]
        have := cn_le (bg (zq b)) (j + 1)
        exact zN_m (by omega)
    rw [if_neg hne, hA, hH]
    unfold fL_holds_116
    rw [if_pos (show bi true = 1 from rfl), if_pos (show bi false = 0 from rfl), if_neg hne]
    unfold fL_holds_142 fL_holds_143
    rw [hv_block hd (vb_3 hp hk) 0, ob2_some, if_neg hne]
    have fin : ∀ s1 : Int32, Int32.ofNat (cn (bg (zq b)) k) + s1 = Int32.ofNat (cn (bg (zq b)) (k + 1)) → fL_holds_179 kt x R A H (Int32.ofNat (cn (zq b) k) + 1) (Int32.ofNat (cn (pZ b) k) + 0) (Int32.ofNat (cn (pn pF pL) k) + bi (pn pF pL k)) (Int32.ofNat k) (bi false) (bi true) (rv (zq b) k) (Int32.ofNat (cn (bg (zq b)) k)) s1 v = kt x R A H (Int32.ofNat (cn (zq b) (k + 1))) (Int32.ofNat (cn (pZ b) (k + 1))) (Int32.ofNat (cn (pn pF pL) (k + 1))) (rv (zq b) k) (Int32.ofNat (cn (bg (zq b)) (k + 1))) 1 (Int32.ofNat k + 1) v := fun s1 es => by
      unfold fL_holds_179
      rw [if_pos (show bi false = 0 from rfl), es, e5, e6, ep]
      unfold fL_holds_199
      rw [if_neg hne, if_pos (show bi true = 1 from rfl), hrv, if_pos (show Int32.ofNat (cn (bg (zq b)) (k + 1) - 1) = Int32.ofNat (cn (bg (zq b)) (k + 1)) - 1 from (zN_sub (c := 1) (by omega)).symm), hv_range hd r0 0, ob2_some, if_neg (fun q => by have := (zN_lt (by omega) (by omega)).mp q; omega), hv_range hd r0 0, ob2_some, hv_range hd r1 0, ob2_some, zN_add, if_neg (fun q => by have := (zN_le (by omega) (by omega)).mp q; omega)]
      rfl
    cases hbg : bg (zq b) k with
    | true =>
      rw [if_pos ((hlast none none).1 hbg)]
      exact fin 1 (by rw [cn_t hbg, zN_1])
    | false =>
      rw [if_neg ((hlast none none).2 hbg)]
      unfold fL_holds_178
      exact fin 0 (by rw [cn_f hbg, Int32.add_zero])
  | false =>
    have hbk := zq_neg hk hq
    have hrv : rv (zq b) k = -1 := if_neg (by rw [hq]; exact Bool.false_ne_true)
    have hbg : bg (zq b) k = false := by rw [bg_pv, hq]; rfl
    have e5 : Int32.ofNat (cn (zq b) k) + 0 = Int32.ofNat (cn (zq b) (k + 1)) := by rw [cn_f hq, Int32.add_zero]
    have e9 : Int32.ofNat (cn (bg (zq b)) k) + 0 = Int32.ofNat (cn (bg (zq b)) (k + 1)) := by rw [cn_f hbg, Int32.add_zero]
    rw [if_pos hrv]
    unfold fL_holds_116
    rcases three (hI.1 k hk).1 hbk with hb | hb | hb
    · have hA : pA b k = false := decide_eq_false (by rw [hb]; decide)
      have hH : pH b k = false := by show (!decide (b k = -1)) = false; rw [hb]; decide
      have hZ : pZ b k = false := decide_eq_false (by rw [hb]; decide)
      have e6 : Int32.ofNat (cn (pZ b) k) + 0 = Int32.ofNat (cn (pZ b) (k + 1)) := by rw [cn_f hZ, Int32.add_zero]
      rw [hA, hH, if_neg (show ¬ bi false = 1 by decide)]
      unfold fL_holds_142 fL_holds_143
      rw [hv_block hd (vb_3 hp hk) 0, ob2_some, if_pos hrv]
      unfold fL_holds_178 fL_holds_179
      rw [if_pos (show bi false = 0 from rfl)]
      unfold fL_holds_199
      rw [if_pos hrv, e5, e6, e9, ep]
      rfl
    · have hA : pA b k = true := decide_eq_true hb
      have hH : pH b k = true := by show (!decide (b k = -1)) = true; rw [hb]; decide
      have hZ : pZ b k = false := decide_eq_false (by rw [hb]; decide)
      have e6 : Int32.ofNat (cn (pZ b) k) + 0 = Int32.ofNat (cn (pZ b) (k + 1)) := by rw [cn_f hZ, Int32.add_zero]
      rw [hA, hH, if_pos (show bi true = 1 from rfl), if_neg (show ¬ bi true = 0 by decide)]
      unfold fL_holds_142 fL_holds_143
      rw [hv_block hd (vb_3 hp hk) 0, ob2_some, if_pos hrv]
      unfold fL_holds_178 fL_holds_179
      rw [if_neg (show ¬ bi true = 0 by decide), if_pos (show bi true = 1 from rfl), if_pos hrv]
      unfold fL_holds_199
      rw [if_pos hrv, e5, e6, e9, ep]
      rfl
    · have hA : pA b k = false := decide_eq_false (by rw [hb]; decide)
      have hH : pH b k = true := by show (!decide (b k = -1)) = true; rw [hb]; decide
      have hZ : pZ b k = true := decide_eq_true hb
      have e6 : Int32.ofNat (cn (pZ b) k) + 1 = Int32.ofNat (cn (pZ b) (k + 1)) := by rw [cn_t hZ, zN_1]
      rw [hA, hH, if_pos (show bi true = 1 from rfl), if_pos (show bi false = 0 from rfl), if_pos hrv]
      unfold fL_holds_143
      rw [hv_block hd (vb_3 hp hk) 0, ob2_some, if_pos hrv]
      unfold fL_holds_178 fL_holds_179
      rw [if_pos (show bi false = 0 from rfl)]
      unfold fL_holds_199
      rw [if_pos hrv, e5, e6, e9, ep]
      rfl
set_option maxHeartbeats 1000000 in
theorem h_loop1 (hd : zDev v = (b, pF, pL, st, Int32.ofNat T, qt, cm, ds, dr)) (hp : PV pF pL) {g : Nat} (hg : g < 5) (hg1 : st 0 = Int32.ofNat g) (hI : IV b (Int32.ofNat T)) (x R : Int32) : ∀ m k n, k + m = 256 → m < n →
    fL_holds_45 n x R (Int32.ofNat (cn (pA b) k)) (Int32.ofNat (cn (pH b) k)) (Int32.ofNat (cn (zq b) k)) (Int32.ofNat (cn (pZ b) k)) (Int32.ofNat (cn (pn pF pL) k)) (lv0 (zq b) k) (Int32.ofNat (cn (bg (zq b)) k)) 1 (Int32.ofNat k) v =
      fL_holds_275 x R (Int32.ofNat (cn (pA b) 256)) (Int32.ofNat (cn (pH b) 256)) (Int32.ofNat (cn (zq b) 256)) (Int32.ofNat (cn (pZ b) 256)) (Int32.ofNat (cn (pn pF pL) 256)) (Int32.ofNat (cn (bg (zq b)) 256)) 1 v := by
  intro m
  induction m with
  | zero =>
    intro k n hk hn
    obtain ⟨n, rfl⟩ := zfuel hn
    obtain rfl : k = 256 := by omega
    rw [fL_holds_45, if_pos z256p]
  | succ m ih =>
    intro k n hk hn
    obtain ⟨n, rfl⟩ := zfuel hn
    have hk2 : k < 256 := by omega
    rw [fL_holds_45, if_neg (z256 hk2), if_neg n10, hv_block hd (vb_0 hk2) 0, ob2_some, hv_block hd (vb_1 hk2) 0, ob2_some, hv_block hd (vb_2 hk2) 0, ob2_some]
    refine (h_step hd hp hg hg1 hI hk2 (fun y0 y1 y2 y3 y4 y5 y6 y7 y8 y9 y10 y11 => fL_holds_45 n y0 y1 y2 y3 y4 y5 y6 y7 y8 y9 y10 y11) x R (Int32.ofNat (cn (pA b) k) + bi (pA b k)) (Int32.ofNat (cn (pH b) k) + bi (pH b k))).trans ?_
    show fL_holds_45 n x R (Int32.ofNat (cn (pA b) k) + bi (pA b k)) (Int32.ofNat (cn (pH b) k) + bi (pH b k)) _ _ _ _ _ 1 (Int32.ofNat k + 1) v = _
    rw [add_bi, add_bi, zN_1]
    exact ih (k + 1) n (by omega) (by omega)
set_option maxHeartbeats 1000000 in
theorem h_loop2 (hd : zDev v = (b, pF, pL, st, Int32.ofNat T, qt, cm, ds, dr)) (hp : PV pF pL) (hS : SV st) {g : Nat} (hg : g < 5) (hg1 : st 0 = Int32.ofNat g) (hI : IV b (Int32.ofNat T)) (x v3 v4 v5 v6 v7 v9 : Int32) : ∀ m k n e, k + m = cn (bg (zq b)) 256 → m < n → e ≤ 256 → (e = 0 ∨ zq b e = false) → cn (bg (zq b)) e = k →
    fL_holds_284 n x (Int32.ofNat (cn (bg (zq b)) 256)) v3 v4 v5 v6 v7 v9 1 (Int32.ofNat (cn (zq b) e)) (Int32.ofNat (cn (fr (zq b) (pn pF pL) (2 ^ g)) (e / 2 ^ g))) (Int32.ofNat k) v =
      fL_holds_424 x (Int32.ofNat (cn (bg (zq b)) 256)) v3 v4 v5 v6 v7 v9 1 (Int32.ofNat (cn (zq b) 256)) (Int32.ofNat (cn (fr (zq b) (pn pF pL) (2 ^ g)) (256 / 2 ^ g))) v := by
  have hG := zG_pos g
  have hR := cn_le (bg (zq b)) 256
  intro m
  induction m with
  | zero =>
    intro k n e hk hn he heq hc
    obtain ⟨n, rfl⟩ := zfuel hn
    have hgap := gap (q := zq b) heq (s := 256) (by omega)
    obtain ⟨f1, f2⟩ := fr_gap (p := pn pF pL) hG heq he hgap
    rw [div256 g hg] at f2
    rw [fL_holds_284, if_pos ((zN_le (by omega) (by omega)).mpr (by omega)), ← cn_gap he hgap, ← f2]
  | succ m ih =>
    intro k n e hk hn he heq hc
    obtain ⟨n, rfl⟩ := zfuel hn
    obtain ⟨s, hs, hbs, hcs, r0, r1, r2, r3, r4, r5⟩ := vr_all (st := st) (T := T) hp hg hg1 (show k < cn (bg (zq b)) 256 by omega)
    have hes : e ≤ s := by
      rcases Nat.lt_or_ge s e with h | h
      · have := cn_mono (bg (zq b)) (m := s + 1) e h
        rw [cn_t hbs] at this; omega
      · exact h
    have hgap := gap (q := zq b) heq (s := s) (by omega)
    obtain ⟨f1, f2⟩ := fr_gap (p := pn pF pL) hG heq hes hgap
    have hsq := (bg_iff.mp hbs).1
    have hgt := eo_gt (zq_B b) hsq
    have hle := eo_le (zq_B b) (j := s) (by omega)
    have hend := eo_end (zq_B b) s
    have hin : ∀ i, s ≤ i → i < eo (zq b) s → zq b i = true := fun i h1 h2 => eo_in (zq_B b) h1 h2
    generalize eo (zq b) s = E at hgt hle hend hin r1 r3 r4
    have hlen : cn (zq b) e + (E - s) = cn (zq b) E := by rw [cn_all (by omega) hin, cn_gap hes hgap]
    have hbgE : cn (bg (zq b)) E = k + 1 := by
      have h1 : cn (bg (zq b)) E = cn (bg (zq b)) (s + 1) := cn_gap (by omega) (fun i h1 h2 => by
        cases c : bg (zq b) i with
        | false => rfl
        | true =>
          have := (bg_iff.mp c).2 (by omega)
          rw [hin (i - 1) (by omega) (by omega)] at this; cases this)
      rw [h1, cn_t hbs, hcs]
    have hwh : cn (fr (zq b) (pn pF pL) (2 ^ g)) (e / 2 ^ g) + (cn (fr (zq b) (pn pF pL) (2 ^ g)) (E / 2 ^ g) - cn (fr (zq b) (pn pF pL) (2 ^ g)) ((s + 2 ^ g - 1) / 2 ^ g)) = cn (fr (zq b) (pn pF pL) (2 ^ g)) (E / 2 ^ g) := by
      have := cn_mono (fr (zq b) (pn pF pL) (2 ^ g)) (m := e / 2 ^ g) (E / 2 ^ g) (Nat.div_le_div_right (by omega))
      omega
    have hpw := cn_dif (p := bg (fr (zq b) (pn pF pL) (2 ^ g))) (f := fr (zq b) (pn pF pL) (2 ^ g)) (fun i h => (bg_iff.mp h).1) ((s + 2 ^ g - 1) / 2 ^ g) (E / 2 ^ g)
    have hw1 := cn_le (fr (zq b) (pn pF pL) (2 ^ g)) (E / 2 ^ g)
    have hw2 : E / 2 ^ g ≤ 256 := Nat.le_trans (Nat.div_le_self _ _) hle
    have htm : ¬ Int32.ofNat T < b s := zNot_lt.mpr (hI.1 s hs).2
    have nxt := ih (k + 1) n E (by omega) (by omega) hle (Or.inr hend) hbgE
    rw [fL_holds_284, if_neg (fun q => by have := (zN_le (by omega) (by omega)).mp q; omega), if_neg n10, hv_range hd r1 0, ob2_some, hv_range hd r4 0, ob2_some, hv_range hd r2 0, ob2_some, hv_about hd va_4 0 0, ob2_some, if_neg htm, hv_range hd r3 0, ob2_some, hv_range hd r4 0, ob2_some, if_neg (fun q => by have := (zN_lt (by omega) (by omega)).mp q; omega), hv_range hd r5 0, ob2_some, hv_about hd va_4 0 0, ob2_some, hv_range hd r2 0, ob2_some, hv_setting hd (show fX3_setting st 3 = some (0, st 3) from vs_0 hS (k := 3) (by omega)) 0 0, ob2_some, zN_add, hlen, zN_add, hwh]
    by_cases c : Int32.ofNat T - b s < st 3
    · rw [if_pos c]
      unfold fL_holds_408
      rw [if_pos (show bi (due b st (Int32.ofNat T) s) = 0 by unfold due; rw [decide_eq_true c]; rfl), zN_1]
      exact nxt
    · rw [if_neg c]
      unfold fL_holds_408
      rw [if_pos (show bi (due b st (Int32.ofNat T) s) = 1 by unfold due; rw [decide_eq_false c]; rfl), zN_1]
      exact nxt
end HL
