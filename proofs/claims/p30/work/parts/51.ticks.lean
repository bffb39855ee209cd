/-! ticks: what they do to the blocks, and what comes first -/
def em (b : Nat → Int32) : Nat := cn (fun i => decide (b i = -1)) 256
def TF (b b2 : Nat → Int32) (N : Nat) : Prop := em b2 = em b + N ∧ (∀ i, b i < 0 → b2 i = b i) ∧ (∀ i, zq b2 i = true → zq b i = true)
theorem TF.rf (b : Nat → Int32) : TF b b 0 := ⟨(Nat.add_zero _).symm, fun _ _ => rfl, fun _ h => h⟩
theorem TF.tr {b b2 b3 : Nat → Int32} {N M : Nat} (h1 : TF b b2 N) (h2 : TF b2 b3 M) : TF b b3 (N + M) :=
  ⟨by rw [h2.1, h1.1, Nat.add_assoc], fun i hi => by rw [h2.2.1 i (by rw [h1.2.1 i hi]; exact hi), h1.2.1 i hi], fun i hi => h1.2.2 i (h2.2.2 i hi)⟩
theorem m1_neg : (-1 : Int32) < 0 := by decide
theorem em_ew {b : Nat → Int32} {s : Nat} : ∀ m, s + m ≤ 256 → (∀ i, s ≤ i → i < s + m → zq b i = true) → em (ew b s m) = em b + m
  | 0, _, _ => by rw [ew_0, Nat.add_zero]
  | m + 1, h, hq => by
    have ih := em_ew m (by omega) (fun i h1 h2 => hq i h1 (by omega))
    have h1 : (fun i => decide (ew b s (m + 1) i = -1)) (s + m) = true := by
      rw [← ew_up]
      exact decide_eq_true (zupd_self _ _ _)
    have h2 : (fun i => decide (ew b s m i = -1)) (s + m) = false := by
      have e : ew b s m (s + m) = b (s + m) := if_neg (by omega)
      show decide (ew b s m (s + m) = -1) = false
      rw [e]
      exact decide_eq_false (fun q => zq_nn (hq (s + m) (by omega) (by omega)) (by rw [q]; exact m1_neg))
    have := cn_drop h1 h2 256 (fun i hi hn => by
      show decide (ew b s m i = -1) = decide (ew b s (m + 1) i = -1)
      rw [← ew_up, zupd_ne _ _ hn]) (by omega)
    unfold em at ih ⊢
    omega
theorem em_DS {n : Nat} {b : Nat → Int32} {dr : Int32} {b2 : Nat → Int32} {dr2 : Int32} (h : DS n b dr b2 dr2) : em b2 = em b :=
  cn_congr 256 fun i _ => by
    rcases DS_at h i with e | ⟨e1, e2⟩
    · rw [e]
    · rw [e2]
      have : ¬ b i = -1 := fun q => zq_nn e1 (by rw [q]; exact m1_neg)
      rw [decide_eq_false this]; decide
theorem dz {b pF pL st : Nat → Int32} {tm : Int32} (cm ds dr : Int32) (hI : IV b tm) {g : Nat} (hg : g < 5) (hst : st 0 = Int32.ofNat g) {i n : Nat} (hn : 0 < n) (hin : i + n ≤ 256) (hf : ∀ j, i ≤ j → j < i + n → fr (zq b) (pn pF pL) (2 ^ g) j = true) : ∃ b2 dr2, fX0_discard b st cm ds dr (Int32.ofNat i) (Int32.ofNat n) = some (b2, cm + 1, ds + Int32.ofNat (n * 2 ^ g), dr2) ∧ IV b2 tm ∧ TF b b2 (n * 2 ^ g) ∧ R16 b2 ∧ (i + n) * 2 ^ g ≤ 256 ∧ (∀ j, i * 2 ^ g ≤ j → j < (i + n) * 2 ^ g → zq b j = true ∧ b2 j = -1) := by
  have hG := zG_pos g
  have hs : i * 2 ^ g + n * 2 ^ g ≤ 256 := by
    have := fr_lt (hf (i + n - 1) (by omega) (by omega))
    rw [show i + n - 1 + 1 = i + n by omega, Nat.add_mul] at this; exact this
  have hq := fr_span hG hf
  obtain ⟨k, b2, dr2, e1, hd⟩ := fx_drop (ew b (i * 2 ^ g) (n * 2 ^ g)) dr
  refine ⟨b2, dr2, ?_, IV_DS hd (IV_ew hI _ _), ⟨?_, fun j hj => ?_, fun j hj => ?_⟩, DS_16 hd, by rw [Nat.add_mul]; exact hs, fun j h1 h2 => ?_⟩
  · unfold fX0_discard
    rw [hst, zshl g hg i (by omega), zshl g hg n (by omega)]
    have e2 := fx_discard_22 b cm ds dr (i * 2 ^ g) (n * 2 ^ g) hs (n * 2 ^ g) 0 1000 (by omega) (by omega)
    rw [ew_0, Nat.add_zero, e1] at e2
    exact e2
  · rw [em_DS hd, em_ew _ hs hq]
  · have e2 : ew b (i * 2 ^ g) (n * 2 ^ g) j = b j := by
      by_cases c : i * 2 ^ g ≤ j ∧ j < i * 2 ^ g + n * 2 ^ g
      · exact absurd hj (zq_nn (hq j c.1 c.2))
      · exact if_neg c
    rw [DS_neg hd (by rw [e2]; exact hj), e2]
  · exact (ew_q (DS_q hd hj).1).1
  · rw [Nat.add_mul] at h2
    have e2 : ew b (i * 2 ^ g) (n * 2 ^ g) j = -1 := if_pos ⟨h1, h2⟩
    exact ⟨hq j h1 h2, by rw [DS_neg hd (by rw [e2]; exact m1_neg), e2]⟩
theorem ad0 (x : Int32) : x + Int32.ofNat 0 = x := Int32.add_zero x
theorem tk7 {pF pL st : Nat → Int32} (hp : PV pF pL) (hS : SV st) {T : Nat} (hT : T + 1 < 2147483648) {qt : Int32} : ∀ (n B k f : Nat) (b : Nat → Int32) (cm ds dr : Int32), B ≤ n → k + B ≤ 40 → n < f → IV b (Int32.ofNat T) →
    ∃ b2 dr2 M N, fX0_tick_7 pF pL st f (Int32.ofNat B) (Int32.ofNat k) b (Int32.ofNat T) qt cm ds dr = some (b2, Int32.ofNat (T + 1), qt + 1, cm + Int32.ofNat M, ds + Int32.ofNat N, dr2) ∧ M ≤ B ∧ TF b b2 N ∧ IV b2 (Int32.ofNat (T + 1)) ∧ (R16 b → R16 b2) := by
  obtain ⟨g, hg1, hg2⟩ := hS 0 (by omega)
  obtain ⟨C, hC1, hC2⟩ := hS 4 (by omega)
  obtain ⟨o, ho1, ho2⟩ := hS 5 (by omega)
  have hg : g < 5 := by have : zGm 0 = 4 := rfl; omega
  have hC : C ≤ 9 := hC2
  have ho : o < 3 := by have : zGm 5 = 2 := rfl; omega
  have hG := zG_pos g
  intro n
  induction n with
  | zero =>
    intro B k f b cm ds dr hB hk hf hI
    obtain ⟨f, rfl⟩ := zfuel hf
    obtain rfl : B = 0 := by omega
    have c : Int32.ofNat 0 ≤ st 4 := by rw [hC1]; exact (zN_le (by omega) (by omega)).mpr (Nat.zero_le _)
    refine ⟨b, dr, 0, 0, ?_, Nat.le_refl _, TF.rf b, IV_more hI hT, fun h => h⟩
    rw [fX0_tick_7, if_neg (z256 (by omega)), if_pos c, zN_1, ad0, ad0]
  | succ n ih =>
    intro B k f b cm ds dr hB hk hf hI
    obtain ⟨f, rfl⟩ := zfuel hf
    by_cases c : B ≤ C
    · have c1 : Int32.ofNat B ≤ st 4 := by rw [hC1]; exact (zN_le (by omega) (by omega)).mpr c
      refine ⟨b, dr, 0, 0, ?_, Nat.zero_le _, TF.rf b, IV_more hI hT, fun h => h⟩
      rw [fX0_tick_7, if_neg (z256 (by omega)), if_pos c1, zN_1, ad0, ad0]
    · have c1 : ¬ Int32.ofNat B ≤ st 4 := by rw [hC1]; exact fun q => c ((zN_le (by omega) (by omega)).mp q)
      obtain ⟨v, e1, hv1⟩ := fx_choose (dd := true) hp hI hg hg1 ho
      replace e1 : fX0_choosePiece b pF pL st (Int32.ofNat T) 1 (Int32.ofNat o) = some v := e1
      rw [fX0_tick_7, if_neg (z256 (by omega)), if_neg c1, ho1, e1, ob_some]
      rcases CH_piece hI hv1 with rfl | ⟨s, hs, rfl, hb⟩
      · refine ⟨b, dr, 0, 0, ?_, Nat.zero_le _, TF.rf b, IV_more hI hT, fun h => h⟩
        rw [if_pos rfl, zN_1, ad0, ad0]
      · have hB2 : zB (fr (zq b) (pn pF pL) (2 ^ g)) := fr_B hG
        have hgt := eo_gt hB2 (bg_iff.mp hb).1
        have hle := eo_le hB2 (j := s) (by omega)
        have hm : min 16 (B - C) ≤ 256 := by omega
        rw [if_neg (zN_m (by omega)), fx_most hC1 (by omega) (by omega), ob_some, fx_granulesFrom hp hg hg1 (by omega) hm, ob_some]
        generalize hN : min (min 16 (B - C)) (eo (fr (zq b) (pn pF pL) (2 ^ g)) s - s) = N
        obtain ⟨b2, dr2, k1, k2, k3, k4, k5, k6⟩ := dz (pF := pF) (pL := pL) cm ds dr hI hg hg1 (i := s) (n := N) (by omega) (by omega) (fun j j1 j2 => eo_in hB2 j1 (by omega))
        rw [k1, ob4_some, hC1, zN_add, zN_sub (by omega), zN_1]
        obtain ⟨b3, dr3, M, N2, m1, m2, m3, m4, m5⟩ := ih (B - (C + N)) (k + 1) f b2 (cm + 1) (ds + Int32.ofNat (N * 2 ^ g)) dr2 (by omega) (by omega) (by omega) k2
        refine ⟨b3, dr3, 1 + M, N * 2 ^ g + N2, ?_, by omega, k3.tr m3, m4, fun _ => m5 k4⟩
        rw [m1, Int32.add_assoc, Int32.add_assoc, zN_add, show (1 : Int32) = Int32.ofNat 1 from rfl, zN_add]
theorem tk {pF pL st : Nat → Int32} (hp : PV pF pL) (hS : SV st) {T : Nat} (hT : T + 1 < 2147483648) {g : Nat} (hg : g < 5) (hg1 : st 0 = Int32.ofNat g) (b : Nat → Int32) (qt cm ds dr : Int32) (hI : IV b (Int32.ofNat T)) :
    ∃ b2 dr2 M N, fX0_tick b pF pL st (Int32.ofNat T) qt cm ds dr = some (b2, Int32.ofNat (T + 1), qt + 1, cm + Int32.ofNat M, ds + Int32.ofNat N, dr2) ∧ M ≤ 40 ∧ TF b b2 N ∧ IV b2 (Int32.ofNat (T + 1)) ∧ (R16 b → R16 b2) ∧
      ((fX0_pieceOfTick b pF pL st (Int32.ofNat T) qt = some (-1) ∧ M = 0 ∧ b2 = b) ∨
        ∃ s n, s < 256 ∧ n ≤ 16 ∧ fX0_pieceOfTick b pF pL st (Int32.ofNat T) qt = some (Int32.ofNat s) ∧ fX0_granulesOfTick b pF pL st qt (Int32.ofNat s) = some (Int32.ofNat n) ∧ 0 < n ∧ (s + n) * 2 ^ g ≤ 256 ∧ 0 < M ∧ ∀ j, s * 2 ^ g ≤ j → j < (s + n) * 2 ^ g → zq b j = true ∧ b2 j = -1) := by
  obtain ⟨C, hC1, hC2⟩ := hS 4 (by omega)
  obtain ⟨o, ho1, ho2⟩ := hS 5 (by omega)
  obtain ⟨Bd, hB1, hB2⟩ := hS 2 (by omega)
  have hC : C ≤ 9 := hC2
  have hBd : Bd ≤ 40 := hB2
  have ho : o < 3 := by have : zGm 5 = 2 := rfl; omega
  have stop : ∀ (f N : Nat), N ≤ C → ∃ b2 dr2 M N2, fX0_tick_7 pF pL st (f + 1) (Int32.ofNat N) (Int32.ofNat 0) b (Int32.ofNat T) qt cm ds dr = some (b2, Int32.ofNat (T + 1), qt + 1, cm + Int32.ofNat M, ds + Int32.ofNat N2, dr2) ∧ M ≤ 40 ∧ TF b b2 N2 ∧ IV b2 (Int32.ofNat (T + 1)) ∧ (R16 b → R16 b2) ∧ M = 0 ∧ b2 = b := fun f N hN => by
    have c1 : Int32.ofNat N ≤ st 4 := by rw [hC1]; exact (zN_le (by omega) (by omega)).mpr hN
    refine ⟨b, dr, 0, 0, ?_, Nat.zero_le _, TF.rf b, IV_more hI hT, fun h => h, rfl, rfl⟩
    rw [fX0_tick_7, if_neg (z256 (by omega)), if_pos c1, zN_1, ad0, ad0]
  unfold fX0_tick fX0_pieceOfTick fX0_granulesOfTick fX0_budgetOfTick
  by_cases c : qt < st 1
  · rw [if_pos c, ob_some, ob_some]
    obtain ⟨b2, dr2, M, N2, m1, m2, m3, m4, m5, m6, m7⟩ := stop 999 0 (Nat.zero_le _)
    exact ⟨b2, dr2, M, N2, m1, m2, m3, m4, m5, Or.inl ⟨if_pos (by rw [hC1]; exact zN_nn (by omega)), m6, m7⟩⟩
  · rw [if_neg c, ob_some, ob_some, hB1]
    by_cases c2 : Bd ≤ C
    · obtain ⟨b2, dr2, M, N2, m1, m2, m3, m4, m5, m6, m7⟩ := stop 999 Bd c2
      exact ⟨b2, dr2, M, N2, m1, m2, m3, m4, m5, Or.inl ⟨if_pos (by rw [hC1]; exact (zN_le (by omega) (by omega)).mpr c2), m6, m7⟩⟩
    · have c1 : ¬ Int32.ofNat Bd ≤ st 4 := by rw [hC1]; exact fun q => c2 ((zN_le (by omega) (by omega)).mp q)
      have hG := zG_pos g
      obtain ⟨v, e1, hv1⟩ := fx_choose (dd := true) hp hI hg hg1 ho
      replace e1 : fX0_choosePiece b pF pL st (Int32.ofNat T) 1 (Int32.ofNat o) = some v := e1
      rw [if_neg c1, ho1, e1, ob_some]
      have unf : ∀ f : Nat, fX0_tick_7 pF pL st (f + 1) (Int32.ofNat Bd) (Int32.ofNat 0) b (Int32.ofNat T) qt cm ds dr = if v = -1 then some (b, Int32.ofNat T + 1, qt + 1, cm, ds, dr) else ob (fX0_mostGranules st (Int32.ofNat Bd)) fun r5 => ob (fX0_granulesFrom b pF pL st v r5) fun r6 => ob4 (fX0_discard b st cm ds dr v r6) fun b7 cm7 ds7 dr7 => fX0_tick_7 pF pL st f (Int32.ofNat Bd - (st 4 + r6)) (Int32.ofNat 0 + 1) b7 (Int32.ofNat T) qt cm7 ds7 dr7 := fun f => by
        rw [fX0_tick_7, if_neg (z256 (by omega)), if_neg c1, ho1, e1, ob_some]
      rcases CH_piece hI hv1 with rfl | ⟨s, hs, rfl, hb⟩
      · refine ⟨b, dr, 0, 0, ?_, Nat.zero_le _, TF.rf b, IV_more hI hT, fun h => h, Or.inl ⟨rfl, rfl, rfl⟩⟩
        rw [ad0, ad0, ← zN_1]
        exact (unf 999).trans (if_pos rfl)
      · have hB2 : zB (fr (zq b) (pn pF pL) (2 ^ g)) := fr_B hG
        have hgt := eo_gt hB2 (bg_iff.mp hb).1
        have hle := eo_le hB2 (j := s) (by omega)
        have hm : min 16 (Bd - C) ≤ 256 := by omega
        have hmost := fx_most hC1 (show C < Bd by omega) hBd
        have hgr := fx_granulesFrom (b := b) hp hg hg1 (i := s) (by omega) hm
        generalize hN : min (min 16 (Bd - C)) (eo (fr (zq b) (pn pF pL) (2 ^ g)) s - s) = N at hgr
        obtain ⟨b2, dr2, k1, k2, k3, k4, k5, k6⟩ := dz (pF := pF) (pL := pL) cm ds dr hI hg hg1 (i := s) (n := N) (by omega) (by omega) (fun j j1 j2 => eo_in hB2 j1 (by omega))
        obtain ⟨b3, dr3, M, N2, m1, m2, m3, m4, m5⟩ := tk7 hp hS hT (qt := qt) 40 (Bd - (C + N)) 1 999 b2 (cm + 1) (ds + Int32.ofNat (N * 2 ^ g)) dr2 (by omega) (by omega) (by omega) k2
        refine ⟨b3, dr3, 1 + M, N * 2 ^ g + N2, ?_, by omega, k3.tr m3, m4, fun _ => m5 k4, Or.inr ⟨s, N, hs, by omega, rfl, ?_, by omega, k5, by omega, fun j h1 h2 => ⟨(k6 j h1 h2).1, ?_⟩⟩⟩
        · refine (unf 999).trans ?_
          rw [if_neg (zN_m (by omega)), hmost, ob_some, hgr, ob_some, k1, ob4_some, hC1, zN_add, zN_sub (by omega), zN_1]
          refine m1.trans ?_
          rw [Int32.add_assoc, Int32.add_assoc, zN_add, show (1 : Int32) = Int32.ofNat 1 from rfl, zN_add]
        · rw [ob_some, hmost, ob_some, hgr, ob_some]
        · rw [m3.2.1 j (by rw [(k6 j h1 h2).2]; exact m1_neg), (k6 j h1 h2).2]
