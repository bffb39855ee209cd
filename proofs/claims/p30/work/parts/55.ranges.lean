/-! ranges, granules, pieces: by their numbers, and summed up -/
theorem cn_t {p : Nat → Bool} {k : Nat} (h : p k = true) : cn p (k + 1) = cn p k + 1 := by rw [cn, if_pos h]
theorem cn_f {p : Nat → Bool} {k : Nat} (h : p k = false) : cn p (k + 1) = cn p k := by
  rw [cn, if_neg (by rw [h]; exact Bool.false_ne_true), Nat.add_zero]
theorem so_bg {q : Nat → Bool} : ∀ k, q k = true → bg q (so q k) = true ∧ cn (bg q) (k + 1) = cn (bg q) (so q k) + 1
  | 0, h => by
    have hb : bg q 0 = true := bg_iff.mpr ⟨h, fun h0 => absurd h0 (Nat.lt_irrefl _)⟩
    exact ⟨hb, cn_t hb⟩
  | k + 1, h => by
    cases c : q k with
    | true =>
      have e : so q (k + 1) = so q k := by rw [so, c]; rfl
      obtain ⟨h1, h2⟩ := so_bg k c
      have hb : bg q (k + 1) = false := by rw [bg_pv, pv_succ, c]; simp
      rw [e]
      exact ⟨h1, by rw [cn_f hb]; exact h2⟩
    | false =>
      have e : so q (k + 1) = k + 1 := by rw [so, c]; rfl
      have hb : bg q (k + 1) = true := by rw [bg_pv, pv_succ, c, h]; rfl
      rw [e]
      exact ⟨hb, cn_t hb⟩
theorem gap {q : Nat → Bool} {e : Nat} (he : e = 0 ∨ q e = false) {s : Nat} (hc : cn (bg q) e = cn (bg q) s) : ∀ i, e ≤ i → i < s → q i = false := by
  intro i h1 h2
  cases hq : q i with
  | false => rfl
  | true =>
    exfalso
    obtain ⟨b1, b2⟩ := so_bg i hq
    have hle := so_le q i
    by_cases c : so q i < e
    · have h3 : q e = true := by
        by_cases ei : e = i
        · rw [ei]; exact hq
        · exact so_in q i e (by omega) (by omega)
      rcases he with rfl | he
      · omega
      · rw [he] at h3; cases h3
    · have m1 := cn_mono (bg q) (m := e) (so q i) (by omega)
      have m2 := cn_mono (bg q) (m := so q i + 1) s (by omega)
      rw [cn_t b1] at m2
      omega
theorem cn_gap' {p : Nat → Bool} {e : Nat} : ∀ n, (∀ i, e ≤ i → i < e + n → p i = false) → cn p (e + n) = cn p e
  | 0, _ => rfl
  | n + 1, h => by
    rw [← Nat.add_assoc, cn_f (h (e + n) (by omega) (by omega))]
    exact cn_gap' n (fun i h1 h2 => h i h1 (by omega))
theorem cn_gap {p : Nat → Bool} {e s : Nat} (hs : e ≤ s) (h : ∀ i, e ≤ i → i < s → p i = false) : cn p s = cn p e := by
  have := cn_gap' (p := p) (e := e) (s - e) (fun i h1 h2 => h i h1 (by omega))
  rw [show e + (s - e) = s by omega] at this
  exact this
theorem cn_all' {p : Nat → Bool} {e : Nat} : ∀ n, (∀ i, e ≤ i → i < e + n → p i = true) → cn p (e + n) = cn p e + n
  | 0, _ => rfl
  | n + 1, h => by
    rw [← Nat.add_assoc, cn_t (h (e + n) (by omega) (by omega)), cn_all' n (fun i h1 h2 => h i h1 (by omega))]
    omega
theorem cn_all {p : Nat → Bool} {e s : Nat} (hs : e ≤ s) (h : ∀ i, e ≤ i → i < s → p i = true) : cn p s = cn p e + (s - e) := by
  have := cn_all' (p := p) (e := e) (s - e) (fun i h1 h2 => h i h1 (by omega))
  rw [show e + (s - e) = s by omega] at this
  exact this
theorem cn_dle {p f : Nat → Bool} (hpf : ∀ i, p i = true → f i = true) {A : Nat} : ∀ n, cn p (A + n) + cn f A ≤ cn f (A + n) + cn p A
  | 0 => by rw [Nat.add_zero]; omega
  | n + 1 => by
    have ih := cn_dle hpf (A := A) n
    rw [← Nat.add_assoc]
    cases hp : p (A + n) with
    | true => rw [cn_t hp, cn_t (hpf _ hp)]; omega
    | false =>
      rw [cn_f hp]
      have := cn_mono f (m := A + n) (A + n + 1) (by omega)
      omega
theorem cn_dif {p f : Nat → Bool} (hpf : ∀ i, p i = true → f i = true) (A D : Nat) : cn p D - cn p A ≤ cn f D - cn f A := by
  by_cases c : A ≤ D
  · have := cn_dle hpf (A := A) (D - A)
    rw [show A + (D - A) = D by omega] at this
    have := cn_mono p (m := A) D c
    have := cn_mono f (m := A) D c
    omega
  · have := cn_mono p (m := D) A (by omega)
    omega
theorem fr_gap {q p : Nat → Bool} {G : Nat} (hG : 0 < G) {e s : Nat} (he : e = 0 ∨ q e = false) (hs : e ≤ s) (h : ∀ i, e ≤ i → i < s → q i = false) : e / G ≤ (s + G - 1) / G ∧ cn (fr q p G) ((s + G - 1) / G) = cn (fr q p G) (e / G) := by
  have h1 : e / G ≤ (s + G - 1) / G := Nat.div_le_div_right (by omega)
  refine ⟨h1, cn_gap h1 fun i h2 h3 => ?_⟩
  cases hf : fr q p G i with
  | false => rfl
  | true =>
    exfalso
    obtain ⟨y1, y2⟩ := fr_iff.mp hf
    have h4 : (i + 1) * G ≤ s + G - 1 := Nat.le_trans (Nat.mul_le_mul_right G h3) (Nat.div_mul_le_self _ _)
    rw [Nat.add_mul, Nat.one_mul] at h4
    have hes : e = i * G ∨ ¬ e = i * G := Decidable.em _
    by_cases c : e ≤ i * G
    · have := (y2 0 hG).1
      rw [Nat.add_zero, h (i * G) c (by omega)] at this
      cases this
    · have h5 : i = e / G := Nat.le_antisymm ((Nat.le_div_iff_mul_le hG).mpr (by omega)) h2
      have hqe : q e = false := by
        rcases he with rfl | he
        · omega
        · exact he
      have h7 := (y2 (e % G) (Nat.mod_lt _ hG)).1
      rw [h5, Nat.mul_comm, Nat.div_add_mod, hqe] at h7
      cases h7
theorem div256 : ∀ g, g < 5 → (256 + 2 ^ g - 1) / 2 ^ g = 256 / 2 ^ g := by decide
section RGV
variable {b pF pL st : Nat → Int32} {T : Nat}
theorem vr_all (hp : PV pF pL) {g : Nat} (hg : g < 5) (hg1 : st 0 = Int32.ofNat g) {k : Nat} (hk : k < cn (bg (zq b)) 256) : ∃ s, s < 256 ∧ bg (zq b) s = true ∧ cn (bg (zq b)) s = k ∧
    fX3_range b pF pL st (Int32.ofNat T) (Int32.ofNat k) 0 = some (0, Int32.ofNat s) ∧
    fX3_range b pF pL st (Int32.ofNat T) (Int32.ofNat k) 1 = some (0, Int32.ofNat (eo (zq b) s - s)) ∧
    fX3_range b pF pL st (Int32.ofNat T) (Int32.ofNat k) 2 = some (0, b s) ∧
    fX3_range b pF pL st (Int32.ofNat T) (Int32.ofNat k) 3 = some (0, Int32.ofNat (cn (bg (fr (zq b) (pn pF pL) (2 ^ g))) (eo (zq b) s / 2 ^ g) - cn (bg (fr (zq b) (pn pF pL) (2 ^ g))) ((s + 2 ^ g - 1) / 2 ^ g))) ∧
    fX3_range b pF pL st (Int32.ofNat T) (Int32.ofNat k) 4 = some (0, Int32.ofNat (cn (fr (zq b) (pn pF pL) (2 ^ g)) (eo (zq b) s / 2 ^ g) - cn (fr (zq b) (pn pF pL) (2 ^ g)) ((s + 2 ^ g - 1) / 2 ^ g))) ∧
    fX3_range b pF pL st (Int32.ofNat T) (Int32.ofNat k) 5 = some (0, bi (due b st (Int32.ofNat T) s)) := by
  have hG := zG_pos g
  have hG2 := zG_le g hg
  have hB : zB (fr (zq b) (pn pF pL) (2 ^ g)) := fr_B hG
  have hR := cn_le (bg (zq b)) 256
  obtain ⟨s2, f1, f5, f3⟩ := fx_first_7 (b := b) hk 256 0 1000 rfl (by omega) (Nat.zero_le _)
  replace f1 : fX0_firstOfRange b (Int32.ofNat k) = some (Int32.ofNat s2) := f1
  have hs := bg_lt f5
  obtain ⟨hsq, hsp⟩ := bg_iff.mp f5
  have fe : fX0_endOfRange b (Int32.ofNat s2) = some (Int32.ofNat (eo (zq b) s2)) := fx_end_2 b (256 - s2) s2 1000 rfl (by omega) (by omega)
  have hgt := eo_gt (zq_B b) hsq
  have hle := eo_le (zq_B b) (j := s2) (by omega)
  have hend := eo_end (zq_B b) s2
  refine ⟨s2, hs, f5, f3, ?_⟩
  generalize hE : eo (zq b) s2 = E at fe hgt hle hend ⊢
  have ha : pv (fr (zq b) (pn pF pL) (2 ^ g)) ((s2 + 2 ^ g - 1) / 2 ^ g) = false := by
    unfold pv
    by_cases z : 0 < (s2 + 2 ^ g - 1) / 2 ^ g
    · rw [decide_eq_true z, Bool.true_and]
      cases hf : fr (zq b) (pn pF pL) (2 ^ g) ((s2 + 2 ^ g - 1) / 2 ^ g - 1)
      · rfl
      · obtain ⟨y1, y2⟩ := fr_iff.mp hf
        exfalso
        have d1 := Nat.div_add_mod s2 (2 ^ g)
        by_cases m0 : s2 % 2 ^ g = 0
        · obtain ⟨w1, -⟩ := ceil_0 hG m0
          rw [w1] at z y2
          have q1 := (y2 (2 ^ g - 1) (by omega)).1
          have : (s2 / 2 ^ g - 1) * 2 ^ g + (2 ^ g - 1) = s2 - 1 := by
            rw [Nat.mul_comm, Nat.mul_sub, Nat.mul_one]
            have : 2 ^ g ≤ 2 ^ g * (s2 / 2 ^ g) := Nat.le_mul_of_pos_right _ z
            omega
          rw [this, hsp (by
            have : 2 ^ g ≤ 2 ^ g * (s2 / 2 ^ g) := Nat.le_mul_of_pos_right _ z
            omega)] at q1
          cases q1
        · obtain ⟨w1, -⟩ := ceil_1 hG m0
          rw [w1, Nat.add_sub_cancel] at y2
          have hl := Nat.mod_lt s2 hG
          have q1 := (y2 (s2 % 2 ^ g - 1) (by omega)).1
          rw [Nat.mul_comm] at q1
          rw [show 2 ^ g * (s2 / 2 ^ g) + (s2 % 2 ^ g - 1) = s2 - 1 by omega, hsp (by omega)] at q1
          cases q1
    · rw [decide_eq_false z]; rfl
  have hdiv : (E / 2 ^ g) ≤ 256 := Nat.le_trans (Nat.div_le_self _ _) hle
  have hdiv2 : (s2 + 2 ^ g - 1) / 2 ^ g ≤ E / 2 ^ g + 1 := by
    rw [← Nat.add_div_right _ hG]
    exact Nat.div_le_div_right (by omega)
  generalize hA : (s2 + 2 ^ g - 1) / 2 ^ g = A at ha hdiv2 ⊢
  generalize hDD : E / 2 ^ g = D at hdiv hdiv2 ⊢
  have cp : fX0_countPieces b pF pL st (Int32.ofNat s2) (Int32.ofNat E) = some (Int32.ofNat (cn (bg (fr (zq b) (pn pF pL) (2 ^ g))) (D) - cn (bg (fr (zq b) (pn pF pL) (2 ^ g))) (A))) := by
    unfold fX0_countPieces
    rw [fx_granuleFrom hg hg1 (by omega), ob_some, hg1, zshr g hg _ (by omega), hA, hDD]
    by_cases c : A ≤ D
    · have e := fx_pieces_22 (b := b) hp hg hg1 hdiv (cn (bg (fr (zq b) (pn pF pL) (2 ^ g))) (A)) (D - A) A 1000 (by omega) (by omega) (Nat.le_refl _)
      rw [Nat.sub_self, ha] at e
      exact e
    · rw [fX0_countPieces_22, if_pos ((zN_le (by omega) (by omega)).mpr (by omega))]
      have := cn_mono (bg (fr (zq b) (pn pF pL) (2 ^ g))) (m := D) (A) (by omega)
      rw [Nat.sub_eq_zero_of_le this]; rfl
  have cg : fX0_countGranules b pF pL st (Int32.ofNat s2) (Int32.ofNat E) = some (Int32.ofNat (cn (fr (zq b) (pn pF pL) (2 ^ g)) (D) - cn (fr (zq b) (pn pF pL) (2 ^ g)) (A))) := by
    unfold fX0_countGranules
    rw [fx_granuleFrom hg hg1 (by omega), ob_some, hg1, zshr g hg _ (by omega), hA, hDD]
    by_cases c : A ≤ D
    · have e := fx_countGranules_19 (b := b) hp hg hg1 hdiv (cn (fr (zq b) (pn pF pL) (2 ^ g)) (A)) (D - A) A 1000 (by omega) (by omega) (Nat.le_refl _)
      rw [Nat.sub_self] at e
      exact e
    · rw [fX0_countGranules_19, if_pos ((zN_le (by omega) (by omega)).mpr (by omega))]
      have := cn_mono (fr (zq b) (pn pF pL) (2 ^ g)) (m := D) (A) (by omega)
      rw [Nat.sub_eq_zero_of_le this]; rfl
  have key : ∀ a2 : Int32, fX3_range b pF pL st (Int32.ofNat T) (Int32.ofNat k) a2 = if a2 = 0 then some (0, Int32.ofNat s2) else if a2 = 1 then some (0, (Int32.ofNat E - Int32.ofNat s2)) else if a2 = 2 then ob (fX0_timeOf b (Int32.ofNat s2)) fun r9 => some (0, r9) else if a2 = 3 then ob (fX0_countPieces b pF pL st (Int32.ofNat s2) (Int32.ofNat E)) fun r11 => some (0, r11) else if a2 = 4 then ob (fX0_countGranules b pF pL st (Int32.ofNat s2) (Int32.ofNat E)) fun r13 => some (0, r13) else if a2 = 5 then ob (fX0_isDue b st (Int32.ofNat T) (Int32.ofNat s2)) fun r15 => if r15 = 0 then some (0, 0) else some (0, 1) else some (2, 0) := fun a2 => by
    unfold fX3_range
    rw [if_neg (zN_neg (by omega)), fx_countRanges, ob_some, if_pos ((zN_lt (by omega) (by omega)).mpr hk), f1, ob_some, fe, ob_some]
  refine ⟨?_, ?_, ?_, ?_, ?_, ?_⟩
  · rw [key, if_pos rfl]
  · rw [key, if_neg (by decide), if_pos rfl, zN_sub (by omega)]
  · rw [key, if_neg (by decide), if_neg (by decide), if_pos rfl]
    unfold fX0_timeOf
    rw [if_neg (zi256 hs), zk256 hs]; rfl
  · rw [key, if_neg (by decide), if_neg (by decide), if_neg (by decide), if_pos rfl, cp]; rfl
  · rw [key, if_neg (by decide), if_neg (by decide), if_neg (by decide), if_neg (by decide), if_pos rfl, cg]; rfl
  · rw [key, if_neg (by decide), if_neg (by decide), if_neg (by decide), if_neg (by decide), if_neg (by decide), if_pos rfl, fx_isDue hs, ob_some]
    cases due b st (Int32.ofNat T) s2
    · rw [if_pos bi_f]; rfl
    · rw [if_neg (show ¬ bi true = 0 by decide)]; rfl
theorem v_stuck (hp : PV pF pL) {g : Nat} (hg : g < 5) (hg1 : st 0 = Int32.ofNat g) : fX3_stuck b pF pL st = some (Int32.ofNat (cn (zq b) 256) - Int32.ofNat (cn (fr (zq b) (pn pF pL) (2 ^ g)) (256 / 2 ^ g) * 2 ^ g)) := by
  have hN : 256 / 2 ^ g ≤ 256 := Nat.div_le_self _ _
  have hG := zG_pos g
  unfold fX3_stuck fX0_countGranules
  have e0 : fX0_granuleFrom st 0 = some (Int32.ofNat 0) := by
    have := fx_granuleFrom hg hg1 (a := 0) (by omega)
    rw [Nat.zero_add, Nat.div_eq_of_lt (by omega)] at this
    exact this
  have e1 := fx_countGranules_19 (b := b) hp hg hg1 hN 0 (256 / 2 ^ g) 0 1000 (by omega) (by omega) (Nat.zero_le _)
  rw [Nat.sub_zero] at e1
  rw [fx_countQueued, ob_some, e0, ob_some, hg1, show (256 : Int32) = Int32.ofNat 256 from rfl, zshr g hg 256 (by omega)]
  replace e1 : fX0_countGranules_19 b pF pL st 1000 0 (Int32.ofNat (256 / 2 ^ g)) (Int32.ofNat 0) = _ := e1
  rw [e1, ob_some, fx_granule hg hg1, ob_some, zN_mul, Nat.sub_zero]
end RGV
