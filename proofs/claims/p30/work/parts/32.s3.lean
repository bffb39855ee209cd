theorem ob_some {α γ : Type} (x : α) (k : α → Option γ) : ob (some x) k = k x := rfl
/-! the piece that an order chooses -/
/-- the first of those that weigh least -/
def LM (c : Nat → Bool) (w : Nat → Int) (s : Nat) : Prop := c s = true ∧ (∀ i, c i = true → w s ≤ w i) ∧ (∀ i, i < s → c i = true → w s < w i)
theorem LM_one {c : Nat → Bool} {w : Nat → Int} {s t : Nat} (h1 : LM c w s) (h2 : LM c w t) : s = t := by
  rcases Nat.lt_trichotomy s t with h | h | h
  · have a := h2.2.2 s h h1.1
    have b := h1.2.1 t h2.1
    omega
  · exact h
  · have a := h1.2.2 t h h2.1
    have b := h2.2.1 s h1.1
    omega
/-- what is chosen: NONE, or the first of those that weigh least -/
def CH (c : Nat → Bool) (w : Nat → Int) (v : Int32) : Prop := (v = -1 ∧ ∀ i, c i = false) ∨ ∃ s, s < 256 ∧ v = Int32.ofNat s ∧ LM c w s
/-- a range is due -/
def due (b st : Nat → Int32) (tm : Int32) (j : Nat) : Bool := !decide (tm - b j < st 3)
/-- a granule that can be chosen -/
def fd (b pF pL st : Nat → Int32) (tm : Int32) (dd : Bool) (G i : Nat) : Bool := fr (zq b) (pn pF pL) G i && (!dd || due b st tm (i * G))
theorem fd_fr {b pF pL st : Nat → Int32} {tm : Int32} {dd : Bool} {G i : Nat} (h : fd b pF pL st tm dd G i = true) : fr (zq b) (pn pF pL) G i = true := by
  unfold fd at h
  rw [Bool.and_eq_true] at h
  exact h.1
theorem fd_B {b pF pL st : Nat → Int32} {tm : Int32} {dd : Bool} {G : Nat} (hG : 0 < G) : zB (fd b pF pL st tm dd G) := fun i hi => by
  unfold fd
  rw [fr_B hG i hi]; rfl
theorem fd_lt {b pF pL st : Nat → Int32} {tm : Int32} {dd : Bool} {G i : Nat} (h : fd b pF pL st tm dd G i = true) : (i + 1) * G ≤ 256 := fr_lt (fd_fr h)
/-- side by side, the same time -/
theorem fr_time {b pF pL : Nat → Int32} {tm : Int32} {G i : Nat} (hG : 0 < G) (hI : IV b tm) (h1 : fr (zq b) (pn pF pL) G i = true) (h2 : fr (zq b) (pn pF pL) G (i + 1) = true) : b (i * G) = b ((i + 1) * G) := by
  obtain ⟨a1, a2⟩ := fr_iff.mp h1
  obtain ⟨c1, c2⟩ := fr_iff.mp h2
  have e : (i + 1) * G = i * G + G := by rw [Nat.add_mul, Nat.one_mul]
  have e2 : (i + 1 + 1) * G = i * G + G + G := by rw [Nat.add_mul, Nat.one_mul, e]
  refine uni (b := b) (lo := i * G) ((i + 1) * G) (fun j g1 g2 => ?_) (i * G) (Nat.le_refl _) (by omega)
  refine hI.2.1 j (by omega) ?_ ?_
  · have := (a2 (j - i * G) (by omega)).1
    rw [show i * G + (j - i * G) = j by omega] at this; exact this
  · by_cases c : j + 1 < (i + 1) * G
    · have := (a2 (j + 1 - i * G) (by omega)).1
      rw [show i * G + (j + 1 - i * G) = j + 1 by omega] at this; exact this
    · have := (c2 0 hG).1
      rw [show (i + 1) * G + 0 = j + 1 by omega] at this; exact this
/-- of one piece all are due, or none -/
theorem fd_next {b pF pL st : Nat → Int32} {tm : Int32} {dd : Bool} {G i : Nat} (hG : 0 < G) (hI : IV b tm) (h1 : fr (zq b) (pn pF pL) G i = true) (h2 : fr (zq b) (pn pF pL) G (i + 1) = true) : fd b pF pL st tm dd G i = fd b pF pL st tm dd G (i + 1) := by
  unfold fd due
  rw [h1, h2, fr_time hG hI h1 h2]
theorem fd_bg {b pF pL st : Nat → Int32} {tm : Int32} {dd : Bool} {G : Nat} (hG : 0 < G) (hI : IV b tm) (i : Nat) : bg (fd b pF pL st tm dd G) i = (bg (fr (zq b) (pn pF pL) G) i && (!dd || due b st tm (i * G))) := by
  rw [bg_pv, bg_pv]
  cases h1 : fr (zq b) (pn pF pL) G i
  · rw [show fd b pF pL st tm dd G i = false by unfold fd; rw [h1]; rfl]; rfl
  · cases i with
    | zero =>
      rw [show fd b pF pL st tm dd G 0 = (!dd || due b st tm (0 * G)) by unfold fd; rw [h1]; rfl]
      show (_ && !false) = (true && !false && _)
      simp
    | succ i =>
      rw [pv_succ, pv_succ]
      cases h2 : fr (zq b) (pn pF pL) G i
      · rw [show fd b pF pL st tm dd G i = false by unfold fd; rw [h2]; rfl]
        rw [show fd b pF pL st tm dd G (i + 1) = (!dd || due b st tm ((i + 1) * G)) by unfold fd; rw [h1]; rfl]
        simp
      · rw [fd_next hG hI h2 h1]
        simp
theorem fd_eo {b pF pL st : Nat → Int32} {tm : Int32} {dd : Bool} {G : Nat} (hG : 0 < G) (hI : IV b tm) {i : Nat} (h : fd b pF pL st tm dd G i = true) : eo (fd b pF pL st tm dd G) i = eo (fr (zq b) (pn pF pL) G) i := by
  have hB := fr_B (q := zq b) (p := pn pF pL) hG
  refine eo_eq (fd_B hG) (eo_ge hB i) ?_ ?_
  · intro j g1 g2
    have key : ∀ n, i + n < eo (fr (zq b) (pn pF pL) G) i → fd b pF pL st tm dd G (i + n) = true := by
      intro n
      induction n with
      | zero => intro _; exact h
      | succ n ih =>
        intro hn
        have h1 := ih (by omega)
        rw [← Nat.add_assoc, ← fd_next hG hI (fd_fr h1) (eo_in hB (j := i) (i := i + n + 1) (by omega) (by omega))]
        exact h1
    have := key (j - i) (by omega)
    rw [show i + (j - i) = j by omega] at this; exact this
  · unfold fd
    rw [eo_end hB i]; rfl
/-- what an order weighs -/
def wt (b : Nat → Int32) (f : Nat → Bool) (G : Nat) (o : Nat) (i : Nat) : Int := if o = 0 then (b (i * G)).toInt else if o = 1 then -((eo f i - i : Nat) : Int) else 0
/-! the Model's choice -/
theorem mdue {b st r : Nat → Int32} {tm : Int32} (hb : RB b r) (h3 : r 776 = st 3) (ht : r 768 = tm) {j : Nat} (hj : j < 256) (hq : zq b j = true) : fX4_isDue r (Int32.ofNat j) = some (bi (due b st tm j)) := by
  unfold fX4_isDue
  rw [z512k, if_neg (zi785 (by omega)), zk785 (by omega), ht, h3, (hb j hj).2.2, if_neg (zq_nn hq)]
  unfold due
  by_cases c : tm - b j < st 3
  · rw [if_pos c, decide_eq_true c]; rfl
  · rw [if_neg c, decide_eq_false c]; rfl
/-- the choice among the pieces that begin ahead of a block -/
def zCh (c : Nat → Bool) (w : Nat → Int) (G : Nat) (v : Int32) (j : Nat) : Prop :=
  (v = -1 ∧ ∀ i, i * G < j → c i = false) ∨ ∃ s, v = Int32.ofNat (s * G) ∧ s * G < j ∧ c s = true ∧ (∀ i, i * G < j → c i = true → w s ≤ w i) ∧ (∀ i, i < s → c i = true → w s < w i)
theorem zCh_skip {c : Nat → Bool} {w : Nat → Int} {G j : Nat} {v : Int32} (h : zCh c w G v j) (hn : ∀ i, i * G = j → c i = false) : zCh c w G v (j + 1) := by
  rcases h with ⟨h1, h2⟩ | ⟨s, h1, h2, h3, h4, h5⟩
  · refine Or.inl ⟨h1, fun i hi => ?_⟩
    by_cases e : i * G = j
    · exact hn i e
    · exact h2 i (by omega)
  · refine Or.inr ⟨s, h1, by omega, h3, fun i hi hi2 => ?_, h5⟩
    by_cases e : i * G = j
    · rw [hn i e] at hi2; cases hi2
    · exact h4 i (by omega) hi2
theorem zCh_keep {c : Nat → Bool} {w : Nat → Int} {G i s : Nat} (hG : 0 < G) (hi : i * G ≤ 256) (h : zCh c w G (Int32.ofNat (s * G)) (i * G)) (hm : s * G ≤ 256) (hw : w s ≤ w i) : zCh c w G (Int32.ofNat (s * G)) (i * G + 1) := by
  rcases h with ⟨h1, h2⟩ | ⟨t, h1, h2, h3, h4, h5⟩
  · exact absurd h1 (zN_m (by omega))
  · have e : s * G = t * G := (zN_inj (by omega) (by omega)).mp h1
    have e2 : s = t := Nat.eq_of_mul_eq_mul_right hG e
    subst e2
    refine Or.inr ⟨s, rfl, by omega, h3, fun k hk hk2 => ?_, h5⟩
    by_cases e : k * G = i * G
    · rw [Nat.eq_of_mul_eq_mul_right hG e]; exact hw
    · exact h4 k (by omega) hk2
theorem zCh_new {c : Nat → Bool} {w : Nat → Int} {G i s : Nat} (hG : 0 < G) (hi : i * G ≤ 256) (h : zCh c w G (Int32.ofNat (s * G)) (i * G)) (hm : s * G ≤ 256) (hc : c i = true) (hw : w i < w s) : zCh c w G (Int32.ofNat (i * G)) (i * G + 1) := by
  rcases h with ⟨h1, h2⟩ | ⟨t, h1, h2, h3, h4, h5⟩
  · exact absurd h1 (zN_m (by omega))
  · have e : s * G = t * G := (zN_inj (by omega) (by omega)).mp h1
    have e2 : s = t := Nat.eq_of_mul_eq_mul_right hG e
    subst e2
    refine Or.inr ⟨i, rfl, by omega, hc, fun k hk hk2 => ?_, fun k hk hk2 => ?_⟩
    · by_cases e : k * G = i * G
      · rw [Nat.eq_of_mul_eq_mul_right hG e]; exact Int.le_refl _
      · have := h4 k (by omega) hk2; omega
    · have h6 : k * G < i * G := Nat.mul_lt_mul_of_pos_right hk hG
      have := h4 k h6 hk2; omega
theorem zCh_first {c : Nat → Bool} {w : Nat → Int} {G i : Nat} (hG : 0 < G) (h : zCh c w G (-1) (i * G)) (hi : i * G ≤ 256) (hc : c i = true) : zCh c w G (Int32.ofNat (i * G)) (i * G + 1) := by
  rcases h with ⟨h1, h2⟩ | ⟨t, h1, h2, h3, h4, h5⟩
  · refine Or.inr ⟨i, rfl, by omega, hc, fun k hk hk2 => ?_, fun k hk hk2 => ?_⟩
    · by_cases e : k * G = i * G
      · rw [Nat.eq_of_mul_eq_mul_right hG e]; exact Int.le_refl _
      · rw [h2 k (by omega)] at hk2; cases hk2
    · rw [h2 k (Nat.mul_lt_mul_of_pos_right hk hG)] at hk2; cases hk2
  · exact absurd h1.symm (zN_m (by omega))
theorem z0o : ∀ o, o < 3 → (Int32.ofNat o = 0 ↔ o = 0) := by decide
theorem z1o : ∀ o, o < 3 → (Int32.ofNat o = 1 ↔ o = 1) := by decide
theorem z2o : ∀ o, o < 3 → (Int32.ofNat o = 2 ↔ o = 2) := by decide
theorem mchosen_better {b pF pL st r : Nat → Int32} {tm : Int32} {dd : Bool} {g : Nat} (hb : RB b r) (hp : PV pF pL) (hr : RP pF pL r) (hI : IV b tm) (hg : g < 5) (h : r 773 = Int32.ofNat g) {o : Nat} (ho : o < 3) {i : Nat} (hi : i * 2 ^ g < 256) (hc : bg (fd b pF pL st tm dd (2 ^ g)) i = true) {v3 : Int32} (hv : zCh (bg (fd b pF pL st tm dd (2 ^ g))) (wt b (fd b pF pL st tm dd (2 ^ g)) (2 ^ g) o) (2 ^ g) v3 (i * 2 ^ g)) (f : Nat) (v2 : Int32) : ∃ v, zCh (bg (fd b pF pL st tm dd (2 ^ g))) (wt b (fd b pF pL st tm dd (2 ^ g)) (2 ^ g) o) (2 ^ g) v (i * 2 ^ g + 1) ∧
    (if v3 = (-1) then
              fX4_chosen_5 r f (Int32.ofNat o) v2 (Int32.ofNat (i * 2 ^ g)) (Int32.ofNat (i * 2 ^ g + 1))
            else
              if Int32.ofNat o = 0 then
                if (512 + Int32.ofNat (i * 2 ^ g)) < 0 ∨ 785 ≤ (512 + Int32.ofNat (i * 2 ^ g)).toNatClampNeg then none else
                if (512 + v3) < 0 ∨ 785 ≤ (512 + v3).toNatClampNeg then none else
                if (r (512 + Int32.ofNat (i * 2 ^ g)).toNatClampNeg) < (r (512 + v3).toNatClampNeg) then
                  fX4_chosen_5 r f (Int32.ofNat o) v2 (Int32.ofNat (i * 2 ^ g)) (Int32.ofNat (i * 2 ^ g + 1))
                else
                  if Int32.ofNat o = 1 then
                    ob (fX4_piece r (Int32.ofNat (i * 2 ^ g))) fun r21 =>
                    ob (fX4_piece r v3) fun r22 =>
                    if r21 ≤ r22 then
                      fX4_chosen_5 r f (Int32.ofNat o) v2 v3 (Int32.ofNat (i * 2 ^ g + 1))
                    else
                      fX4_chosen_5 r f (Int32.ofNat o) v2 (Int32.ofNat (i * 2 ^ g)) (Int32.ofNat (i * 2 ^ g + 1))
                  else
                    fX4_chosen_5 r f (Int32.ofNat o) v2 v3 (Int32.ofNat (i * 2 ^ g + 1))
              else
                if Int32.ofNat o = 1 then
                  ob (fX4_piece r (Int32.ofNat (i * 2 ^ g))) fun r10 =>
                  ob (fX4_piece r v3) fun r11 =>
                  if r10 ≤ r11 then
                    fX4_chosen_5 r f (Int32.ofNat o) v2 v3 (Int32.ofNat (i * 2 ^ g + 1))
                  else
                    fX4_chosen_5 r f (Int32.ofNat o) v2 (Int32.ofNat (i * 2 ^ g)) (Int32.ofNat (i * 2 ^ g + 1))
                else
                  fX4_chosen_5 r f (Int32.ofNat o) v2 v3 (Int32.ofNat (i * 2 ^ g + 1))) = fX4_chosen_5 r f (Int32.ofNat o) v2 v (Int32.ofNat (i * 2 ^ g + 1)) := by
  have hG := zG_pos g
  have hB : zB (fr (zq b) (pn pF pL) (2 ^ g)) := fr_B hG
  by_cases c0 : v3 = -1
  · subst c0
    exact ⟨_, zCh_first hG hv (by omega) hc, if_pos rfl⟩
  · have hv0 := hv
    rcases hv with ⟨h1, -⟩ | ⟨s, rfl, h2, h3, -, -⟩
    · exact absurd h1 c0
    · rw [if_neg c0]
      have hs := (bg_iff.mp h3).1
      have hsf := fd_fr hs
      have hif := fd_fr (bg_iff.mp hc).1
      have hsq : zq b (s * 2 ^ g) = true := ((fr_iff.mp hsf).2 0 hG).1
      have hiq : zq b (i * 2 ^ g) = true := ((fr_iff.mp hif).2 0 hG).1
      have hsl := fr_lt hsf
      have hs256 : s ≤ 256 := by
        by_cases e : s < 256
        · omega
        · rw [hB s (by omega)] at hsf; cases hsf
      have hi256 : i ≤ 256 := by
        by_cases e : i < 256
        · omega
        · rw [hB i (by omega)] at hif; cases hif
      have e1 : r (512 + i * 2 ^ g) = b (i * 2 ^ g) := by rw [(hb _ hi).2.2, if_neg (zq_nn hiq)]
      have e2 : r (512 + s * 2 ^ g) = b (s * 2 ^ g) := by rw [(hb _ (by omega)).2.2, if_neg (zq_nn hsq)]
      by_cases o0 : o = 0
      · rw [if_pos ((z0o o ho).mpr o0), z512k, z512k, if_neg (zi785 (by omega)), if_neg (zi785 (by omega)), zk785 (by omega), zk785 (by omega), e1, e2, if_neg (show ¬ Int32.ofNat o = 1 from fun q => by have := (z1o o ho).mp q; omega)]
        by_cases c : b (i * 2 ^ g) < b (s * 2 ^ g)
        · rw [if_pos c]
          refine ⟨_, zCh_new hG (by omega) hv0 (by omega) hc ?_, rfl⟩
          unfold wt
          rw [if_pos o0, if_pos o0]
          exact Int32.lt_iff_toInt_lt.mp c
        · rw [if_neg c]
          refine ⟨_, zCh_keep hG (by omega) hv0 (by omega) ?_, rfl⟩
          unfold wt
          rw [if_pos o0, if_pos o0]
          exact Int32.le_iff_toInt_le.mp (zNot_lt.mp c)
      · rw [if_neg (show ¬ Int32.ofNat o = 0 from fun q => o0 ((z0o o ho).mp q))]
        by_cases o1 : o = 1
        · rw [if_pos ((z1o o ho).mpr o1), mpiece hb.q hp hr hg h hi256, mpiece hb.q hp hr hg h hs256]
          have b1 : bg (fr (zq b) (pn pF pL) (2 ^ g)) i = true := by
            have := hc
            rw [fd_bg hG hI, Bool.and_eq_true] at this; exact this.1
          have b2 : bg (fr (zq b) (pn pF pL) (2 ^ g)) s = true := by
            have := h3
            rw [fd_bg hG hI, Bool.and_eq_true] at this; exact this.1
          have g1 := eo_le hB hi256
          have g2 := eo_le hB hs256
          have g3 := eo_ge hB i
          have g4 := eo_ge hB s
          show ∃ v, _ ∧ (if Int32.ofNat (pc _ i) ≤ Int32.ofNat (pc _ s) then _ else _) = _
          rw [show pc (fr (zq b) (pn pF pL) (2 ^ g)) i = eo (fr (zq b) (pn pF pL) (2 ^ g)) i - i from if_pos b1, show pc (fr (zq b) (pn pF pL) (2 ^ g)) s = eo (fr (zq b) (pn pF pL) (2 ^ g)) s - s from if_pos b2]
          by_cases c : eo (fr (zq b) (pn pF pL) (2 ^ g)) i - i ≤ eo (fr (zq b) (pn pF pL) (2 ^ g)) s - s
          · rw [if_pos ((zN_le (by omega) (by omega)).mpr c)]
            refine ⟨_, zCh_keep hG (by omega) hv0 (by omega) ?_, rfl⟩
            unfold wt
            rw [if_neg o0, if_pos o1, if_neg o0, if_pos o1, fd_eo hG hI (bg_iff.mp hc).1, fd_eo hG hI hs]
            omega
          · rw [if_neg (fun q => c ((zN_le (by omega) (by omega)).mp q))]
            refine ⟨_, zCh_new hG (by omega) hv0 (by omega) hc ?_, rfl⟩
            unfold wt
            rw [if_neg o0, if_pos o1, if_neg o0, if_pos o1, fd_eo hG hI (bg_iff.mp hc).1, fd_eo hG hI hs]
            omega
        · rw [if_neg (show ¬ Int32.ofNat o = 1 from fun q => o1 ((z1o o ho).mp q))]
          refine ⟨_, zCh_keep hG (by omega) hv0 (by omega) ?_, rfl⟩
          unfold wt
          rw [if_neg o0, if_neg o1, if_neg o0, if_neg o1]
          exact Int.le_refl _
theorem mchosen_5 {b pF pL st r : Nat → Int32} {tm : Int32} {dd : Bool} {g : Nat} (hb : RB b r) (hp : PV pF pL) (hr : RP pF pL r) (hI : IV b tm) (ht : r 768 = tm) (h3 : r 776 = st 3) (hg : g < 5) (h : r 773 = Int32.ofNat g) {o : Nat} (ho : o < 3) : ∀ n j f v3, j + n = 256 → n < f → zCh (bg (fd b pF pL st tm dd (2 ^ g))) (wt b (fd b pF pL st tm dd (2 ^ g)) (2 ^ g) o) (2 ^ g) v3 j → ∃ v, fX4_chosen_5 r f (Int32.ofNat o) (bi dd) v3 (Int32.ofNat j) = some v ∧ zCh (bg (fd b pF pL st tm dd (2 ^ g))) (wt b (fd b pF pL st tm dd (2 ^ g)) (2 ^ g) o) (2 ^ g) v 256 := by
  have hG := zG_pos g
  intro n
  induction n with
  | zero =>
    intro j f v3 hj hf hv
    obtain ⟨f, rfl⟩ := zfuel hf
    obtain rfl : j = 256 := by omega
    rw [fX4_chosen_5, if_pos z256p]
    exact ⟨v3, rfl, hv⟩
  | succ n ih =>
    intro j f v3 hj hf hv
    obtain ⟨f, rfl⟩ := zfuel hf
    have hj2 : j < 256 := by omega
    rw [fX4_chosen_5, if_neg (z256 hj2), zN_1]
    by_cases hm : j % 2 ^ g = 0
    · obtain ⟨i, rfl⟩ : ∃ i, j = i * 2 ^ g := ⟨j / 2 ^ g, by have h2 := Nat.div_add_mod j (2 ^ g); rw [Nat.mul_comm]; omega⟩
      have hi256 : i ≤ 256 := Nat.le_trans (Nat.le_mul_of_pos_right i hG) (by omega)
      rw [mpiece hb.q hp hr hg h hi256]
      have skip : bg (fd b pF pL st tm dd (2 ^ g)) i = false → ∃ v, fX4_chosen_5 r f (Int32.ofNat o) (bi dd) v3 (Int32.ofNat (i * 2 ^ g + 1)) = some v ∧ zCh (bg (fd b pF pL st tm dd (2 ^ g))) (wt b (fd b pF pL st tm dd (2 ^ g)) (2 ^ g) o) (2 ^ g) v 256 := fun hc =>
        ih _ f v3 (by omega) (by omega) (zCh_skip hv fun k hk => by rw [Nat.eq_of_mul_eq_mul_right hG hk]; exact hc)
      have go : bg (fd b pF pL st tm dd (2 ^ g)) i = true → ∃ v, zCh (bg (fd b pF pL st tm dd (2 ^ g))) (wt b (fd b pF pL st tm dd (2 ^ g)) (2 ^ g) o) (2 ^ g) v (i * 2 ^ g + 1) ∧ _ = fX4_chosen_5 r f (Int32.ofNat o) (bi dd) v (Int32.ofNat (i * 2 ^ g + 1)) := fun hc => mchosen_better hb hp hr hI hg h ho hj2 hc hv f (bi dd)
      show ∃ v, (if Int32.ofNat (pc (fr (zq b) (pn pF pL) (2 ^ g)) i) ≤ 0 then _ else _) = some v ∧ _
      by_cases c : bg (fr (zq b) (pn pF pL) (2 ^ g)) i = true
      · have hq : zq b (i * 2 ^ g) = true := ((fr_iff.mp (bg_iff.mp c).1).2 0 hG).1
        have hgt := eo_gt (fr_B hG) (bg_iff.mp c).1
        have hle := eo_le (fr_B hG (q := zq b) (p := pn pF pL)) hi256
        rw [show pc (fr (zq b) (pn pF pL) (2 ^ g)) i = eo (fr (zq b) (pn pF pL) (2 ^ g)) i - i from if_pos c]
        rw [if_neg (show ¬ Int32.ofNat (eo (fr (zq b) (pn pF pL) (2 ^ g)) i - i) ≤ 0 from fun q => by have := (zN_le (a := eo (fr (zq b) (pn pF pL) (2 ^ g)) i - i) (c := 0) (by omega) (by omega)).mp q; omega)]
        have hcd := fd_bg (st := st) (dd := dd) (pF := pF) (pL := pL) hG hI i
        rw [c, Bool.true_and] at hcd
        cases dd
        · rw [if_pos bi_f]
          obtain ⟨v, g1, g2⟩ := go hcd
          rw [mpiece hb.q hp hr hg h hi256, show pc (fr (zq b) (pn pF pL) (2 ^ g)) i = eo (fr (zq b) (pn pF pL) (2 ^ g)) i - i from if_pos c] at g2
          obtain ⟨v2, g3, g4⟩ := ih _ f v (by omega) (by omega) g1
          exact ⟨v2, g2.trans g3, g4⟩
        · rw [if_neg (show ¬ bi true = 0 by decide), mdue hb h3 ht hj2 hq]
          show ∃ v, (if bi (due b st tm (i * 2 ^ g)) = 0 then _ else _) = some v ∧ _
          cases hd : due b st tm (i * 2 ^ g)
          · rw [if_pos bi_f]
            exact skip (by rw [hcd, hd]; rfl)
          · rw [if_neg (show ¬ bi true = 0 by decide)]
            obtain ⟨v, g1, g2⟩ := go (by rw [hcd, hd]; rfl)
            rw [mpiece hb.q hp hr hg h hi256, show pc (fr (zq b) (pn pF pL) (2 ^ g)) i = eo (fr (zq b) (pn pF pL) (2 ^ g)) i - i from if_pos c] at g2
            obtain ⟨v2, g3, g4⟩ := ih _ f v (by omega) (by omega) g1
            exact ⟨v2, g2.trans g3, g4⟩
      · rw [show pc (fr (zq b) (pn pF pL) (2 ^ g)) i = 0 from if_neg c, if_pos (by decide)]
        refine skip ?_
        rw [fd_bg hG hI, Bool.not_eq_true _ |>.mp c]; rfl
    · rw [mpiece_0 hb.q hp hr hg h (by omega) hm]
      rw [ob_some, if_pos (show (0 : Int32) ≤ 0 by decide)]
      refine ih _ f v3 (by omega) (by omega) (zCh_skip hv fun k hk => ?_)
      rw [← hk] at hm
      exact absurd (Nat.mul_mod_left _ _) hm
/-- a granule's block; NONE -/
def blk (G : Nat) (v : Int32) : Int32 := if v = -1 then -1 else v * Int32.ofNat G
theorem mchosen {b pF pL st r : Nat → Int32} {tm : Int32} {dd : Bool} {g : Nat} (hb : RB b r) (hp : PV pF pL) (hr : RP pF pL r) (hI : IV b tm) (ht : r 768 = tm) (h3 : r 776 = st 3) (hg : g < 5) (h : r 773 = Int32.ofNat g) {o : Nat} (ho : o < 3) : ∃ v, fX4_chosen r (Int32.ofNat o) (bi dd) = some (blk (2 ^ g) v) ∧ CH (bg (fd b pF pL st tm dd (2 ^ g))) (wt b (fd b pF pL st tm dd (2 ^ g)) (2 ^ g) o) v := by
  have hG := zG_pos g
  obtain ⟨v, g1, g2⟩ := mchosen_5 (dd := dd) hb hp hr hI ht h3 hg h ho 256 0 1000 (-1) rfl (by omega) (Or.inl ⟨rfl, fun i hi => absurd hi (Nat.not_lt_zero _)⟩)
  have lt : ∀ i, bg (fd b pF pL st tm dd (2 ^ g)) i = true → i * 2 ^ g < 256 := fun i hi => by
    have := fd_lt (bg_iff.mp hi).1
    rw [Nat.add_mul, Nat.one_mul] at this; omega
  rcases g2 with ⟨rfl, h2⟩ | ⟨s, rfl, h2, h4, h5, h6⟩
  · refine ⟨-1, g1, Or.inl ⟨rfl, fun i => ?_⟩⟩
    cases hc : bg (fd b pF pL st tm dd (2 ^ g)) i
    · rfl
    · rw [h2 i (lt i hc)] at hc; cases hc
  · have hs : s < 256 := Nat.lt_of_le_of_lt (Nat.le_mul_of_pos_right s hG) h2
    refine ⟨Int32.ofNat s, ?_, Or.inr ⟨s, hs, rfl, h4, fun i hi => h5 i (lt i hi) hi, h6⟩⟩
    unfold blk
    rw [if_neg (zN_m (by omega)), zN_mul]
    exact g1
theorem CH_one {c : Nat → Bool} {w : Nat → Int} {v v2 : Int32} (h1 : CH c w v) (h2 : CH c w v2) : v = v2 := by
  rcases h1 with ⟨rfl, a⟩ | ⟨s, _, rfl, a⟩
  · rcases h2 with ⟨rfl, _⟩ | ⟨t, _, rfl, d⟩
    · rfl
    · have := d.1; rw [a t] at this; cases this
  · rcases h2 with ⟨rfl, d⟩ | ⟨t, _, rfl, d⟩
    · have := a.1; rw [d s] at this; cases this
    · rw [LM_one a d]
/-! the choice -/
theorem fx_isDue {b st : Nat → Int32} {tm : Int32} {j : Nat} (hj : j < 256) : fX0_isDue b st tm (Int32.ofNat j) = some (bi (due b st tm j)) := by
  unfold fX0_isDue
  rw [if_neg (zi256 hj), zk256 hj]
  unfold due
  by_cases c : tm - b j < st 3
  · rw [if_pos c, decide_eq_true c]; rfl
  · rw [if_neg c, decide_eq_false c]; rfl
theorem zdiv256 : ∀ g, g < 5 → ∀ i, i < 256 / 2 ^ g → i * 2 ^ g < 256 ∧ i < 256 := by decide +kernel
/-- a step of the choice -/
theorem fx_choose_step {b pF pL st : Nat → Int32} {tm : Int32} {dd : Bool} {g : Nat} (hp : PV pF pL) (hg : g < 5) (h : st 0 = Int32.ofNat g) {i : Nat} (hi : i < 256 / 2 ^ g) (f : Nat) (v2 v3 v4 v5 v6 : Int32) :
    fX0_choosePiece_26 b pF pL st tm (f + 1) (bi dd) v2 v3 v4 v5 v6 (Int32.ofNat (256 / 2 ^ g)) (Int32.ofNat i) =
      if fd b pF pL st tm dd (2 ^ g) i = true then
        if v2 = 2 then some (Int32.ofNat i)
        else if v2 = 1 then
          if (v6 + 1) ≤ v5 then fX0_choosePiece_26 b pF pL st tm f (bi dd) v2 v3 v4 v5 (v6 + 1) (Int32.ofNat (256 / 2 ^ g)) (Int32.ofNat (i + 1))
          else fX0_choosePiece_26 b pF pL st tm f (bi dd) v2 ((Int32.ofNat i - (v6 + 1)) + 1) v4 (v6 + 1) (v6 + 1) (Int32.ofNat (256 / 2 ^ g)) (Int32.ofNat (i + 1))
        else if v3 = (-1) then fX0_choosePiece_26 b pF pL st tm f (bi dd) v2 (Int32.ofNat i) (b (i * 2 ^ g)) v5 (v6 + 1) (Int32.ofNat (256 / 2 ^ g)) (Int32.ofNat (i + 1))
        else if v4 ≤ b (i * 2 ^ g) then fX0_choosePiece_26 b pF pL st tm f (bi dd) v2 v3 v4 v5 (v6 + 1) (Int32.ofNat (256 / 2 ^ g)) (Int32.ofNat (i + 1))
        else fX0_choosePiece_26 b pF pL st tm f (bi dd) v2 (Int32.ofNat i) (b (i * 2 ^ g)) v5 (v6 + 1) (Int32.ofNat (256 / 2 ^ g)) (Int32.ofNat (i + 1))
      else fX0_choosePiece_26 b pF pL st tm f (bi dd) v2 v3 v4 v5 0 (Int32.ofNat (256 / 2 ^ g)) (Int32.ofNat (i + 1)) := by
  have hG := zG_pos g
  obtain ⟨hi1, hi2⟩ := zdiv256 g hg i hi
  have hN : 256 / 2 ^ g ≤ 256 := Nat.div_le_self _ _
  have hin := zi256 hi1
  rw [fX0_choosePiece_26, if_neg (fun q => by have := (zN_le (by omega) (by omega)).mp q; omega), h, zshl g hg i (by omega), if_neg hin, zN_1]
  rw [zk256 hi1] at *
  by_cases c : b (i * 2 ^ g) < 0
  · have : fd b pF pL st tm dd (2 ^ g) i = false := by
      cases e : fd b pF pL st tm dd (2 ^ g) i
      · rfl
      · have := ((fr_iff.mp (fd_fr e)).2 0 hG).1
        rw [Nat.add_zero, zq_f c] at this; cases this
    rw [if_pos c, this, if_neg Bool.false_ne_true]
  · rw [if_neg c, if_neg hin, if_neg hin, fx_isFree hp hg h (by omega), fx_isDue hi1]
    have hfd : fd b pF pL st tm dd (2 ^ g) i = (fr (zq b) (pn pF pL) (2 ^ g) i && (!dd || due b st tm (i * 2 ^ g))) := rfl
    rw [hfd, ob_some, ob_some]
    cases dd
    · rw [if_pos bi_f]
      cases e : fr (zq b) (pn pF pL) (2 ^ g) i
      · rw [if_pos bi_f, if_neg (by simp)]
      · rw [if_neg (show ¬ bi true = 0 by decide), if_pos (show (true && (!false || due b st tm (i * 2 ^ g))) = true by simp)]
    · rw [if_neg (show ¬ bi true = 0 by decide)]
      cases e2 : due b st tm (i * 2 ^ g)
      · rw [if_pos bi_f, if_neg (by simp)]
      · rw [if_neg (show ¬ bi true = 0 by decide)]
        cases e : fr (zq b) (pn pF pL) (2 ^ g) i
        · rw [if_pos bi_f, if_neg (by simp)]
        · rw [if_neg (show ¬ bi true = 0 by decide), if_pos (show (true && (!true || true)) = true by simp)]
/-- the end of the choice -/
theorem fx_choose_end {b pF pL st : Nat → Int32} {tm : Int32} {dd : Bool} {g : Nat} (f : Nat) (v2 v3 v4 v5 v6 : Int32) : fX0_choosePiece_26 b pF pL st tm (f + 1) (bi dd) v2 v3 v4 v5 v6 (Int32.ofNat (256 / 2 ^ g)) (Int32.ofNat (256 / 2 ^ g)) = some v3 := by
  have hN : 256 / 2 ^ g ≤ 256 := Nat.div_le_self _ _
  rw [fX0_choosePiece_26, if_pos ((zN_le (by omega) (by omega)).mpr (Nat.le_refl _))]
theorem fd_N {b pF pL st : Nat → Int32} {tm : Int32} {dd : Bool} {g i : Nat} (h : fd b pF pL st tm dd (2 ^ g) i = true) : i < 256 / 2 ^ g := by
  have := fd_lt h
  have h2 : i + 1 ≤ 256 / 2 ^ g := (Nat.le_div_iff_mul_le (zG_pos g)).mpr this
  omega
/-- the first of all is a piece's first, too -/
theorem fd_first {b pF pL st : Nat → Int32} {tm : Int32} {dd : Bool} {G s : Nat} (h : fd b pF pL st tm dd G s = true) (hs : ∀ k, k < s → fd b pF pL st tm dd G k = false) : bg (fd b pF pL st tm dd G) s = true := bg_iff.mpr ⟨h, fun h0 => hs _ (by omega)⟩
theorem fx_choose2 {b pF pL st : Nat → Int32} {tm : Int32} {dd : Bool} {g : Nat} (hp : PV pF pL) (hg : g < 5) (h : st 0 = Int32.ofNat g) : ∀ n i f v3 v4 v5 v6, i + n = 256 / 2 ^ g → n < f → v3 = -1 → (∀ k, k < i → fd b pF pL st tm dd (2 ^ g) k = false) → ∃ v, fX0_choosePiece_26 b pF pL st tm f (bi dd) (Int32.ofNat 2) v3 v4 v5 v6 (Int32.ofNat (256 / 2 ^ g)) (Int32.ofNat i) = some v ∧ CH (bg (fd b pF pL st tm dd (2 ^ g))) (wt b (fd b pF pL st tm dd (2 ^ g)) (2 ^ g) 2) v := by
  intro n
  induction n with
  | zero =>
    intro i f v3 v4 v5 v6 hi hf hv hn
    obtain ⟨f, rfl⟩ := zfuel hf
    obtain rfl : i = 256 / 2 ^ g := by omega
    rw [fx_choose_end]
    refine ⟨v3, rfl, Or.inl ⟨hv, fun k => ?_⟩⟩
    cases c : bg (fd b pF pL st tm dd (2 ^ g)) k
    · rfl
    · have h1 := (bg_iff.mp c).1
      rw [hn k (fd_N h1)] at h1; cases h1
  | succ n ih =>
    intro i f v3 v4 v5 v6 hi hf hv hn
    obtain ⟨f, rfl⟩ := zfuel hf
    have hi2 : i < 256 / 2 ^ g := by omega
    rw [fx_choose_step hp hg h hi2]
    cases c : fd b pF pL st tm dd (2 ^ g) i
    · rw [if_neg Bool.false_ne_true]
      refine ih (i + 1) f _ _ _ _ (by omega) (by omega) hv (fun k hk => ?_)
      by_cases e : k = i
      · rw [e]; exact c
      · exact hn k (by omega)
    · rw [if_pos rfl, if_pos (show Int32.ofNat 2 = 2 from rfl)]
      have hN : 256 / 2 ^ g ≤ 256 := Nat.div_le_self _ _
      refine ⟨_, rfl, Or.inr ⟨i, by omega, rfl, fd_first c hn, fun k hk => ?_, fun k hk hk2 => ?_⟩⟩
      · unfold wt; simp
      · have h1 := (bg_iff.mp hk2).1
        rw [hn k hk] at h1; cases h1
/-- the earliest, the first of these -/
def zC0 (b : Nat → Int32) (f : Nat → Bool) (G : Nat) (v3 v4 : Int32) (i : Nat) : Prop :=
  (v3 = -1 ∧ ∀ k, k < i → f k = false) ∨ ∃ s, v3 = Int32.ofNat s ∧ s < i ∧ f s = true ∧ v4 = b (s * G) ∧ (∀ k, k < i → f k = true → b (s * G) ≤ b (k * G)) ∧ (∀ k, k < s → f k = true → b (s * G) < b (k * G))
theorem lt_of_not_le {x y : Int32} (h : ¬ x ≤ y) : y < x := zNot_le.mp h
theorem fx_choose0 {b pF pL st : Nat → Int32} {tm : Int32} {dd : Bool} {g : Nat} (hp : PV pF pL) (hI : IV b tm) (hg : g < 5) (h : st 0 = Int32.ofNat g) : ∀ n i f v3 v4 v5 v6, i + n = 256 / 2 ^ g → n < f → zC0 b (fd b pF pL st tm dd (2 ^ g)) (2 ^ g) v3 v4 i → ∃ v, fX0_choosePiece_26 b pF pL st tm f (bi dd) (Int32.ofNat 0) v3 v4 v5 v6 (Int32.ofNat (256 / 2 ^ g)) (Int32.ofNat i) = some v ∧ CH (bg (fd b pF pL st tm dd (2 ^ g))) (wt b (fd b pF pL st tm dd (2 ^ g)) (2 ^ g) 0) v := by
  have hN : 256 / 2 ^ g ≤ 256 := Nat.div_le_self _ _
  intro n
  induction n with
  | zero =>
    intro i f v3 v4 v5 v6 hi hf hv
    obtain ⟨f, rfl⟩ := zfuel hf
    obtain rfl : i = 256 / 2 ^ g := by omega
    rw [fx_choose_end]
    refine ⟨v3, rfl, ?_⟩
    rcases hv with ⟨h1, h2⟩ | ⟨s, h1, h2, h3, h4, h5, h6⟩
    · refine Or.inl ⟨h1, fun k => ?_⟩
      cases c : bg (fd b pF pL st tm dd (2 ^ g)) k
      · rfl
      · have h3 := (bg_iff.mp c).1
        rw [h2 k (fd_N h3)] at h3; cases h3
    · refine Or.inr ⟨s, by omega, h1, bg_iff.mpr ⟨h3, fun h0 => ?_⟩, fun k hk => ?_, fun k hk hk2 => ?_⟩
      · cases c : fd b pF pL st tm dd (2 ^ g) (s - 1)
        · rfl
        · have h7 := h6 (s - 1) (by omega) c
          have h8 := fr_time (zG_pos g) hI (fd_fr c) (by rw [show s - 1 + 1 = s by omega]; exact fd_fr h3)
          rw [show s - 1 + 1 = s by omega] at h8
          rw [h8] at h7
          exact absurd h7 Int32.lt_irrefl
      · have h7 := (bg_iff.mp hk).1
        unfold wt
        rw [if_pos rfl, if_pos rfl]
        exact Int32.le_iff_toInt_le.mp (h5 k (fd_N h7) h7)
      · unfold wt
        rw [if_pos rfl, if_pos rfl]
        exact Int32.lt_iff_toInt_lt.mp (h6 k hk (bg_iff.mp hk2).1)
  | succ n ih =>
    intro i f v3 v4 v5 v6 hi hf hv
    obtain ⟨f, rfl⟩ := zfuel hf
    have hi2 : i < 256 / 2 ^ g := by omega
    rw [fx_choose_step hp hg h hi2]
    cases c : fd b pF pL st tm dd (2 ^ g) i
    · rw [if_neg Bool.false_ne_true]
      refine ih (i + 1) f _ _ _ _ (by omega) (by omega) ?_
      rcases hv with ⟨h1, h2⟩ | ⟨s, h1, h2, h3, h4, h5, h6⟩
      · refine Or.inl ⟨h1, fun k hk => ?_⟩
        by_cases e : k = i
        · rw [e]; exact c
        · exact h2 k (by omega)
      · refine Or.inr ⟨s, h1, by omega, h3, h4, fun k hk hk2 => ?_, h6⟩
        by_cases e : k = i
        · rw [e, c] at hk2; cases hk2
        · exact h5 k (by omega) hk2
    · rw [if_pos rfl, if_neg (show ¬ Int32.ofNat 0 = 2 by decide), if_neg (show ¬ Int32.ofNat 0 = 1 by decide)]
      rcases hv with ⟨h1, h2⟩ | ⟨s, h1, h2, h3, h4, h5, h6⟩
      · rw [if_pos h1]
        refine ih (i + 1) f _ _ _ _ (by omega) (by omega) (Or.inr ⟨i, rfl, by omega, c, rfl, fun k hk hk2 => ?_, fun k hk hk2 => ?_⟩)
        · by_cases e : k = i
          · rw [e]; exact Int32.le_refl _
          · rw [h2 k (by omega)] at hk2; cases hk2
        · rw [h2 k hk] at hk2; cases hk2
      · rw [if_neg (by rw [h1]; exact zN_m (by omega)), h4]
        by_cases c2 : b (s * 2 ^ g) ≤ b (i * 2 ^ g)
        · rw [if_pos c2]
          refine ih (i + 1) f _ _ _ _ (by omega) (by omega) (Or.inr ⟨s, h1, by omega, h3, rfl, fun k hk hk2 => ?_, h6⟩)
          by_cases e : k = i
          · rw [e]; exact c2
          · exact h5 k (by omega) hk2
        · rw [if_neg c2]
          have c3 := lt_of_not_le c2
          refine ih (i + 1) f _ _ _ _ (by omega) (by omega) (Or.inr ⟨i, rfl, by omega, c, rfl, fun k hk hk2 => ?_, fun k hk hk2 => ?_⟩)
          · by_cases e : k = i
            · rw [e]; exact Int32.le_refl _
            · exact Int32.le_of_lt (Int32.lt_of_lt_of_le c3 (h5 k (by omega) hk2))
          · exact Int32.lt_of_lt_of_le c3 (h5 k (by omega) hk2)
/-- the longest, the first of these -/
def zC1 (f : Nat → Bool) (v3 : Int32) (most len i : Nat) : Prop :=
  len ≤ i ∧ (∀ k, i - len ≤ k → k < i → f k = true) ∧ (0 < i - len → f (i - len - 1) = false) ∧ most ≤ 256 ∧
  ((v3 = -1 ∧ most = 0 ∧ ∀ k, k < i → f k = false) ∨ ∃ s, v3 = Int32.ofNat s ∧ s < i ∧ bg f s = true ∧ most = min (eo f s) i - s ∧ (∀ k, k < i → bg f k = true → min (eo f k) i - k ≤ most) ∧ (∀ k, k < s → bg f k = true → min (eo f k) i - k < most))
theorem zC1_skip {f : Nat → Bool} (hB : zB f) {v3 : Int32} {most len i : Nat} (h : zC1 f v3 most len i) (hi : f i = false) : zC1 f v3 most 0 (i + 1) := by
  obtain ⟨a1, a2, a3, a4, a5⟩ := h
  have key : ∀ k, k < i → bg f k = true → eo f k ≤ i := fun k hk hk2 => by
    by_cases e : eo f k ≤ i
    · exact e
    · have := eo_in hB (j := k) (i := i) (by omega) (by omega)
      rw [hi] at this; cases this
  refine ⟨by omega, fun k h1 h2 => by omega, fun h0 => by rw [show i + 1 - 0 - 1 = i by omega]; exact hi, a4, ?_⟩
  rcases a5 with ⟨h1, h2, h3⟩ | ⟨s, h1, h2, h3, h4, h5, h6⟩
  · refine Or.inl ⟨h1, h2, fun k hk => ?_⟩
    by_cases e : k = i
    · rw [e]; exact hi
    · exact h3 k (by omega)
  · have h7 := key s h2 h3
    refine Or.inr ⟨s, h1, by omega, h3, by omega, fun k hk hk2 => ?_, fun k hk hk2 => ?_⟩
    · by_cases e : k = i
      · have := (bg_iff.mp hk2).1
        rw [e, hi] at this; cases this
      · have h8 := key k (by omega) hk2
        have := h5 k (by omega) hk2; omega
    · have h8 := key k (by omega) hk2
      have := h6 k hk hk2; omega
theorem zC1_more {f : Nat → Bool} (hB : zB f) {v3 : Int32} {most len i : Nat} (h : zC1 f v3 most len i) (hi : f i = true) (hi2 : i < 256) : (len + 1 ≤ most → zC1 f v3 most (len + 1) (i + 1)) ∧ (¬ len + 1 ≤ most → zC1 f (Int32.ofNat (i - len)) (len + 1) (len + 1) (i + 1)) := by
  obtain ⟨a1, a2, a3, a4, a5⟩ := h
  have cur : bg f (i - len) = true := by
    refine bg_iff.mpr ⟨?_, a3⟩
    by_cases e : len = 0
    · rw [e]; exact hi
    · exact a2 _ (by omega) (by omega)
  have curE : i + 1 ≤ eo f (i - len) := by
    by_cases e : i + 1 ≤ eo f (i - len)
    · exact e
    · have h1 := eo_end hB (i - len)
      have h2 := eo_ge hB (i - len)
      by_cases e2 : eo f (i - len) = i
      · rw [e2, hi] at h1; cases h1
      · rw [a2 _ h2 (by omega)] at h1; cases h1
  have oth : ∀ k, k < i + 1 → bg f k = true → k ≠ i - len → k < i - len ∧ eo f k < i - len := fun k hk hk2 hne => by
    obtain ⟨b1, b2⟩ := bg_iff.mp hk2
    by_cases e : k < i - len
    · refine ⟨e, ?_⟩
      have h3 := a3 (by omega)
      by_cases e2 : eo f k < i - len
      · exact e2
      · rw [eo_in hB (j := k) (i := i - len - 1) (by omega) (by omega)] at h3; cases h3
    · have := b2 (by omega)
      rw [a2 (k - 1) (by omega) (by omega)] at this; cases this
  have base1 : ∀ k, i + 1 - (len + 1) ≤ k → k < i + 1 → f k = true := fun k h1 h2 => by
    by_cases e : k = i
    · rw [e]; exact hi
    · exact a2 k (by omega) (by omega)
  have base2 : 0 < i + 1 - (len + 1) → f (i + 1 - (len + 1) - 1) = false := fun h0 => by
    rw [show i + 1 - (len + 1) = i - len by omega] at h0 ⊢
    exact a3 h0
  constructor
  · intro hm
    refine ⟨by omega, base1, base2, a4, ?_⟩
    rcases a5 with ⟨h1, h2, h3⟩ | ⟨s, h1, h2, h3, h4, h5, h6⟩
    · omega
    · have hs : s ≠ i - len := fun e => by rw [e] at h4; omega
      obtain ⟨o1, o2⟩ := oth s (by omega) h3 hs
      refine Or.inr ⟨s, h1, by omega, h3, by omega, fun k hk hk2 => ?_, fun k hk hk2 => ?_⟩
      · by_cases e : k = i - len
        · rw [e]; omega
        · obtain ⟨o3, o4⟩ := oth k hk hk2 e
          have := h5 k (by omega) hk2; omega
      · obtain ⟨o3, o4⟩ := oth k (by omega) hk2 (by omega)
        have := h6 k hk hk2; omega
  · intro hm
    refine ⟨by omega, base1, base2, by omega, Or.inr ⟨i - len, rfl, by omega, cur, by omega, fun k hk hk2 => ?_, fun k hk hk2 => ?_⟩⟩
    · by_cases e : k = i - len
      · rw [e]; omega
      · obtain ⟨o3, o4⟩ := oth k hk hk2 e
        rcases a5 with ⟨h1, h2, h3⟩ | ⟨s, h1, h2, h3, h4, h5, h6⟩
        · have := h3 k (by omega)
          rw [(bg_iff.mp hk2).1] at this; cases this
        · have := h5 k (by omega) hk2; omega
    · obtain ⟨o3, o4⟩ := oth k (by omega) hk2 (by omega)
      rcases a5 with ⟨h1, h2, h3⟩ | ⟨s, h1, h2, h3, h4, h5, h6⟩
      · have := h3 k (by omega)
        rw [(bg_iff.mp hk2).1] at this; cases this
      · have := h5 k (by omega) hk2; omega
theorem fx_choose1 {b pF pL st : Nat → Int32} {tm : Int32} {dd : Bool} {g : Nat} (hp : PV pF pL) (hg : g < 5) (h : st 0 = Int32.ofNat g) : ∀ n i f v3 v4 most len, i + n = 256 / 2 ^ g → n < f → zC1 (fd b pF pL st tm dd (2 ^ g)) v3 most len i → ∃ v, fX0_choosePiece_26 b pF pL st tm f (bi dd) (Int32.ofNat 1) v3 v4 (Int32.ofNat most) (Int32.ofNat len) (Int32.ofNat (256 / 2 ^ g)) (Int32.ofNat i) = some v ∧ CH (bg (fd b pF pL st tm dd (2 ^ g))) (wt b (fd b pF pL st tm dd (2 ^ g)) (2 ^ g) 1) v := by
  have hN : 256 / 2 ^ g ≤ 256 := Nat.div_le_self _ _
  have hB : zB (fd b pF pL st tm dd (2 ^ g)) := fd_B (zG_pos g)
  intro n
  induction n with
  | zero =>
    intro i f v3 v4 most len hi hf hv
    obtain ⟨f, rfl⟩ := zfuel hf
    obtain rfl : i = 256 / 2 ^ g := by omega
    rw [fx_choose_end]
    refine ⟨v3, rfl, ?_⟩
    have all : ∀ k, bg (fd b pF pL st tm dd (2 ^ g)) k = true → k < 256 / 2 ^ g ∧ eo (fd b pF pL st tm dd (2 ^ g)) k ≤ 256 / 2 ^ g := fun k hk => by
      have h1 := fd_N (bg_iff.mp hk).1
      refine ⟨h1, ?_⟩
      by_cases e : eo (fd b pF pL st tm dd (2 ^ g)) k ≤ 256 / 2 ^ g
      · exact e
      · have := fd_N (eo_in hB (j := k) (i := 256 / 2 ^ g) (by omega) (by omega))
        omega
    obtain ⟨-, -, -, -, a5⟩ := hv
    rcases a5 with ⟨h1, h2, h3⟩ | ⟨s, h1, h2, h3, h4, h5, h6⟩
    · refine Or.inl ⟨h1, fun k => ?_⟩
      cases c : bg (fd b pF pL st tm dd (2 ^ g)) k
      · rfl
      · have h4 := (bg_iff.mp c).1
        rw [h3 k (fd_N h4)] at h4; cases h4
    · obtain ⟨y1, y2⟩ := all s h3
      refine Or.inr ⟨s, by omega, h1, h3, fun k hk => ?_, fun k hk hk2 => ?_⟩
      · obtain ⟨y3, y4⟩ := all k hk
        have := h5 k y3 hk
        unfold wt
        rw [if_neg (by omega), if_pos rfl, if_neg (by omega), if_pos rfl]
        omega
      · obtain ⟨y3, y4⟩ := all k hk2
        have := h6 k hk hk2
        unfold wt
        rw [if_neg (by omega), if_pos rfl, if_neg (by omega), if_pos rfl]
        omega
  | succ n ih =>
    intro i f v3 v4 most len hi hf hv
    obtain ⟨f, rfl⟩ := zfuel hf
    have hi2 : i < 256 / 2 ^ g := by omega
    have hlen := hv.1
    have hmost := hv.2.2.2.1
    rw [fx_choose_step hp hg h hi2]
    cases c : fd b pF pL st tm dd (2 ^ g) i
    · rw [if_neg Bool.false_ne_true]
      exact ih (i + 1) f _ _ _ 0 (by omega) (by omega) (zC1_skip hB hv c)
    · rw [if_pos rfl, if_neg (show ¬ Int32.ofNat 1 = 2 by decide), if_pos (show Int32.ofNat 1 = 1 from rfl), zN_1]
      obtain ⟨k1, k2⟩ := zC1_more hB hv c (by omega)
      by_cases c2 : len + 1 ≤ most
      · rw [if_pos ((zN_le (by omega) (by omega)).mpr c2)]
        exact ih (i + 1) f _ _ _ _ (by omega) (by omega) (k1 c2)
      · rw [if_neg (fun q => c2 ((zN_le (by omega) (by omega)).mp q))]
        have e : Int32.ofNat i - Int32.ofNat (len + 1) + 1 = Int32.ofNat (i - len) := by
          rw [← zN_1 len, ← Int32.sub_sub, Int32.sub_add_cancel, zN_sub hlen]
        rw [e]
        exact ih (i + 1) f _ _ _ _ (by omega) (by omega) (k2 c2)
theorem fx_choose {b pF pL st : Nat → Int32} {tm : Int32} {dd : Bool} {g : Nat} (hp : PV pF pL) (hI : IV b tm) (hg : g < 5) (h : st 0 = Int32.ofNat g) {o : Nat} (ho : o < 3) : ∃ v, fX0_choosePiece b pF pL st tm (bi dd) (Int32.ofNat o) = some v ∧ CH (bg (fd b pF pL st tm dd (2 ^ g))) (wt b (fd b pF pL st tm dd (2 ^ g)) (2 ^ g) o) v := by
  have hN : 256 / 2 ^ g ≤ 256 := Nat.div_le_self _ _
  unfold fX0_choosePiece
  rw [h, show (256 : Int32) = Int32.ofNat 256 from rfl, zshr g hg 256 (by omega)]
  rcases (show o = 0 ∨ o = 1 ∨ o = 2 by omega) with rfl | rfl | rfl
  · exact fx_choose0 hp hI hg h (256 / 2 ^ g) 0 1000 (-1) 0 0 0 (by omega) (by omega) (Or.inl ⟨rfl, fun k hk => absurd hk (Nat.not_lt_zero _)⟩)
  · exact fx_choose1 hp hg h (256 / 2 ^ g) 0 1000 (-1) 0 0 0 (by omega) (by omega) ⟨Nat.le_refl _, fun k h1 h2 => absurd h2 (Nat.not_lt_zero _), fun h0 => absurd h0 (Nat.lt_irrefl _), by omega, Or.inl ⟨rfl, rfl, fun k hk => absurd hk (Nat.not_lt_zero _)⟩⟩
  · exact fx_choose2 hp hg h (256 / 2 ^ g) 0 1000 (-1) 0 0 0 (by omega) (by omega) rfl (fun k hk => absurd hk (Nat.not_lt_zero _))
/-! commands and ticks -/
theorem ob2_some {α β γ : Type} (x : α) (y : β) (k : α → β → Option γ) : ob2 (some (x, y)) k = k x y := rfl
theorem ob3_some {α β β2 γ : Type} (x : α) (y : β) (z : β2) (k : α → β → β2 → Option γ) : ob3 (some (x, y, z)) k = k x y z := rfl
theorem ob4_some {α β β2 β3 γ : Type} (x : α) (y : β) (z : β2) (u : β3) (k : α → β → β2 → β3 → Option γ) : ob4 (some (x, y, z, u)) k = k x y z u := rfl
theorem ob6_some {α β β2 β3 β4 β5 γ : Type} (x : α) (y : β) (z : β2) (u : β3) (v : β4) (w : β5) (k : α → β → β2 → β3 → β4 → β5 → Option γ) : ob6 (some (x, y, z, u, v, w)) k = k x y z u v w := rfl
/-- a span is empty -/
def ew (b : Nat → Int32) (s m : Nat) : Nat → Int32 := fun i => if s ≤ i ∧ i < s + m then -1 else b i
theorem ew_0 (b : Nat → Int32) (s : Nat) : ew b s 0 = b := funext fun i => if_neg (by omega)
theorem ew_up (b : Nat → Int32) (s m : Nat) : upd (ew b s m) (s + m) (-1) = ew b s (m + 1) := by
  funext i
  by_cases e : i = s + m
  · rw [e, zupd_self, ew, if_pos (by omega)]
  · rw [zupd_ne _ _ e, ew, ew]
    by_cases c : s ≤ i ∧ i < s + m
    · rw [if_pos c, if_pos (by omega)]
    · rw [if_neg c, if_neg (by omega)]
theorem ew_q {b : Nat → Int32} {s m i : Nat} (h : zq (ew b s m) i = true) : zq b i = true ∧ ew b s m i = b i := by
  by_cases c : s ≤ i ∧ i < s + m
  · rw [zq_f (by rw [show ew b s m i = -1 from if_pos c]; decide)] at h; cases h
  · have e : ew b s m i = b i := if_neg c
    unfold zq at h ⊢
    rw [e] at h
    exact ⟨h, e⟩
theorem IV_ew {b : Nat → Int32} {tm : Int32} (h : IV b tm) (s m : Nat) : IV (ew b s m) tm := by
  refine ⟨fun i hi => ?_, fun i hi h1 h2 => ?_, h.2.2⟩
  · by_cases c : s ≤ i ∧ i < s + m
    · rw [show ew b s m i = -1 from if_pos c]
      exact ⟨by decide, le_tr (by decide : (-1 : Int32) ≤ 0) h.2.2⟩
    · rw [show ew b s m i = b i from if_neg c]; exact h.1 i hi
  · obtain ⟨a1, a2⟩ := ew_q h1
    obtain ⟨c1, c2⟩ := ew_q h2
    rw [a2, c2]; exact h.2.1 i hi a1 c1
theorem fx_discard_22 (b : Nat → Int32) (cm ds dr : Int32) (s nn : Nat) (hs : s + nn ≤ 256) : ∀ n m f, m + n = nn → n < f → fX0_discard_22 f (Int32.ofNat s) (Int32.ofNat nn) (Int32.ofNat (s + m)) (ew b s m) cm ds dr = ob2 (fX0_dropSurplus (ew b s nn) dr) fun b2 dr2 => some (b2, (cm + 1), (ds + Int32.ofNat nn), dr2) := by
  intro n
  induction n with
  | zero =>
    intro m f hm hf
    obtain ⟨f, rfl⟩ := zfuel hf
    obtain rfl : m = nn := by omega
    rw [fX0_discard_22, zN_add, if_pos ((zN_le (by omega) (by omega)).mpr (Nat.le_refl _))]
  | succ n ih =>
    intro m f hm hf
    obtain ⟨f, rfl⟩ := zfuel hf
    have hk2 : s + m < 256 := by omega
    rw [fX0_discard_22, zN_add, if_neg (fun q => by have := (zN_le (by omega) (by omega)).mp q; omega), if_neg (zi256 hk2), zk256 hk2, ew_up, zN_1]
    exact ih (m + 1) f (by omega) (by omega)
theorem RB.ew1 {b r : Nat → Int32} (h : RB b r) {k : Nat} (hk : k < 256) (hq : zq b k = true) : RB (upd b k (-1)) (upd (upd r (256 + k) 0) (512 + k) (-1)) := by
  intro i hi
  obtain ⟨h1, h2, h3⟩ := h i hi
  by_cases e : i = k
  · subst e
    rw [zupd_self b, zupd_ne _ _ (by omega), zupd_ne _ _ (by omega), zupd_ne _ _ (by omega), zupd_self, zupd_self, h1]
    refine ⟨?_, by decide, by decide⟩
    rw [if_neg (fun q => zq_nn hq (by rw [q]; decide)), if_neg (by decide)]
  · rw [zupd_ne b _ e, zupd_ne _ _ (by omega), zupd_ne _ _ (by omega), zupd_ne _ _ (by omega), zupd_ne _ _ (by omega), zupd_ne _ _ (by omega), zupd_ne _ _ (by omega)]
    exact ⟨h1, h2, h3⟩
theorem msend_11 (b : Nat → Int32) (s nn : Nat) (hs : s + nn ≤ 256) (hq : ∀ i, s ≤ i → i < s + nn → zq b i = true) (sF sB : Int32) (r0 : Nat → Int32) : ∀ n m f r, m + n = nn → n < f → RB (ew b s m) r → zO r0 r → ∃ r2, RB (ew b s nn) r2 ∧ zO r0 r2 ∧ fX4_send_11 f (Int32.ofNat s) (Int32.ofNat nn) (Int32.ofNat (s + m)) sF sB r = ob (fX4_limit (upd (upd r2 770 (r2 770 + 1)) 771 (r2 771 + Int32.ofNat nn))) fun r3 => some (Int32.ofNat s, Int32.ofNat nn, r3) := by
  intro n
  induction n with
  | zero =>
    intro m f r hm hf hr ho
    obtain ⟨f, rfl⟩ := zfuel hf
    obtain rfl : m = nn := by omega
    refine ⟨r, hr, ho, ?_⟩
    rw [fX4_send_11, zN_add, if_pos ((zN_le (by omega) (by omega)).mpr (Nat.le_refl _)), zupd_ne _ _ (show (771 : Nat) ≠ 770 by decide)]
  | succ n ih =>
    intro m f r hm hf hr ho
    obtain ⟨f, rfl⟩ := zfuel hf
    have hk2 : s + m < 256 := by omega
    have hz : zq (ew b s m) (s + m) = true := by
      unfold zq
      rw [show ew b s m (s + m) = b (s + m) from if_neg (by omega)]
      exact hq _ (by omega) (by omega)
    have hr2 := hr.ew1 hk2 hz
    rw [ew_up] at hr2
    obtain ⟨r2, g1, g2, g3⟩ := ih (m + 1) f _ (by omega) (by omega) hr2 (fun x hx => by rw [zupd_ne _ _ (by omega), zupd_ne _ _ (by omega)]; exact ho x hx)
    refine ⟨r2, g1, g2, ?_⟩
    rw [fX4_send_11, zN_add, if_neg (fun q => by have := (zN_le (by omega) (by omega)).mp q; omega), z256k, z512k, if_neg (zi785 (by omega)), if_neg (zi785 (by omega)), zk785 (by omega), zk785 (by omega), zN_1]
    exact g3
theorem RD.sent {b pF pL st : Nat → Int32} {tm qt cm ds dr : Int32} {r : Nat → Int32} (h : RD b pF pL st tm qt cm ds dr r) (n : Int32) : RD b pF pL st tm qt (cm + 1) (ds + n) dr (upd (upd r 770 (r 770 + 1)) 771 (r 771 + n)) := by
  obtain ⟨h1, h2, h3, h4, h5, h6, h7, h8⟩ := h
  refine ⟨(h1.up (by omega) _).up (by omega) _, fun i hi => ?_, fun i hi => ?_, ?_, ?_, ?_, ?_, ?_⟩
  · rw [zupd_ne _ _ (by omega), zupd_ne _ _ (by omega), zupd_ne _ _ (by omega), zupd_ne _ _ (by omega)]; exact h2 i hi
  · rw [zupd_ne _ _ (by omega), zupd_ne _ _ (by omega)]; exact h3 i hi
  · rw [zupd_ne _ _ (by omega), zupd_ne _ _ (by omega)]; exact h4
  · rw [zupd_ne _ _ (by omega), zupd_ne _ _ (by omega)]; exact h5
  · rw [zupd_ne _ _ (by omega), zupd_self, h6]
  · rw [zupd_self, h7]
  · rw [zupd_ne _ _ (by omega), zupd_ne _ _ (by omega)]; exact h8
theorem RD.g {b pF pL st : Nat → Int32} {tm qt cm ds dr : Int32} {r : Nat → Int32} (h : RD b pF pL st tm qt cm ds dr r) (k : Nat) (hk : k < 6) : r (773 + k) = st k := h.2.2.1 k hk
/-- granules side by side: their blocks are queued -/
theorem fr_span {q p : Nat → Bool} {G i n : Nat} (hG : 0 < G) (h : ∀ j, i ≤ j → j < i + n → fr q p G j = true) : ∀ k, i * G ≤ k → k < i * G + n * G → q k = true := by
  intro k h1 h2
  have h3 : k / G < i + n := by
    rw [Nat.div_lt_iff_lt_mul hG, Nat.add_mul]; exact h2
  have h4 : i ≤ k / G := (Nat.le_div_iff_mul_le hG).mpr h1
  have h5 := ((fr_iff.mp (h (k / G) h4 h3)).2 (k % G) (Nat.mod_lt _ hG)).1
  rw [Nat.mul_comm, Nat.div_add_mod k G] at h5; exact h5
/-- sending -/
theorem op_send {b pF pL st : Nat → Int32} {tm qt cm ds dr : Int32} {r : Nat → Int32} (h : RD b pF pL st tm qt cm ds dr r) (hI : IV b tm) {g : Nat} (hg : g < 5) (hst : st 0 = Int32.ofNat g) {i n : Nat} (hn : 0 < n) (hin : i + n ≤ 256) (hf : ∀ j, i ≤ j → j < i + n → fr (zq b) (pn pF pL) (2 ^ g) j = true) (sF sB : Int32) : ∃ b2 dr2 r2 sF2 sB2, fX0_discard b st cm ds dr (Int32.ofNat i) (Int32.ofNat n) = some (b2, cm + 1, ds + Int32.ofNat (n * 2 ^ g), dr2) ∧ fX4_send sF sB r (Int32.ofNat (i * 2 ^ g)) (Int32.ofNat n) = some (sF2, sB2, r2) ∧ RD b2 pF pL st tm qt (cm + 1) (ds + Int32.ofNat (n * 2 ^ g)) dr2 r2 ∧ IV b2 tm ∧ (∀ k, b k < 0 → b2 k = b k) ∧ cn (zq b2) 256 + 1 ≤ cn (zq b) 256 ∧ n * 2 ^ g ≤ 256 := by
  have hG := zG_pos g
  have hs : i * 2 ^ g + n * 2 ^ g ≤ 256 := by
    have := fr_lt (hf (i + n - 1) (by omega) (by omega))
    rw [show i + n - 1 + 1 = i + n by omega, Nat.add_mul] at this; exact this
  have hq := fr_span hG hf
  obtain ⟨k, b2, dr2, e1, hd⟩ := fx_drop (ew b (i * 2 ^ g) (n * 2 ^ g)) dr
  obtain ⟨r2, g1, g2, g3⟩ := msend_11 b (i * 2 ^ g) (n * 2 ^ g) hs hq sF sB r (n * 2 ^ g) 0 1000 r (by omega) (by omega) (by rw [ew_0]; exact h.1) (fun x _ => rfl)
  obtain ⟨r3, k1, k2⟩ := ((h.put g1 g2).sent (Int32.ofNat (n * 2 ^ g))).limit hd
  have hpos : 0 < n * 2 ^ g := Nat.mul_pos hn hG
  refine ⟨b2, dr2, r3, Int32.ofNat (i * 2 ^ g), Int32.ofNat (n * 2 ^ g), ?_, ?_, k2, IV_DS hd (IV_ew hI _ _), fun j hj => ?_, ?_, by omega⟩
  · unfold fX0_discard
    rw [hst, zshl g hg i (by omega), zshl g hg n (by omega)]
    have e2 := fx_discard_22 b cm ds dr (i * 2 ^ g) (n * 2 ^ g) hs (n * 2 ^ g) 0 1000 (by omega) (by omega)
    rw [ew_0, Nat.add_zero, e1] at e2
    exact e2
  · unfold fX4_send
    rw [mgranule hg (by rw [← hst]; exact h.g 0 (by omega)), ob_some, zN_mul]
    rw [Nat.add_zero, k1] at g3
    exact g3
  · have e2 : ew b (i * 2 ^ g) (n * 2 ^ g) j = b j := by
      by_cases c : i * 2 ^ g ≤ j ∧ j < i * 2 ^ g + n * 2 ^ g
      · exact absurd hj (zq_nn (hq j c.1 c.2))
      · exact if_neg c
    rw [DS_neg hd (by rw [e2]; exact hj), e2]
  · refine cn_slt (s := i * 2 ^ g) (hq _ (Nat.le_refl _) (by omega)) ?_ 256 (fun j hj hj2 => ?_) (by omega)
    · cases c : zq b2 (i * 2 ^ g)
      · rfl
      · have := (DS_q hd c).1
        rw [zq_f (by rw [show ew b (i * 2 ^ g) (n * 2 ^ g) (i * 2 ^ g) = -1 from if_pos (by omega)]; decide)] at this; cases this
    · exact (ew_q (DS_q hd hj2).1).1
/-- settings keep to their ranges -/
def zGm (k : Nat) : Nat := if k = 0 then 4 else if k = 1 then 20 else if k = 2 then 40 else if k = 3 then 50 else if k = 4 then 9 else 2
def SV (st : Nat → Int32) : Prop := ∀ k, k < 6 → ∃ v, st k = Int32.ofNat v ∧ v ≤ zGm k
theorem IV_more {b : Nat → Int32} {T : Nat} (h : IV b (Int32.ofNat T)) (hT : T + 1 < 2147483648) : IV b (Int32.ofNat (T + 1)) :=
  ⟨fun i hi => ⟨(h.1 i hi).1, le_tr (h.1 i hi).2 ((zN_le (by omega) (by omega)).mpr (by omega))⟩, h.2.1, zN_nn (by omega)⟩
theorem RD.ticked {b pF pL st : Nat → Int32} {tm qt cm ds dr : Int32} {r : Nat → Int32} (h : RD b pF pL st tm qt cm ds dr r) : RD b pF pL st (tm + 1) (qt + 1) cm ds dr (upd (upd r 769 ((r 769) + 1)) 768 (((upd r 769 ((r 769) + 1)) 768) + 1)) := by
  obtain ⟨h1, h2, h3, h4, h5, h6, h7, h8⟩ := h
  refine ⟨(h1.up (by omega) _).up (by omega) _, fun i hi => ?_, fun i hi => ?_, ?_, ?_, ?_, ?_, ?_⟩
  · rw [zupd_ne _ _ (by omega), zupd_ne _ _ (by omega), zupd_ne _ _ (by omega), zupd_ne _ _ (by omega)]; exact h2 i hi
  · rw [zupd_ne _ _ (by omega), zupd_ne _ _ (by omega)]; exact h3 i hi
  · rw [zupd_self, zupd_ne _ _ (by omega), h4]
  · rw [zupd_ne _ _ (by omega), zupd_self, h5]
  · rw [zupd_ne _ _ (by omega), zupd_ne _ _ (by omega)]; exact h6
  · rw [zupd_ne _ _ (by omega), zupd_ne _ _ (by omega)]; exact h7
  · rw [zupd_ne _ _ (by omega), zupd_ne _ _ (by omega)]; exact h8
/-- the granules that a command can take -/
theorem fx_most {st : Nat → Int32} {B C : Nat} (hC : st 4 = Int32.ofNat C) (h : C < B) (hB : B ≤ 40) : fX0_mostGranules st (Int32.ofNat B) = some (Int32.ofNat (min 16 (B - C))) := by
  unfold fX0_mostGranules
  rw [hC, zN_sub (by omega)]
  by_cases c : B - C < 16
  · rw [if_pos (show Int32.ofNat (B - C) < 16 from (zN_lt (c := 16) (by omega) (by omega)).mpr c), Nat.min_eq_right (by omega)]
  · rw [if_neg (show ¬ Int32.ofNat (B - C) < 16 from fun q => c ((zN_lt (c := 16) (by omega) (by omega)).mp q)), Nat.min_eq_left (by omega)]; rfl
theorem mleast {x y : Nat} (hx : x < 2147483648) (hy : y < 2147483648) : fX4_least (Int32.ofNat x) (Int32.ofNat y) = some (Int32.ofNat (min x y)) := by
  unfold fX4_least
  by_cases c : y ≤ x
  · rw [if_pos ((zN_le hy hx).mpr c), Nat.min_eq_right c]
  · rw [if_neg (fun q => c ((zN_le hy hx).mp q)), Nat.min_eq_left (by omega)]
/-- what a choice gives -/
theorem CH_piece {b pF pL st : Nat → Int32} {tm : Int32} {dd : Bool} {g : Nat} {w : Nat → Int} {v : Int32} (hI : IV b tm) (h : CH (bg (fd b pF pL st tm dd (2 ^ g))) w v) : v = -1 ∨ ∃ s, s < 256 ∧ v = Int32.ofNat s ∧ bg (fr (zq b) (pn pF pL) (2 ^ g)) s = true := by
  rcases h with ⟨h1, _⟩ | ⟨s, h1, h2, h3⟩
  · exact Or.inl h1
  · refine Or.inr ⟨s, h1, h2, ?_⟩
    have := h3.1
    rw [fd_bg (zG_pos g) hI, Bool.and_eq_true] at this
    exact this.1
theorem blk_m1 (G : Nat) : blk G (-1) = -1 := if_pos rfl
theorem blk_N {G s : Nat} (h : s < 2147483648) : blk G (Int32.ofNat s) = Int32.ofNat (s * G) := by
  unfold blk
  rw [if_neg (zN_m h), zN_mul]
theorem tick_stop {b pF pL st : Nat → Int32} {T : Nat} {qt cm ds dr : Int32} {r : Nat → Int32} (h : RD b pF pL st (Int32.ofNat T) qt cm ds dr r) (f2 : Nat) (x y sF sB : Int32) : ∃ r2, fX4_tick_50 (f2 + 1) x y (-1) sF sB r = some (sF, sB, r2) ∧ RD b pF pL st (Int32.ofNat (T + 1)) (qt + 1) cm (ds + Int32.ofNat 0) dr r2 := by
  refine ⟨(upd (upd r 769 ((r 769) + 1)) 768 (((upd r 769 ((r 769) + 1)) 768) + 1)), ?_, ?_⟩
  · rw [fX4_tick_50, if_pos rfl]
  · have := h.ticked
    rw [zN_1] at this
    rw [show Int32.ofNat 0 = 0 from rfl, Int32.add_zero]
    exact this
/-- the rest of a tick, from a budget on -/
theorem op_tick_7 {pF pL st : Nat → Int32} (hp : PV pF pL) (hS : SV st) {T : Nat} (hT : T + 1 < 2147483648) {qt : Int32} : ∀ (n B k f f2 : Nat) (b : Nat → Int32) (cm ds dr : Int32) (r : Nat → Int32) (sF sB : Int32), B ≤ n → k + B ≤ 40 → n < f → n < f2 → RD b pF pL st (Int32.ofNat T) qt cm ds dr r → IV b (Int32.ofNat T) →
    ∃ b2 cm2 D dr2 r2 sF2 sB2, D ≤ 256 * B ∧ fX0_tick_7 pF pL st f (Int32.ofNat B) (Int32.ofNat k) b (Int32.ofNat T) qt cm ds dr = some (b2, Int32.ofNat (T + 1), qt + 1, cm2, ds + Int32.ofNat D, dr2) ∧
      (if Int32.ofNat B ≤ st 4 then fX4_tick_50 f2 (Int32.ofNat B) (st 4) (-1) sF sB r else ob (fX4_chosen r (r 778) 1) fun r7 => fX4_tick_50 f2 (Int32.ofNat B) (st 4) r7 sF sB r) = some (sF2, sB2, r2) ∧
      RD b2 pF pL st (Int32.ofNat (T + 1)) (qt + 1) cm2 (ds + Int32.ofNat D) dr2 r2 ∧ IV b2 (Int32.ofNat (T + 1)) ∧ (∀ i, b i < 0 → b2 i = b i) := by
  obtain ⟨g, hg1, hg2⟩ := hS 0 (by omega)
  obtain ⟨C, hC1, hC2⟩ := hS 4 (by omega)
  obtain ⟨o, ho1, ho2⟩ := hS 5 (by omega)
  have hg : g < 5 := by have : zGm 0 = 4 := rfl; omega
  have hC : C ≤ 9 := hC2
  have ho : o < 3 := by have : zGm 5 = 2 := rfl; omega
  have hG := zG_pos g
  intro n
  induction n with
  | zero =>
    intro B k f f2 b cm ds dr r sF sB hB hk hf hf2 h hI
    obtain ⟨f, rfl⟩ := zfuel hf
    obtain ⟨f2, rfl⟩ := zfuel hf2
    obtain rfl : B = 0 := by omega
    have c : Int32.ofNat 0 ≤ st 4 := by rw [hC1]; exact (zN_le (by omega) (by omega)).mpr (Nat.zero_le _)
    obtain ⟨r2, s1, s2⟩ := tick_stop h f2 (Int32.ofNat 0) (st 4) sF sB
    refine ⟨b, cm, 0, dr, r2, sF, sB, Nat.zero_le _, ?_, ?_, s2, IV_more hI hT, fun i _ => rfl⟩
    · rw [fX0_tick_7, if_neg (z256 (by omega)), if_pos c, zN_1, show Int32.ofNat 0 = 0 from rfl, Int32.add_zero]
    · rw [if_pos c]; exact s1
  | succ n ih =>
    intro B k f f2 b cm ds dr r sF sB hB hk hf hf2 h hI
    obtain ⟨f, rfl⟩ := zfuel hf
    obtain ⟨f2, rfl⟩ := zfuel hf2
    by_cases c : B ≤ C
    · have c1 : Int32.ofNat B ≤ st 4 := by rw [hC1]; exact (zN_le (by omega) (by omega)).mpr c
      obtain ⟨r2, s1, s2⟩ := tick_stop h f2 (Int32.ofNat B) (st 4) sF sB
      refine ⟨b, cm, 0, dr, r2, sF, sB, Nat.zero_le _, ?_, ?_, s2, IV_more hI hT, fun i _ => rfl⟩
      · rw [fX0_tick_7, if_neg (z256 (by omega)), if_pos c1, zN_1, show Int32.ofNat 0 = 0 from rfl, Int32.add_zero]
      · rw [if_pos c1]; exact s1
    · have c1 : ¬ Int32.ofNat B ≤ st 4 := by rw [hC1]; exact fun q => c ((zN_le (by omega) (by omega)).mp q)
      have h778 : r 778 = Int32.ofNat o := by rw [← ho1]; exact h.g 5 (by omega)
      have h773 : r 773 = Int32.ofNat g := by rw [← hg1]; exact h.g 0 (by omega)
      obtain ⟨v, e1, hv1⟩ := fx_choose (dd := true) hp hI hg hg1 ho
      obtain ⟨v2, e2, hv2⟩ := mchosen (dd := true) h.1 hp h.2.1 hI h.2.2.2.1 (h.g 3 (by omega)) hg h773 ho
      obtain rfl := CH_one hv1 hv2
      replace e1 : fX0_choosePiece b pF pL st (Int32.ofNat T) 1 (Int32.ofNat o) = some v := e1
      replace e2 : fX4_chosen r (Int32.ofNat o) 1 = some (blk (2 ^ g) v) := e2
      rw [fX0_tick_7, if_neg (z256 (by omega)), if_neg c1, ho1, e1, if_neg c1, h778, e2, ob_some, ob_some]
      rcases CH_piece hI hv1 with rfl | ⟨s, hs, rfl, hb⟩
      · rw [blk_m1]
        obtain ⟨r2, s1, s2⟩ := tick_stop h f2 (Int32.ofNat B) (st 4) sF sB
        refine ⟨b, cm, 0, dr, r2, sF, sB, Nat.zero_le _, ?_, s1, s2, IV_more hI hT, fun i _ => rfl⟩
        rw [if_pos rfl, zN_1, show Int32.ofNat 0 = 0 from rfl, Int32.add_zero]
      · have hB2 : zB (fr (zq b) (pn pF pL) (2 ^ g)) := fr_B hG
        have hgt := eo_gt hB2 (bg_iff.mp hb).1
        have hle := eo_le hB2 (j := s) (by omega)
        have hm : min 16 (B - C) ≤ 256 := by omega
        rw [blk_N (by omega), if_neg (zN_m (by omega)), fx_most hC1 (by omega) (by omega), ob_some, fx_granulesFrom hp hg hg1 (by omega) hm, ob_some]
        have hsG : s * 2 ^ g ≤ 256 := by
          have := fr_lt (bg_iff.mp hb).1
          rw [Nat.add_mul] at this; omega
        rw [fX4_tick_50, if_neg (zN_m (by omega)), mpiece h.1.q hp h.2.1 hg h773 (by omega), show pc (fr (zq b) (pn pF pL) (2 ^ g)) s = eo (fr (zq b) (pn pF pL) (2 ^ g)) s - s from if_pos hb, ob_some, hC1, zN_sub (by omega), mleast (by omega) (by omega), ob_some, show (16 : Int32) = Int32.ofNat 16 from rfl, mleast (by omega) (by omega), ob_some]
        have hmin : min 16 (min (eo (fr (zq b) (pn pF pL) (2 ^ g)) s - s) (B - C)) = min (min 16 (B - C)) (eo (fr (zq b) (pn pF pL) (2 ^ g)) s - s) := by omega
        rw [hmin]
        generalize hN : min (min 16 (B - C)) (eo (fr (zq b) (pn pF pL) (2 ^ g)) s - s) = N
        obtain ⟨b2, dr2, r2, sF2, sB2, k1, k2, k3, k4, k5, k6, k7⟩ := op_send h hI hg hg1 (i := s) (n := N) (by omega) (by omega) (fun j j1 j2 => eo_in hB2 j1 (by omega)) sF sB
        rw [k1, k2, ob4_some, ob3_some, zN_add, zN_sub (by omega), zN_1]
        obtain ⟨b3, cm3, D, dr3, r3, sF3, sB3, m0, m1, m2, m3, m4, m5⟩ := ih (B - (C + N)) (k + 1) f f2 b2 (cm + 1) (ds + Int32.ofNat (N * 2 ^ g)) dr2 r2 sF2 sB2 (by omega) (by omega) (by omega) (by omega) k3 k4
        have e9 : ds + Int32.ofNat (N * 2 ^ g) + Int32.ofNat D = ds + Int32.ofNat (N * 2 ^ g + D) := by rw [Int32.add_assoc, zN_add]
        rw [e9] at m1 m3
        rw [hC1] at m2
        refine ⟨b3, cm3, N * 2 ^ g + D, dr3, r3, sF3, sB3, by omega, m1, m2, m3, m4, fun i hi => ?_⟩
        rw [m5 i (by rw [k5 i hi]; exact hi), k5 i hi]
/-! whole ticks, runs of them, all that can be sent -/
theorem ob5_some {α β β2 β3 β4 γ : Type} (x : α) (y : β) (z : β2) (u : β3) (v : β4) (k : α → β → β2 → β3 → β4 → Option γ) : ob5 (some (x, y, z, u, v)) k = k x y z u v := rfl
theorem ob7_some {α β β2 β3 β4 β5 β6 γ : Type} (x : α) (y : β) (z : β2) (u : β3) (v : β4) (w : β5) (t : β6) (k : α → β → β2 → β3 → β4 → β5 → β6 → Option γ) : ob7 (some (x, y, z, u, v, w, t)) k = k x y z u v w t := rfl
theorem op_tick {b pF pL st : Nat → Int32} (hp : PV pF pL) (hS : SV st) {T : Nat} (hT : T + 1 < 2147483648) {qt cm ds dr : Int32} {r : Nat → Int32} (sF sB : Int32) (h : RD b pF pL st (Int32.ofNat T) qt cm ds dr r) (hI : IV b (Int32.ofNat T)) :
    ∃ b2 cm2 D dr2 r2 sF2 sB2, D ≤ 10240 ∧ fX0_tick b pF pL st (Int32.ofNat T) qt cm ds dr = some (b2, Int32.ofNat (T + 1), qt + 1, cm2, ds + Int32.ofNat D, dr2) ∧ fX4_tick sF sB r = some (sF2, sB2, r2) ∧
      RD b2 pF pL st (Int32.ofNat (T + 1)) (qt + 1) cm2 (ds + Int32.ofNat D) dr2 r2 ∧ IV b2 (Int32.ofNat (T + 1)) ∧ (∀ i, b i < 0 → b2 i = b i) := by
  obtain ⟨B, hB1, hB2⟩ := hS 2 (by omega)
  have hB : B ≤ 40 := hB2
  have h774 : r 774 = st 1 := h.g 1 (by omega)
  have h775 : r 775 = st 2 := h.g 2 (by omega)
  have h777 : r 777 = st 4 := h.g 4 (by omega)
  have h769 : r 769 = qt := h.2.2.2.2.1
  have go : ∀ N : Nat, N ≤ 40 → ∃ b2 cm2 D dr2 r2 sF2 sB2, D ≤ 10240 ∧ fX0_tick_7 pF pL st 1000 (Int32.ofNat N) 0 b (Int32.ofNat T) qt cm ds dr = some (b2, Int32.ofNat (T + 1), qt + 1, cm2, ds + Int32.ofNat D, dr2) ∧ (if Int32.ofNat N ≤ st 4 then fX4_tick_50 1000 (Int32.ofNat N) (st 4) (-1) sF sB r else ob (fX4_chosen r (r 778) 1) fun r7 => fX4_tick_50 1000 (Int32.ofNat N) (st 4) r7 sF sB r) = some (sF2, sB2, r2) ∧ RD b2 pF pL st (Int32.ofNat (T + 1)) (qt + 1) cm2 (ds + Int32.ofNat D) dr2 r2 ∧ IV b2 (Int32.ofNat (T + 1)) ∧ (∀ i, b i < 0 → b2 i = b i) := fun N hN => by
    obtain ⟨b2, cm2, D, dr2, r2, sF2, sB2, a0, a1, a2, a3, a4, a5⟩ := op_tick_7 hp hS hT N N 0 1000 1000 b cm ds dr r sF sB (Nat.le_refl _) (by omega) (by omega) (by omega) h hI
    exact ⟨b2, cm2, D, dr2, r2, sF2, sB2, by omega, a1, a2, a3, a4, a5⟩
  unfold fX0_tick fX0_budgetOfTick fX4_tick
  rw [h769, h774, h775, h777]
  by_cases c : qt < st 1
  · rw [if_pos c, if_pos c, ob_some]
    exact go 0 (by omega)
  · rw [if_neg c, if_neg c, ob_some, hB1]
    exact go B hB
/-- some ticks -/
theorem op_run_9 {pF pL st : Nat → Int32} (hp : PV pF pL) (hS : SV st) {N : Nat} (hN : N ≤ 1000) (ds0 : Int32) : ∀ (n k f f2 T : Nat) (b : Nat → Int32) (qt cm : Int32) (D0 : Nat) (dr : Int32) (r : Nat → Int32) (sF sB : Int32), k + n = N → n < f → n < f2 → T + n < 2147483648 → RD b pF pL st (Int32.ofNat T) qt cm (ds0 + Int32.ofNat D0) dr r → IV b (Int32.ofNat T) →
    ∃ b2 qt2 cm2 D dr2 r2 sF2 sB2, D ≤ D0 + 10240 * n ∧ fX0_passTicks_7 pF pL st f (Int32.ofNat N) ds0 (Int32.ofNat k) b (Int32.ofNat T) qt cm (ds0 + Int32.ofNat D0) dr = some (Int32.ofNat D, b2, Int32.ofNat (T + n), qt2, cm2, ds0 + Int32.ofNat D, dr2) ∧ fX4_runOn_9 f2 (Int32.ofNat N) ds0 (Int32.ofNat k) sF sB r = some (Int32.ofNat D, sF2, sB2, r2) ∧
      RD b2 pF pL st (Int32.ofNat (T + n)) qt2 cm2 (ds0 + Int32.ofNat D) dr2 r2 ∧ IV b2 (Int32.ofNat (T + n)) ∧ (∀ i, b i < 0 → b2 i = b i) := by
  intro n
  induction n with
  | zero =>
    intro k f f2 T b qt cm D0 dr r sF sB hk hf hf2 hT h hI
    obtain ⟨f, rfl⟩ := zfuel hf
    obtain ⟨f2, rfl⟩ := zfuel hf2
    obtain rfl : k = N := by omega
    have e : ds0 + Int32.ofNat D0 - ds0 = Int32.ofNat D0 := by rw [Int32.add_comm, Int32.add_sub_cancel]
    refine ⟨b, qt, cm, D0, dr, r, sF, sB, by omega, ?_, ?_, h, hI, fun i _ => rfl⟩
    · rw [fX0_passTicks_7, if_pos ((zN_le (by omega) (by omega)).mpr (Nat.le_refl _)), e]; rfl
    · rw [fX4_runOn_9, if_pos ((zN_le (by omega) (by omega)).mpr (Nat.le_refl _)), h.2.2.2.2.2.2.1, e]
  | succ n ih =>
    intro k f f2 T b qt cm D0 dr r sF sB hk hf hf2 hT h hI
    obtain ⟨f, rfl⟩ := zfuel hf
    obtain ⟨f2, rfl⟩ := zfuel hf2
    obtain ⟨b1, cm1, D1, dr1, r1, sF1, sB1, a0, a1, a2, a3, a4, a5⟩ := op_tick hp hS (by omega) sF sB h hI
    have e : ds0 + Int32.ofNat D0 + Int32.ofNat D1 = ds0 + Int32.ofNat (D0 + D1) := by rw [Int32.add_assoc, zN_add]
    rw [e] at a1 a3
    obtain ⟨b2, qt2, cm2, D, dr2, r2, sF2, sB2, c0, c1, c2, c3, c4, c5⟩ := ih (k + 1) f f2 (T + 1) b1 (qt + 1) cm1 (D0 + D1) dr1 r1 sF1 sB1 (by omega) (by omega) (by omega) (by omega) a3 a4
    rw [show T + 1 + n = T + (n + 1) by omega] at c1 c3 c4
    refine ⟨b2, qt2, cm2, D, dr2, r2, sF2, sB2, by omega, ?_, ?_, c3, c4, fun i hi => by rw [c5 i (by rw [a5 i hi]; exact hi), a5 i hi]⟩
    · rw [fX0_passTicks_7, if_neg (fun q => by have := (zN_le (by omega) (by omega)).mp q; omega), a1, ob6_some, zN_1]; exact c1
    · rw [fX4_runOn_9, if_neg (fun q => by have := (zN_le (by omega) (by omega)).mp q; omega), a2, ob3_some, zN_1]; exact c2
theorem op_run {b pF pL st : Nat → Int32} (hp : PV pF pL) (hS : SV st) {T N : Nat} (hN : N ≤ 100) (hT : T + N < 2147483648) {qt cm ds dr : Int32} {r : Nat → Int32} (sF sB : Int32) (h : RD b pF pL st (Int32.ofNat T) qt cm ds dr r) (hI : IV b (Int32.ofNat T)) :
    ∃ b2 qt2 cm2 D dr2 r2 sF2 sB2, D ≤ 1024000 ∧ fX0_passTicks b pF pL st (Int32.ofNat T) qt cm ds dr (Int32.ofNat N) = some (Int32.ofNat D, b2, Int32.ofNat (T + N), qt2, cm2, ds + Int32.ofNat D, dr2) ∧ fX4_runOn sF sB r (Int32.ofNat N) = some (Int32.ofNat D, sF2, sB2, r2) ∧
      RD b2 pF pL st (Int32.ofNat (T + N)) qt2 cm2 (ds + Int32.ofNat D) dr2 r2 ∧ IV b2 (Int32.ofNat (T + N)) ∧ (∀ i, b i < 0 → b2 i = b i) := by
  have e : ds + Int32.ofNat 0 = ds := by rw [show Int32.ofNat 0 = 0 from rfl, Int32.add_zero]
  obtain ⟨b2, qt2, cm2, D, dr2, r2, sF2, sB2, a0, a1, a2, a3, a4, a5⟩ := op_run_9 hp hS (N := N) (by omega) ds N 0 1000 1000 T b qt cm 0 dr r sF sB (by omega) (by omega) (by omega) hT (by rw [e]; exact h) hI
  rw [e] at a1
  refine ⟨b2, qt2, cm2, D, dr2, r2, sF2, sB2, by omega, a1, ?_, a3, a4, a5⟩
  unfold fX4_runOn
  rw [h.2.2.2.2.2.2.1]
  exact a2
/-- no block is queued: nothing to choose -/
theorem CH_none {b pF pL st : Nat → Int32} {tm : Int32} {dd : Bool} {g : Nat} {w : Nat → Int} {v : Int32} (h : CH (bg (fd b pF pL st tm dd (2 ^ g))) w v) (h0 : cn (zq b) 256 = 0) : v = -1 := by
  rcases h with ⟨h1, _⟩ | ⟨s, h1, h2, h3⟩
  · exact h1
  · have h4 := fd_fr (bg_iff.mp h3.1).1
    have h5 := ((fr_iff.mp h4).2 0 (zG_pos g)).1
    have h6 := cn_zero 256 h0 _ (zq_lt h5)
    rw [h6] at h5; cases h5
/-- all that can be sent -/
theorem op_flush_7 {pF pL st : Nat → Int32} (hp : PV pF pL) (hS : SV st) {tm qt : Int32} (cm0 : Int32) : ∀ (n k f f2 : Nat) (b : Nat → Int32) (M : Nat) (ds dr : Int32) (r : Nat → Int32) (sF sB : Int32), cn (zq b) 256 ≤ n → k + n ≤ 256 → n < f → n < f2 → RD b pF pL st tm qt (cm0 + Int32.ofNat M) ds dr r → IV b tm →
    ∃ b2 M2 ds2 dr2 r2 sF2 sB2, M2 ≤ M + n ∧ fX0_sendAll_7 pF pL st tm f cm0 (Int32.ofNat k) b (cm0 + Int32.ofNat M) ds dr = some (Int32.ofNat M2, b2, cm0 + Int32.ofNat M2, ds2, dr2) ∧ (ob (fX4_chosen r 2 0) fun v => fX4_flushOn_13 f2 cm0 v sF sB r) = some (Int32.ofNat M2, sF2, sB2, r2) ∧
      RD b2 pF pL st tm qt (cm0 + Int32.ofNat M2) ds2 dr2 r2 ∧ IV b2 tm := by
  obtain ⟨g, hg1, hg2⟩ := hS 0 (by omega)
  have hg : g < 5 := by have : zGm 0 = 4 := rfl; omega
  have hG := zG_pos g
  have e : ∀ M, cm0 + Int32.ofNat M - cm0 = Int32.ofNat M := fun M => by rw [Int32.add_comm, Int32.add_sub_cancel]
  intro n
  induction n with
  | zero =>
    intro k f f2 b M ds dr r sF sB hc hk hf hf2 h hI
    obtain ⟨f, rfl⟩ := zfuel hf
    obtain ⟨f2, rfl⟩ := zfuel hf2
    obtain ⟨v, e1, hv1⟩ := fx_choose (dd := false) (tm := tm) hp hI hg hg1 (o := 2) (by omega)
    obtain ⟨v2, e2, hv2⟩ := mchosen (dd := false) h.1 hp h.2.1 hI h.2.2.2.1 (h.g 3 (by omega)) hg (by rw [← hg1]; exact h.g 0 (by omega)) (o := 2) (by omega)
    obtain rfl := CH_none hv1 (by omega)
    obtain rfl := CH_none hv2 (by omega)
    replace e1 : fX0_choosePiece b pF pL st tm 0 2 = some (-1) := e1
    replace e2 : fX4_chosen r 2 0 = some (-1) := by rw [← blk_m1 (2 ^ g)]; exact e2
    refine ⟨b, M, ds, dr, r, sF, sB, by omega, ?_, ?_, h, hI⟩
    · rw [fX0_sendAll_7]
      by_cases c : (256 : Int32) ≤ Int32.ofNat k
      · rw [if_pos c, e]
      · rw [if_neg c, e1, ob_some, if_pos rfl, e]
    · rw [e2, ob_some, fX4_flushOn_13, if_pos rfl, h.2.2.2.2.2.1, e]
  | succ n ih =>
    intro k f f2 b M ds dr r sF sB hc hk hf hf2 h hI
    obtain ⟨f, rfl⟩ := zfuel hf
    obtain ⟨f2, rfl⟩ := zfuel hf2
    have h773 : r 773 = Int32.ofNat g := by rw [← hg1]; exact h.g 0 (by omega)
    obtain ⟨v, e1, hv1⟩ := fx_choose (dd := false) (tm := tm) hp hI hg hg1 (o := 2) (by omega)
    obtain ⟨v2, e2, hv2⟩ := mchosen (dd := false) h.1 hp h.2.1 hI h.2.2.2.1 (h.g 3 (by omega)) hg h773 (o := 2) (by omega)
    obtain rfl := CH_one hv1 hv2
    replace e1 : fX0_choosePiece b pF pL st tm 0 2 = some v := e1
    replace e2 : fX4_chosen r 2 0 = some (blk (2 ^ g) v) := e2
    rw [fX0_sendAll_7, if_neg (z256 (by omega)), e1, e2, ob_some, ob_some]
    rcases CH_piece hI hv1 with rfl | ⟨s, hs, rfl, hb⟩
    · refine ⟨b, M, ds, dr, r, sF, sB, by omega, ?_, ?_, h, hI⟩
      · rw [if_pos rfl, e]
      · rw [blk_m1, fX4_flushOn_13, if_pos rfl, h.2.2.2.2.2.1, e]
    · have hB2 : zB (fr (zq b) (pn pF pL) (2 ^ g)) := fr_B hG
      have hgt := eo_gt hB2 (bg_iff.mp hb).1
      have hle := eo_le hB2 (j := s) (by omega)
      have e16 := fx_granulesFrom (b := b) hp hg hg1 (i := s) (m := 16) (by omega) (by omega)
      replace e16 : fX0_granulesFrom b pF pL st (Int32.ofNat s) 16 = some (Int32.ofNat (min 16 (eo (fr (zq b) (pn pF pL) (2 ^ g)) s - s))) := e16
      rw [blk_N (by omega), if_neg (zN_m (by omega)), e16, ob_some]
      have e17 := mleast (x := 16) (y := eo (fr (zq b) (pn pF pL) (2 ^ g)) s - s) (by omega) (by omega)
      replace e17 : fX4_least 16 (Int32.ofNat (eo (fr (zq b) (pn pF pL) (2 ^ g)) s - s)) = some (Int32.ofNat (min 16 (eo (fr (zq b) (pn pF pL) (2 ^ g)) s - s))) := e17
      have hsG : s * 2 ^ g ≤ 256 := by
        have := fr_lt (bg_iff.mp hb).1
        rw [Nat.add_mul] at this; omega
      rw [fX4_flushOn_13, if_neg (zN_m (by omega)), mpiece h.1.q hp h.2.1 hg h773 (by omega), show pc (fr (zq b) (pn pF pL) (2 ^ g)) s = eo (fr (zq b) (pn pF pL) (2 ^ g)) s - s from if_pos hb, ob_some, e17, ob_some]
      generalize hN : min 16 (eo (fr (zq b) (pn pF pL) (2 ^ g)) s - s) = N
      obtain ⟨b2, dr2, r2, sF2, sB2, k1, k2, k3, k4, k5, k6, k7⟩ := op_send h hI hg hg1 (i := s) (n := N) (by omega) (by omega) (fun j j1 j2 => eo_in hB2 j1 (by omega)) sF sB
      have e9 : cm0 + Int32.ofNat M + 1 = cm0 + Int32.ofNat (M + 1) := by rw [Int32.add_assoc, zN_1]
      rw [e9] at k1 k3
      rw [k1, k2, ob4_some, ob3_some, zN_1]
      obtain ⟨b3, M2, ds3, dr3, r3, sF3, sB3, m0, m1, m2, m3, m4⟩ := ih (k + 1) f f2 b2 (M + 1) _ dr2 r2 sF2 sB2 (by omega) (by omega) (by omega) (by omega) k3 k4
      exact ⟨b3, M2, ds3, dr3, r3, sF3, sB3, by omega, m1, m2, m3, m4⟩
theorem op_flush {b pF pL st : Nat → Int32} (hp : PV pF pL) (hS : SV st) {tm qt cm ds dr : Int32} {r : Nat → Int32} (sF sB : Int32) (h : RD b pF pL st tm qt cm ds dr r) (hI : IV b tm) :
    ∃ b2 M ds2 dr2 r2 sF2 sB2, M ≤ 256 ∧ fX0_sendAll b pF pL st tm cm ds dr = some (Int32.ofNat M, b2, cm + Int32.ofNat M, ds2, dr2) ∧ fX4_flushOn sF sB r = some (Int32.ofNat M, sF2, sB2, r2) ∧ RD b2 pF pL st tm qt (cm + Int32.ofNat M) ds2 dr2 r2 ∧ IV b2 tm := by
  have e : cm + Int32.ofNat 0 = cm := by rw [show Int32.ofNat 0 = 0 from rfl, Int32.add_zero]
  obtain ⟨b2, M, ds2, dr2, r2, sF2, sB2, a0, a1, a2, a3, a4⟩ := op_flush_7 hp hS cm 256 0 1000 1000 b 0 ds dr r sF sB (cn_le _ _) (by omega) (by omega) (by omega) (by rw [e]; exact h) hI
  rw [e] at a1
  refine ⟨b2, M, ds2, dr2, r2, sF2, sB2, by omega, a1, ?_, a3, a4⟩
  unfold fX4_flushOn
  rw [h.2.2.2.2.2.1]
  exact a2
