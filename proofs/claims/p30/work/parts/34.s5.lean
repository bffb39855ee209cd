/-! ranges, told by their numbers -/
def sm (w : Nat → Nat) : Nat → Nat
  | 0 => 0
  | n + 1 => sm w n + w n
theorem sm_mono (w : Nat → Nat) {m : Nat} : ∀ n, m ≤ n → sm w m ≤ sm w n
  | 0, h => by rw [show m = 0 by omega]; exact Nat.le_refl _
  | n + 1, h => by
    by_cases e : m = n + 1
    · rw [e]; exact Nat.le_refl _
    · have := sm_mono w n (m := m) (by omega); rw [sm]; omega
theorem cn_sm (p : Nat → Bool) : ∀ n, cn p n = sm (fun i => if p i = true then 1 else 0) n
  | 0 => rfl
  | n + 1 => by rw [cn, sm, cn_sm p n]
theorem ceil_0 {G j : Nat} (hG : 0 < G) (h : j % G = 0) : (j + G - 1) / G = j / G ∧ (j + 1 + G - 1) / G = j / G + 1 := by
  have e := Nat.div_add_mod j G
  rw [h, Nat.add_zero] at e
  constructor
  · rw [show j + G - 1 = G * (j / G) + (G - 1) by omega, Nat.mul_add_div hG, Nat.div_eq_of_lt (by omega : G - 1 < G), Nat.add_zero]
  · rw [show j + 1 + G - 1 = G * (j / G) + G by omega, Nat.mul_add_div hG, Nat.div_self hG]
theorem ceil_1 {G j : Nat} (hG : 0 < G) (h : ¬ j % G = 0) : (j + G - 1) / G = j / G + 1 ∧ (j + 1 + G - 1) / G = j / G + 1 := by
  have e := Nat.div_add_mod j G
  have hl := Nat.mod_lt j hG
  constructor
  · rw [show j + G - 1 = G * (j / G) + (G + (j % G - 1)) by omega, Nat.mul_add_div hG, Nat.add_div_left _ hG, Nat.div_eq_of_lt (by omega : j % G - 1 < G)]
  · rw [show j + 1 + G - 1 = G * (j / G) + (G + j % G) by omega, Nat.mul_add_div hG, Nat.add_div_left _ hG, Nat.div_eq_of_lt hl]
theorem sm_ceil {G : Nat} (hG : 0 < G) (w v : Nat → Nat) (h0 : ∀ i, w (i * G) = v i) (h1 : ∀ j, ¬ j % G = 0 → w j = 0) : ∀ j, sm w j = sm v ((j + G - 1) / G)
  | 0 => by rw [Nat.zero_add, Nat.div_eq_of_lt (by omega)]; rfl
  | j + 1 => by
    rw [sm, sm_ceil hG w v h0 h1 j]
    by_cases c : j % G = 0
    · obtain ⟨e1, e2⟩ := ceil_0 hG c
      have e3 : j / G * G = j := by have := Nat.div_add_mod j G; rw [Nat.mul_comm]; omega
      rw [e1, e2, sm, ← h0 (j / G), e3]
    · obtain ⟨e1, e2⟩ := ceil_1 hG c
      rw [e1, e2, h1 j c, Nat.add_zero]
/-- granules, by their pieces -/
theorem sm_pc {f : Nat → Bool} (hB : zB f) : ∀ n, sm (pc f) n = cn f n + (if pv f n = true then eo f n - n else 0)
  | 0 => rfl
  | n + 1 => by
    rw [sm, sm_pc hB n, cn, pv_succ]
    unfold pc
    rw [bg_pv]
    cases hf : f n
    · rw [eo_not hf]
      simp
    · have e := eo_step hB hf
      have hge := eo_ge hB (n + 1)
      cases hp : pv f n
      · rw [e]; simp; omega
      · rw [e]; simp; omega
theorem fx_first_7 {b : Nat → Int32} {k : Nat} (hk : k < cn (bg (zq b)) 256) : ∀ n j f, j + n = 256 → n < f → cn (bg (zq b)) j ≤ k → ∃ s, fX0_firstOfRange_7 b f (Int32.ofNat (k - cn (bg (zq b)) j)) (bi (pv (zq b) j)) (Int32.ofNat j) = some (Int32.ofNat s) ∧ bg (zq b) s = true ∧ cn (bg (zq b)) s = k := by
  intro n
  induction n with
  | zero =>
    intro j f hj hf hc
    obtain rfl : j = 256 := by omega
    omega
  | succ n ih =>
    intro j f hj hf hc
    obtain ⟨f, rfl⟩ := zfuel hf
    have hj2 : j < 256 := by omega
    have h256 := cn_le (bg (zq b)) 256
    rw [fX0_firstOfRange_7, if_neg (z256 hj2), if_neg (zi256 hj2), zk256 hj2, zN_1]
    have h1 := ih (j + 1) f (by omega) (by omega)
    rw [cn, pv_succ] at h1
    by_cases hb : b j < 0
    · rw [if_pos hb]
      rw [bg_pv, zq_f hb] at h1
      exact h1 (by simpa using hc)
    · rw [if_neg hb]
      have hz := zq_t hj2 hb
      cases hp : pv (zq b) j
      · rw [if_pos bi_f]
        have hbg : bg (zq b) j = true := by rw [bg_pv, hz, hp]; rfl
        by_cases c : k = cn (bg (zq b)) j
        · rw [if_pos (show Int32.ofNat (k - cn (bg (zq b)) j) = 0 by rw [show k - cn (bg (zq b)) j = 0 by omega]; rfl)]
          exact ⟨j, rfl, hbg, c.symm⟩
        · rw [if_neg (show ¬ Int32.ofNat (k - cn (bg (zq b)) j) = 0 from fun q => by have := (zN_inj (c := 0) (by omega) (by omega)).mp q; omega), zN_m1 (by omega)]
          rw [hbg, hz] at h1
          have := h1 (by simp; omega)
          rw [if_pos rfl, show k - (cn (bg (zq b)) j + 1) = k - cn (bg (zq b)) j - 1 by omega] at this
          exact this
      · rw [if_neg (show ¬ bi true = 0 by decide)]
        rw [bg_pv, hz, hp] at h1
        exact h1 (by simpa using hc)
theorem mrangeAt_4 {q : Nat → Bool} {r : Nat → Int32} (hq : RQ q r) {k : Nat} (hk : k < cn (bg q) 256) : ∀ n j f, j + n = 256 → n < f → cn (bg q) j ≤ k → ∃ s, fX4_rangeAt_4 r f (Int32.ofNat (k - cn (bg q) j)) (Int32.ofNat j) = some (Int32.ofNat s) ∧ bg q s = true ∧ cn (bg q) s = k := by
  intro n
  induction n with
  | zero =>
    intro j f hj hf hc
    obtain rfl : j = 256 := by omega
    omega
  | succ n ih =>
    intro j f hj hf hc
    obtain ⟨f, rfl⟩ := zfuel hf
    have hj2 : j < 256 := by omega
    have h256 := cn_le (bg q) 256
    rw [fX4_rangeAt_4, if_neg (z256 hj2), mbegins hq (by omega), ob_some, zN_1]
    have h1 := ih (j + 1) f (by omega) (by omega)
    rw [cn] at h1
    cases hbg : bg q j
    · rw [if_pos bi_f]
      rw [hbg] at h1
      exact h1 (by simpa using hc)
    · rw [if_neg (show ¬ bi true = 0 by decide)]
      by_cases c : k = cn (bg q) j
      · rw [if_pos (show Int32.ofNat (k - cn (bg q) j) = 0 by rw [show k - cn (bg q) j = 0 by omega]; rfl)]
        exact ⟨j, rfl, hbg, c.symm⟩
      · rw [if_neg (show ¬ Int32.ofNat (k - cn (bg q) j) = 0 from fun q => by have := (zN_inj (c := 0) (by omega) (by omega)).mp q; omega), zN_m1 (by omega)]
        rw [hbg] at h1
        have := h1 (by simp; omega)
        rw [if_pos rfl, show k - (cn (bg q) j + 1) = k - cn (bg q) j - 1 by omega] at this
        exact this
theorem bg_one {p : Nat → Bool} {s t : Nat} (h1 : p s = true) (h2 : p t = true) (h : cn p s = cn p t) : s = t := by
  have key : ∀ s t, p s = true → s < t → cn p s + 1 ≤ cn p t := fun s t hs hst => by
    have := cn_mono p (m := s + 1) t hst
    rw [cn, if_pos hs] at this
    exact this
  rcases Nat.lt_trichotomy s t with c | c | c
  · have := key s t h1 c; omega
  · exact c
  · have := key t s h2 c; omega
theorem fx_end_2 (b : Nat → Int32) : ∀ n k f, 256 - k = n → k ≤ 256 → n < f → fX0_endOfRange_2 b f (Int32.ofNat k) = some (Int32.ofNat (eo (zq b) k)) := by
  intro n
  induction n with
  | zero =>
    intro k f hk hk2 hf
    obtain ⟨f, rfl⟩ := zfuel hf
    obtain rfl : k = 256 := by omega
    rw [fX0_endOfRange_2, if_pos z256p, eo_not (zq_B b 256 (Nat.le_refl _))]
  | succ n ih =>
    intro k f hk hk2 hf
    obtain ⟨f, rfl⟩ := zfuel hf
    have hk3 : k < 256 := by omega
    rw [fX0_endOfRange_2, if_neg (z256 hk3), if_neg (zi256 hk3), zk256 hk3]
    by_cases hb : b k < 0
    · rw [if_pos hb, eo_not (zq_f hb)]
    · rw [if_neg hb, zN_1, eo_step (zq_B b) (zq_t hk3 hb)]
      exact ih (k + 1) f (by omega) (by omega) (by omega)
theorem fx_pieces_22 {b pF pL st : Nat → Int32} (hp : PV pF pL) {g : Nat} (hg : g < 5) (h : st 0 = Int32.ofNat g) {e : Nat} (he : e ≤ 256) (c0 : Nat) : ∀ n k f, k + n = e → n < f → c0 ≤ cn (bg (fr (zq b) (pn pF pL) (2 ^ g))) k → fX0_countPieces_22 b pF pL st f (Int32.ofNat (cn (bg (fr (zq b) (pn pF pL) (2 ^ g))) k - c0)) (bi (pv (fr (zq b) (pn pF pL) (2 ^ g)) k)) (Int32.ofNat e) (Int32.ofNat k) = some (Int32.ofNat (cn (bg (fr (zq b) (pn pF pL) (2 ^ g))) e - c0)) := by
  intro n
  induction n with
  | zero =>
    intro k f hk hf hc
    obtain ⟨f, rfl⟩ := zfuel hf
    obtain rfl : k = e := by omega
    rw [fX0_countPieces_22, if_pos ((zN_le (by omega) (by omega)).mpr (Nat.le_refl _))]
  | succ n ih =>
    intro k f hk hf hc
    obtain ⟨f, rfl⟩ := zfuel hf
    rw [fX0_countPieces_22, if_neg (fun q => by have := (zN_le (by omega) (by omega)).mp q; omega), fx_isFree hp hg h (by omega), ob_some, zN_1 k]
    have h1 := ih (k + 1) f (by omega) (by omega)
    rw [cn, pv_succ, bg_pv] at h1
    cases c : fr (zq b) (pn pF pL) (2 ^ g) k
    · rw [c] at h1
      rw [if_pos bi_f]
      exact h1 (by simpa using hc)
    · rw [c] at h1
      rw [if_neg (show ¬ bi true = 0 by decide)]
      cases c2 : pv (fr (zq b) (pn pF pL) (2 ^ g)) k
      · rw [c2] at h1
        rw [if_pos bi_f, zN_1]
        have := h1 (by simp; omega)
        rw [if_pos (show (true && !false) = true from rfl), show cn (bg (fr (zq b) (pn pF pL) (2 ^ g))) k + 1 - c0 = cn (bg (fr (zq b) (pn pF pL) (2 ^ g))) k - c0 + 1 by omega] at this
        exact this
      · rw [c2] at h1
        rw [if_neg (show ¬ bi true = 0 by decide)]
        exact h1 (by simpa using hc)
/-- pieces and granules by blocks -/
def wU (f : Nat → Bool) (G j : Nat) : Nat := if j % G = 0 then (if bg f (j / G) = true then 1 else 0) else 0
def wW (f : Nat → Bool) (G j : Nat) : Nat := if j % G = 0 then pc f (j / G) else 0
theorem sm_wU {G : Nat} (hG : 0 < G) (f : Nat → Bool) (j : Nat) : sm (wU f G) j = cn (bg f) ((j + G - 1) / G) := by
  rw [cn_sm]
  refine sm_ceil hG _ _ (fun i => ?_) (fun j hj => if_neg hj) j
  show (if i * G % G = 0 then _ else 0) = _
  rw [if_pos (Nat.mul_mod_left _ _), Nat.mul_div_cancel _ hG]
theorem sm_wW {G : Nat} (hG : 0 < G) (f : Nat → Bool) (j : Nat) : sm (wW f G) j = sm (pc f) ((j + G - 1) / G) := by
  refine sm_ceil hG _ _ (fun i => ?_) (fun j hj => if_neg hj) j
  show (if i * G % G = 0 then _ else 0) = _
  rw [if_pos (Nat.mul_mod_left _ _), Nat.mul_div_cancel _ hG]
/-- the answers about a range -/
def rgA (what : Nat) (s e : Nat) (tm0 : Int32) (P W : Int32) (d : Bool) : Int32 := if what = 0 then Int32.ofNat s else if what = 1 then Int32.ofNat e - Int32.ofNat s else if what = 2 then tm0 else if what = 3 then P else if what = 4 then W else bi d
theorem mrange_77 {b pF pL st r : Nat → Int32} {tm : Int32} (hb : RB b r) (hp : PV pF pL) (hr : RP pF pL r) (ht : r 768 = tm) (h3 : r 776 = st 3) {g : Nat} (hg : g < 5) (h : r 773 = Int32.ofNat g) {s e : Nat} (hs : s < 256) (he : e ≤ 256) (hsq : zq b s = true) {what : Nat} (hw : what < 6) (rf : Int32) : ∀ n j f, j + n = e → n < f → s ≤ j →
    fX4_range_77 r f (Int32.ofNat what) (Int32.ofNat s) (Int32.ofNat e) (Int32.ofNat (sm (wU (fr (zq b) (pn pF pL) (2 ^ g)) (2 ^ g)) j - sm (wU (fr (zq b) (pn pF pL) (2 ^ g)) (2 ^ g)) s)) (Int32.ofNat (sm (wW (fr (zq b) (pn pF pL) (2 ^ g)) (2 ^ g)) j - sm (wW (fr (zq b) (pn pF pL) (2 ^ g)) (2 ^ g)) s)) (Int32.ofNat j) rf = some (rgA what s e (b s) (Int32.ofNat (sm (wU (fr (zq b) (pn pF pL) (2 ^ g)) (2 ^ g)) e - sm (wU (fr (zq b) (pn pF pL) (2 ^ g)) (2 ^ g)) s)) (Int32.ofNat (sm (wW (fr (zq b) (pn pF pL) (2 ^ g)) (2 ^ g)) e - sm (wW (fr (zq b) (pn pF pL) (2 ^ g)) (2 ^ g)) s)) (due b st tm s), rf) := by
  have hG := zG_pos g
  have hB : zB (fr (zq b) (pn pF pL) (2 ^ g)) := fr_B hG
  intro n
  induction n with
  | zero =>
    intro j f hj hf hsj
    obtain ⟨f, rfl⟩ := zfuel hf
    obtain rfl : j = e := by omega
    rw [fX4_range_77, if_pos ((zN_le (by omega) (by omega)).mpr (Nat.le_refl _))]
    rcases (show what = 0 ∨ what = 1 ∨ what = 2 ∨ what = 3 ∨ what = 4 ∨ what = 5 by omega) with rfl | rfl | rfl | rfl | rfl | rfl
    · rw [if_pos (show Int32.ofNat 0 = 0 from rfl)]; rfl
    · rw [if_neg (show ¬ Int32.ofNat 1 = 0 by decide), if_pos (show Int32.ofNat 1 = 1 from rfl)]; rfl
    · rw [if_neg (show ¬ Int32.ofNat 2 = 0 by decide), if_neg (show ¬ Int32.ofNat 2 = 1 by decide), if_pos (show Int32.ofNat 2 = 2 from rfl), z512k, if_neg (zi785 (by omega)), zk785 (by omega), (hb s hs).2.2, if_neg (zq_nn hsq)]; rfl
    · rw [if_neg (show ¬ Int32.ofNat 3 = 0 by decide), if_neg (show ¬ Int32.ofNat 3 = 1 by decide), if_neg (show ¬ Int32.ofNat 3 = 2 by decide), if_pos (show Int32.ofNat 3 = 3 from rfl)]; rfl
    · rw [if_neg (show ¬ Int32.ofNat 4 = 0 by decide), if_neg (show ¬ Int32.ofNat 4 = 1 by decide), if_neg (show ¬ Int32.ofNat 4 = 2 by decide), if_neg (show ¬ Int32.ofNat 4 = 3 by decide), if_pos (show Int32.ofNat 4 = 4 from rfl)]; rfl
    · rw [if_neg (show ¬ Int32.ofNat 5 = 0 by decide), if_neg (show ¬ Int32.ofNat 5 = 1 by decide), if_neg (show ¬ Int32.ofNat 5 = 2 by decide), if_neg (show ¬ Int32.ofNat 5 = 3 by decide), if_neg (show ¬ Int32.ofNat 5 = 4 by decide), mdue hb h3 ht hs hsq, ob_some]
      show (if bi (due b st tm s) = 0 then some (0, rf) else some (1, rf)) = some (bi (due b st tm s), rf)
      cases due b st tm s
      · rw [if_pos bi_f]; rfl
      · rw [if_neg (show ¬ bi true = 0 by decide)]; rfl
  | succ n ih =>
    intro j f hj hf hsj
    obtain ⟨f, rfl⟩ := zfuel hf
    have hj2 : j < 256 := by omega
    have h1 := ih (j + 1) f (by omega) (by omega) (by omega)
    rw [sm, sm] at h1
    have m1 := sm_mono (wU (fr (zq b) (pn pF pL) (2 ^ g)) (2 ^ g)) j hsj
    have m2 := sm_mono (wW (fr (zq b) (pn pF pL) (2 ^ g)) (2 ^ g)) j hsj
    rw [fX4_range_77, if_neg (fun q => by have := (zN_le (by omega) (by omega)).mp q; omega), zN_1 j]
    by_cases c : j % 2 ^ g = 0
    · obtain ⟨i, rfl⟩ : ∃ i, j = i * 2 ^ g := ⟨j / 2 ^ g, by have h2 := Nat.div_add_mod j (2 ^ g); rw [Nat.mul_comm]; omega⟩
      have hi : i ≤ 256 := Nat.le_trans (Nat.le_mul_of_pos_right i hG) (by omega)
      have e1 : wW (fr (zq b) (pn pF pL) (2 ^ g)) (2 ^ g) (i * 2 ^ g) = pc (fr (zq b) (pn pF pL) (2 ^ g)) i := by
        unfold wW
        rw [if_pos c, Nat.mul_div_cancel _ hG]
      have e2 : wU (fr (zq b) (pn pF pL) (2 ^ g)) (2 ^ g) (i * 2 ^ g) = if bg (fr (zq b) (pn pF pL) (2 ^ g)) i = true then 1 else 0 := by
        unfold wU
        rw [if_pos c, Nat.mul_div_cancel _ hG]
      rw [e1, e2] at h1
      have hle := eo_le hB hi
      rw [mpiece hb.q hp hr hg h hi, ob_some, ob_some, ob_some]
      by_cases d : bg (fr (zq b) (pn pF pL) (2 ^ g)) i = true
      · have hgt := eo_gt hB (bg_iff.mp d).1
        rw [if_pos d] at h1
        have ep : pc (fr (zq b) (pn pF pL) (2 ^ g)) i = eo (fr (zq b) (pn pF pL) (2 ^ g)) i - i := if_pos d
        rw [if_neg (show ¬ Int32.ofNat (pc (fr (zq b) (pn pF pL) (2 ^ g)) i) ≤ 0 from fun q => by have := (zN_le (c := 0) (by omega) (by omega)).mp q; omega), zN_1, zN_add]
        rw [show sm (wU (fr (zq b) (pn pF pL) (2 ^ g)) (2 ^ g)) (i * 2 ^ g) + 1 - sm (wU (fr (zq b) (pn pF pL) (2 ^ g)) (2 ^ g)) s = sm (wU (fr (zq b) (pn pF pL) (2 ^ g)) (2 ^ g)) (i * 2 ^ g) - sm (wU (fr (zq b) (pn pF pL) (2 ^ g)) (2 ^ g)) s + 1 by omega, show sm (wW (fr (zq b) (pn pF pL) (2 ^ g)) (2 ^ g)) (i * 2 ^ g) + pc (fr (zq b) (pn pF pL) (2 ^ g)) i - sm (wW (fr (zq b) (pn pF pL) (2 ^ g)) (2 ^ g)) s = sm (wW (fr (zq b) (pn pF pL) (2 ^ g)) (2 ^ g)) (i * 2 ^ g) - sm (wW (fr (zq b) (pn pF pL) (2 ^ g)) (2 ^ g)) s + pc (fr (zq b) (pn pF pL) (2 ^ g)) i by omega] at h1
        exact h1
      · rw [if_neg d] at h1
        have ep : pc (fr (zq b) (pn pF pL) (2 ^ g)) i = 0 := if_neg d
        rw [ep] at h1 ⊢
        rw [if_pos (show Int32.ofNat 0 ≤ 0 by decide), Int32.add_zero, zN_add]
        rw [Nat.add_zero, Nat.add_zero] at h1
        exact h1
    · rw [mpiece_0 hb.q hp hr hg h (by omega) c, ob_some, ob_some, ob_some, if_pos (show (0 : Int32) ≤ 0 by decide), Int32.add_zero, Int32.add_zero]
      rw [show wW (fr (zq b) (pn pF pL) (2 ^ g)) (2 ^ g) j = 0 from if_neg c, show wU (fr (zq b) (pn pF pL) (2 ^ g)) (2 ^ g) j = 0 from if_neg c, Nat.add_zero, Nat.add_zero] at h1
      exact h1
theorem st_range {b pF pL st : Nat → Int32} {tm qt cm ds dr : Int32} {nw : Nat → Int32} {B : Nat} (h : ZD b pF pL st tm qt cm ds dr nw B) (a1 a2 : Int32) : ∃ (w : Nat) (a a' : Int32), fX3_range b pF pL st tm a1 a2 = some (Int32.ofNat w, a) ∧ fX4_range nw a1 a2 = some (a', Int32.ofNat w) ∧ w ≤ 2 ∧ (w = 0 → a = a') := by
  obtain ⟨T, t1, t0, t2, t3, t4, t5⟩ := h
  obtain ⟨g, hg1, hg2⟩ := t5 0 (by omega)
  have hg : g < 5 := by have : zGm 0 = 4 := rfl; omega
  have hG := zG_pos g
  have hG2 := zG_le g hg
  have h773 : nw 773 = Int32.ofNat g := by rw [← hg1]; exact t2.g 0 (by omega)
  have hb := t2.1
  have hq := hb.q
  have hB : zB (fr (zq b) (pn pF pL) (2 ^ g)) := fr_B hG
  have hR := cn_le (bg (zq b)) 256
  have hin : decide (0 ≤ a1.toInt ∧ a1.toInt ≤ (Int32.ofNat (cn (bg (zq b)) 256) - 1).toInt) = decide (0 ≤ a1.toInt ∧ a1.toInt < (cn (bg (zq b)) 256 : Int)) := by
    refine decide_eq_decide.mpr ?_
    by_cases c : cn (bg (zq b)) 256 = 0
    · rw [c, show (Int32.ofNat 0 - 1).toInt = -1 by decide]; omega
    · rw [show Int32.ofNat (cn (bg (zq b)) 256) - 1 = Int32.ofNat (cn (bg (zq b)) 256 - 1) from zN_sub (c := 1) (by omega), zN_toInt (by omega)]; omega
  unfold fX3_range fX4_range
  rw [fx_countRanges, mranges hq, ob_some, ob_some, mi_in32, ob_some, Int32.toInt_toInt64, show (0 : Int64).toInt = 0 from rfl, hin]
  by_cases c0 : a1 < 0
  · have := int_lt.mp c0
    rw [i0] at this
    rw [if_pos c0, decide_eq_false (by omega), if_pos bi_f, ref1, ob2_some, if_neg n10]
    exact ⟨1, _, _, rfl, rfl, by omega, fun q => by omega⟩
  · have c0' := int_le.mp (zNot_lt.mp c0)
    rw [i0] at c0'
    obtain ⟨e1, e2⟩ := zN_ofInt c0'
    generalize hk : a1.toInt.toNat = k at e1 e2
    rw [if_neg c0]
    by_cases c1 : k < cn (bg (zq b)) 256
    · rw [decide_eq_true (by omega), if_neg (show ¬ bi true = 0 by decide), e1, if_pos ((zN_lt e2 (by omega)).mpr c1)]
      obtain ⟨s, f1, f2, f3⟩ := fx_first_7 (b := b) c1 256 0 1000 rfl (by omega) (Nat.zero_le _)
      obtain ⟨s2, f4, f5, f6⟩ := mrangeAt_4 hq c1 256 0 1000 rfl (by omega) (Nat.zero_le _)
      have es : s2 = s := bg_one f5 f2 (by omega)
      subst es
      replace f1 : fX0_firstOfRange b (Int32.ofNat k) = some (Int32.ofNat s2) := f1
      replace f4 : fX4_rangeAt nw (Int32.ofNat k) = some (Int32.ofNat s2) := f4
      have hs := bg_lt f5
      obtain ⟨hsq, hsp⟩ := bg_iff.mp f5
      have fe : fX0_endOfRange b (Int32.ofNat s2) = some (Int32.ofNat (eo (zq b) s2)) := fx_end_2 b (256 - s2) s2 1000 rfl (by omega) (by omega)
      have hgt := eo_gt (zq_B b) hsq
      have hle := eo_le (zq_B b) (j := s2) (by omega)
      have hend := eo_end (zq_B b) s2
      rw [f1, ob_some, fe, ob_some, mi_in32, ob_some, show (0 : Int64).toInt = 0 from rfl, show (5 : Int64).toInt = 5 from rfl]
      generalize hE : eo (zq b) s2 = E at hgt hle hend
      by_cases c2 : 0 ≤ a2.toInt ∧ a2.toInt ≤ 5
      · obtain ⟨e3, e4⟩ := zN_ofInt c2.1
        have hv : a2.toInt.toNat < 6 := by omega
        generalize a2.toInt.toNat = v at e3 hv
        rw [decide_eq_true c2, if_neg (show ¬ bi true = 0 by decide), ref0, ob2_some, if_pos rfl, f4, ob_some, mend hq (by omega), hE, ob_some, e3]
        have hm := mrange_77 hb t4 t2.2.1 t2.2.2.2.1 (t2.g 3 (by omega)) hg h773 hs hle hsq hv 0 (E - s2) s2 1000 (by omega) (by omega) (Nat.le_refl _)
        rw [Nat.sub_self, Nat.sub_self] at hm
        replace hm : fX4_range_77 nw 1000 (Int32.ofNat v) (Int32.ofNat s2) (Int32.ofNat E) 0 0 (Int32.ofNat s2) 0 = _ := hm
        rw [hm, sm_wU hG, sm_wU hG, sm_wW hG, sm_wW hG, sm_pc hB, sm_pc hB]
        -- the granules' bounds
        have ha : pv (fr (zq b) (pn pF pL) (2 ^ g)) ((s2 + 2 ^ g - 1) / 2 ^ g) = false := by
          unfold pv
          by_cases z : 0 < (s2 + 2 ^ g - 1) / 2 ^ g
          · rw [decide_eq_true z, Bool.true_and]
            cases hf : fr (zq b) (pn pF pL) (2 ^ g) ((s2 + 2 ^ g - 1) / 2 ^ g - 1)
            · rfl
            · obtain ⟨y1, y2⟩ := fr_iff.mp hf
              exfalso
              have d1 := Nat.div_add_mod s2 (2 ^ g)
              by_cases m0 : s2 % 2 ^ g = 0
              · obtain ⟨w1, -⟩ := ceil_0 hG m0
                rw [w1] at z y2
                have q1 := (y2 (2 ^ g - 1) (by omega)).1
                have : (s2 / 2 ^ g - 1) * 2 ^ g + (2 ^ g - 1) = s2 - 1 := by
                  rw [Nat.mul_comm, Nat.mul_sub, Nat.mul_one]
                  have : 2 ^ g ≤ 2 ^ g * (s2 / 2 ^ g) := Nat.le_mul_of_pos_right _ z
                  omega
                rw [this, hsp (by
                  have : 2 ^ g ≤ 2 ^ g * (s2 / 2 ^ g) := Nat.le_mul_of_pos_right _ z
                  omega)] at q1
                cases q1
              · obtain ⟨w1, -⟩ := ceil_1 hG m0
                rw [w1, Nat.add_sub_cancel] at y2
                have hl := Nat.mod_lt s2 hG
                have q1 := (y2 (s2 % 2 ^ g - 1) (by omega)).1
                rw [Nat.mul_comm] at q1
                rw [show 2 ^ g * (s2 / 2 ^ g) + (s2 % 2 ^ g - 1) = s2 - 1 by omega, hsp (by omega)] at q1
                cases q1
          · rw [decide_eq_false z]; rfl
        have hE2 : fr (zq b) (pn pF pL) (2 ^ g) (E / 2 ^ g) = false := by
          cases hf : fr (zq b) (pn pF pL) (2 ^ g) (E / 2 ^ g)
          · rfl
          · obtain ⟨y1, y2⟩ := fr_iff.mp hf
            have q1 := (y2 (E % 2 ^ g) (Nat.mod_lt _ hG)).1
            rw [Nat.mul_comm, Nat.div_add_mod, hend] at q1
            cases q1
        have hbE : bg (fr (zq b) (pn pF pL) (2 ^ g)) (E / 2 ^ g) = false := by rw [bg_pv, hE2]; rfl
        have hc2 : cn (fr (zq b) (pn pF pL) (2 ^ g)) ((E + 2 ^ g - 1) / 2 ^ g) = cn (fr (zq b) (pn pF pL) (2 ^ g)) (E / 2 ^ g) ∧ cn (bg (fr (zq b) (pn pF pL) (2 ^ g))) ((E + 2 ^ g - 1) / 2 ^ g) = cn (bg (fr (zq b) (pn pF pL) (2 ^ g))) (E / 2 ^ g) ∧ (if pv (fr (zq b) (pn pF pL) (2 ^ g)) ((E + 2 ^ g - 1) / 2 ^ g) = true then eo (fr (zq b) (pn pF pL) (2 ^ g)) ((E + 2 ^ g - 1) / 2 ^ g) - (E + 2 ^ g - 1) / 2 ^ g else 0) = 0 := by
          by_cases m0 : E % 2 ^ g = 0
          · obtain ⟨w1, -⟩ := ceil_0 hG m0
            rw [w1, eo_not hE2, Nat.sub_self]
            exact ⟨rfl, rfl, by split <;> rfl⟩
          · obtain ⟨w1, -⟩ := ceil_1 hG m0
            rw [w1, cn, cn, pv_succ, hE2, hbE]
            exact ⟨rfl, rfl, rfl⟩
        obtain ⟨z1, z2, z3⟩ := hc2
        rw [z1, z2, z3, ha, if_neg Bool.false_ne_true, Nat.add_zero, Nat.add_zero]
        have hdiv : (E / 2 ^ g) ≤ 256 := Nat.le_trans (Nat.div_le_self _ _) hle
        have hdiv2 : (s2 + 2 ^ g - 1) / 2 ^ g ≤ E / 2 ^ g + 1 := by
          rw [← Nat.add_div_right _ hG]
          exact Nat.div_le_div_right (by omega)
        generalize hA : (s2 + 2 ^ g - 1) / 2 ^ g = A at ha hdiv2 ⊢
        generalize hDD : E / 2 ^ g = D at hdiv hdiv2 ⊢
        have cp : fX0_countPieces b pF pL st (Int32.ofNat s2) (Int32.ofNat E) = some (Int32.ofNat (cn (bg (fr (zq b) (pn pF pL) (2 ^ g))) (D) - cn (bg (fr (zq b) (pn pF pL) (2 ^ g))) (A))) := by
          unfold fX0_countPieces
          rw [fx_granuleFrom hg hg1 (by omega), ob_some, hg1, zshr g hg _ (by omega), hA, hDD]
          by_cases c : A ≤ D
          · have e := fx_pieces_22 (b := b) t4 hg hg1 hdiv (cn (bg (fr (zq b) (pn pF pL) (2 ^ g))) (A)) (D - A) A 1000 (by omega) (by omega) (Nat.le_refl _)
            rw [Nat.sub_self, ha] at e
            exact e
          · rw [fX0_countPieces_22, if_pos ((zN_le (by omega) (by omega)).mpr (by omega))]
            have := cn_mono (bg (fr (zq b) (pn pF pL) (2 ^ g))) (m := D) (A) (by omega)
            rw [Nat.sub_eq_zero_of_le this]; rfl
        have cg : fX0_countGranules b pF pL st (Int32.ofNat s2) (Int32.ofNat E) = some (Int32.ofNat (cn (fr (zq b) (pn pF pL) (2 ^ g)) (D) - cn (fr (zq b) (pn pF pL) (2 ^ g)) (A))) := by
          unfold fX0_countGranules
          rw [fx_granuleFrom hg hg1 (by omega), ob_some, hg1, zshr g hg _ (by omega), hA, hDD]
          by_cases c : A ≤ D
          · have e := fx_countGranules_19 (b := b) t4 hg hg1 hdiv (cn (fr (zq b) (pn pF pL) (2 ^ g)) (A)) (D - A) A 1000 (by omega) (by omega) (Nat.le_refl _)
            rw [Nat.sub_self] at e
            exact e
          · rw [fX0_countGranules_19, if_pos ((zN_le (by omega) (by omega)).mpr (by omega))]
            have := cn_mono (fr (zq b) (pn pF pL) (2 ^ g)) (m := D) (A) (by omega)
            rw [Nat.sub_eq_zero_of_le this]; rfl
        refine ⟨0, _, _, ?_, rfl, by omega, fun _ => rfl⟩
        rcases (show v = 0 ∨ v = 1 ∨ v = 2 ∨ v = 3 ∨ v = 4 ∨ v = 5 by omega) with rfl | rfl | rfl | rfl | rfl | rfl
        · rw [if_pos (show Int32.ofNat 0 = 0 from rfl)]; rfl
        · rw [if_neg (show ¬ Int32.ofNat 1 = 0 by decide), if_pos (show Int32.ofNat 1 = 1 from rfl)]; rfl
        · rw [if_neg (show ¬ Int32.ofNat 2 = 0 by decide), if_neg (show ¬ Int32.ofNat 2 = 1 by decide), if_pos (show Int32.ofNat 2 = 2 from rfl)]
          unfold fX0_timeOf
          rw [if_neg (zi256 hs), zk256 hs]; rfl
        · rw [if_neg (show ¬ Int32.ofNat 3 = 0 by decide), if_neg (show ¬ Int32.ofNat 3 = 1 by decide), if_neg (show ¬ Int32.ofNat 3 = 2 by decide), if_pos (show Int32.ofNat 3 = 3 from rfl), cp]; rfl
        · rw [if_neg (show ¬ Int32.ofNat 4 = 0 by decide), if_neg (show ¬ Int32.ofNat 4 = 1 by decide), if_neg (show ¬ Int32.ofNat 4 = 2 by decide), if_neg (show ¬ Int32.ofNat 4 = 3 by decide), if_pos (show Int32.ofNat 4 = 4 from rfl), cg]; rfl
        · rw [if_neg (show ¬ Int32.ofNat 5 = 0 by decide), if_neg (show ¬ Int32.ofNat 5 = 1 by decide), if_neg (show ¬ Int32.ofNat 5 = 2 by decide), if_neg (show ¬ Int32.ofNat 5 = 3 by decide), if_neg (show ¬ Int32.ofNat 5 = 4 by decide), if_pos (show Int32.ofNat 5 = 5 from rfl), fx_isDue hs, ob_some]
          show (if bi (due b st tm s2) = 0 then some (0, 0) else some (0, 1)) = some (0, bi (due b st tm s2))
          cases due b st tm s2
          · rw [if_pos bi_f]; rfl
          · rw [if_neg (show ¬ bi true = 0 by decide)]; rfl
      · have ne : ∀ k : Nat, k ≤ 5 → ¬ a2 = Int32.ofNat k := fun k hk q => by
          rw [q, zN_toInt (by omega)] at c2
          omega
        rw [decide_eq_false c2, if_pos bi_f, ref2, ob2_some, if_neg n10, if_neg (show ¬ a2 = 0 from ne 0 (by omega)), if_neg (show ¬ a2 = 1 from ne 1 (by omega)), if_neg (show ¬ a2 = 2 from ne 2 (by omega)), if_neg (show ¬ a2 = 3 from ne 3 (by omega)), if_neg (show ¬ a2 = 4 from ne 4 (by omega)), if_neg (show ¬ a2 = 5 from ne 5 (by omega))]
        exact ⟨2, _, _, rfl, rfl, by omega, fun q => by omega⟩
    · rw [decide_eq_false (by omega), if_pos bi_f, ref1, ob2_some, if_neg n10, e1, if_neg (fun q => c1 ((zN_lt e2 (by omega)).mp q))]
      exact ⟨1, _, _, rfl, rfl, by omega, fun q => by omega⟩
/-! texts -/
/-- the text, in both words -/
def ZTx (ch : Nat → Int32) (le : Int32) (tx : Nat → Int32) (sz : Int32) : Prop := ∃ L : Nat, L ≤ 120 ∧ le = Int32.ofNat L ∧ sz = Int32.ofNat L ∧ ∀ i, i < L → ∃ t : Nat, t < 256 ∧ ch i = Int32.ofNat t ∧ tx i = Int32.ofNat t
theorem zchar : ∀ k, k < 256 → vp_nar .char ((Int32.ofNat k).toUInt32 % 65536).toInt32 = Int32.ofNat k := by decide +kernel
theorem zi120 {k : Nat} (h : k < 120) : ¬ (Int32.ofNat k < 0 ∨ 120 ≤ (Int32.ofNat k).toNatClampNeg) := zN_in h (by omega)
theorem st_append {ch tx : Nat → Int32} {le sz : Int32} (h : ZTx ch le tx sz) (a1 : Int32) : ∃ (w w' : Nat) (a a' : Int32) (ch2 : Nat → Int32) (le2 sz2 : Int32) (tx2 : Nat → Int32), fX3_append ch le a1 = some (Int32.ofNat w, a, ch2, le2) ∧ fX4_append sz tx a1 = some (a', Int32.ofNat w', sz2, tx2) ∧ (w = 0 ∧ w' = 0 ∧ a = a' ∨ w = 2 ∧ w' = 1 ∨ w = 3 ∧ w' = 2) ∧ ZTx ch2 le2 tx2 sz2 := by
  obtain ⟨L, hL, rfl, rfl, ht⟩ := h
  unfold fX3_append fX4_append
  rw [mi_in32, ob_some, show (0 : Int64).toInt = 0 from rfl, show (255 : Int64).toInt = 255 from rfl]
  by_cases c : 0 ≤ a1.toInt ∧ a1.toInt ≤ 255
  · obtain ⟨e1, e2⟩ := zN_ofInt c.1
    have hk : a1.toInt.toNat < 256 := by omega
    generalize a1.toInt.toNat = k at e1 hk e2
    rw [decide_eq_true c, if_neg (show ¬ bi true = 0 by decide), e1, if_neg (zN_neg e2), if_pos (show Int32.ofNat k ≤ 255 from (zN_le (c := 255) e2 (by omega)).mpr (by omega))]
    unfold fX2_isFull
    by_cases d : L = 120
    · subst d
      rw [if_neg (show ¬ Int32.ofNat 120 < 120 by decide), ob_some, if_neg n10, if_pos (show Int32.ofNat 120 = 120 from rfl), ref2, ob2_some, if_neg n10]
      exact ⟨3, 2, _, _, _, _, _, _, rfl, rfl, Or.inr (Or.inr ⟨rfl, rfl⟩), 120, by omega, rfl, rfl, ht⟩
    · have hL2 : L < 120 := by omega
      rw [if_pos (show Int32.ofNat L < 120 from (zN_lt (c := 120) (by omega) (by omega)).mpr hL2), ob_some, if_pos rfl, if_neg (show ¬ Int32.ofNat L = 120 from fun q => d ((zN_inj (c := 120) (by omega) (by omega)).mp q)), ref0, ob2_some, if_pos rfl, if_neg (zi120 hL2), zN_cl (by omega)]
      unfold fX2_add
      rw [if_neg (zi120 hL2), zN_cl (by omega), zN_1, ob3_some]
      refine ⟨0, 0, _, _, _, _, _, _, rfl, rfl, Or.inl ⟨rfl, rfl, rfl⟩, L + 1, by omega, rfl, rfl, fun i hi => ?_⟩
      by_cases e : i = L
      · subst e
        rw [zupd_self, zupd_self]
        exact ⟨k, hk, zchar k hk, rfl⟩
      · rw [zupd_ne _ _ e, zupd_ne _ _ e]
        exact ht i (by omega)
  · rw [decide_eq_false c, if_pos bi_f, ref1, ob2_some, if_neg n10]
    by_cases c2 : a1 < 0
    · rw [if_pos c2]
      exact ⟨2, 1, _, _, _, _, _, _, rfl, rfl, Or.inr (Or.inl ⟨rfl, rfl⟩), L, hL, rfl, rfl, ht⟩
    · rw [if_neg c2, if_neg (show ¬ a1 ≤ 255 from fun q => by
        have h1 := int_le.mp q
        rw [show (255 : Int32).toInt = 255 by decide] at h1
        have h2 := int_le.mp (zNot_lt.mp c2)
        rw [i0] at h2
        exact c ⟨h2, h1⟩)]
      exact ⟨2, 1, _, _, _, _, _, _, rfl, rfl, Or.inr (Or.inl ⟨rfl, rfl⟩), L, hL, rfl, rfl, ht⟩
theorem st_clear {ch tx : Nat → Int32} {le sz : Int32} (h : ZTx ch le tx sz) : ∃ a le2 sz2, fX3_clearText le = some (a, le2) ∧ fX4_clearText sz = some (a, 0, sz2) ∧ ZTx ch le2 tx sz2 := by
  obtain ⟨L, hL, rfl, rfl, ht⟩ := h
  exact ⟨_, _, _, rfl, rfl, 0, by omega, rfl, rfl, fun i hi => absurd hi (Nat.not_lt_zero _)⟩
/-- the unit of the digit that has so many behind it and with it -/
def un (m : Nat) : Nat := if m = 0 then 0 else 10 ^ (m - 1)
theorem un_div : ∀ m, m < 4 → Int32.ofNat (un (m + 1)) / 10 = Int32.ofNat (un m) := by decide
theorem un_le : ∀ m, m < 4 → un m ≤ 100 := by decide
theorem un_pos : ∀ m, m < 4 → 0 < m → 0 < un m := by decide
theorem un_1 : un 1 = 1 := rfl
/-- a number's digits, in both words -/
theorem rd_num {ch tx : Nat → Int32} {L : Nat} (hL : L ≤ 120) (ht : ∀ i, i < L → ∃ t : Nat, t < 256 ∧ ch i = Int32.ofNat t ∧ tx i = Int32.ofNat t) {idx dgs lo hi : Nat} (hidx : idx < 3) (hd : dgs ≤ 3) (hhi : hi ≤ 255) (hlo255 : lo ≤ 255) (ahead : Int32) (hah : ¬ ahead = -1) : ∀ (m k s v f f2 : Nat), k + m = dgs → m < f → m < f2 → s ≤ L → v ≤ hi → (m = 0 → lo ≤ v) →
    ∃ (t : Bool) (v2 p : Nat), s ≤ p ∧ p ≤ L ∧ v2 ≤ hi ∧ (t = true → lo ≤ v2) ∧
      (∀ nu : Nat → Int32, fX2_readNumber_31 ch (Int32.ofNat L) f (Int32.ofNat idx) (Int32.ofNat dgs) (Int32.ofNat lo) (Int32.ofNat hi) (Int32.ofNat (un m)) (Int32.ofNat v) (Int32.ofNat k) nu (Int32.ofNat s) = some (bi t, if t = true then upd nu idx (Int32.ofNat v2) else nu, Int32.ofNat p)) ∧
      fX4_figures_26 (Int32.ofNat L) tx f2 ahead (Int32.ofNat lo) (Int32.ofNat hi) (Int32.ofNat v) (Int32.ofNat (un m)) (Int32.ofNat s) = some (if t = true then Int32.ofNat v2 else -1, Int32.ofNat p) := by
  intro m
  induction m with
  | zero =>
    intro k s v f f2 hk hf hf2 hs hv hlo
    obtain ⟨f, rfl⟩ := zfuel hf
    obtain ⟨f2, rfl⟩ := zfuel hf2
    obtain rfl : k = dgs := by omega
    refine ⟨true, v, s, Nat.le_refl _, hs, hv, fun _ => hlo rfl, fun nu => ?_, ?_⟩
    · rw [fX2_readNumber_31, if_pos ((zN_le (by omega) (by omega)).mpr (Nat.le_refl _)), if_neg (zi3 hidx), zk3 hidx]
      rfl
    · rw [fX4_figures_26, if_pos (show Int32.ofNat (un 0) ≤ 0 by decide), if_neg hah]
      rfl
  | succ m ih =>
    intro k s v f f2 hk hf hf2 hs hv hlo
    obtain ⟨f, rfl⟩ := zfuel hf
    obtain ⟨f2, rfl⟩ := zfuel hf2
    have hu1 := un_le (m + 1) (by omega)
    have hu2 := un_pos (m + 1) (by omega) (by omega)
    have nk : ¬ Int32.ofNat dgs ≤ Int32.ofNat k := fun q => by have := (zN_le (by omega) (by omega)).mp q; omega
    have nu0 : ¬ Int32.ofNat (un (m + 1)) ≤ 0 := fun q => by have := (zN_le (c := 0) (by omega) (by omega)).mp q; omega
    have bad : ∀ (P : (Nat → Int32) → Prop) , True := fun _ => trivial
    by_cases c1 : L ≤ s
    · refine ⟨false, v, s, Nat.le_refl _, hs, hv, (fun q => by cases q), fun nu => ?_, ?_⟩
      · rw [fX2_readNumber_31, if_neg nk, if_pos ((zN_le (by omega) (by omega)).mpr c1)]
        rfl
      · rw [fX4_figures_26, if_neg nu0, if_neg hah, if_pos ((zN_le (by omega) (by omega)).mpr c1), mi_in]
        rfl
    · have hs2 : s < L := by omega
      have nL : ¬ Int32.ofNat L ≤ Int32.ofNat s := fun q => c1 ((zN_le (by omega) (by omega)).mp q)
      obtain ⟨t, ht1, ht2, ht3⟩ := ht s hs2
      have hin := zi120 (show s < 120 by omega)
      have hin2 : ¬ (Int32.ofNat s < 0 ∨ 120 ≤ s) := fun q => by
        rcases q with q | q
        · exact zN_neg (by omega) q
        · omega
      have hcl := zN_cl (show s < 2147483648 by omega)
      by_cases c2 : t < 48
      · refine ⟨false, v, s, Nat.le_refl _, hs, hv, (fun q => by cases q), fun nu => ?_, ?_⟩
        · rw [fX2_readNumber_31, if_neg nk, if_neg nL, if_neg hin, hcl, ht2, if_pos (show Int32.ofNat t < 48 from (zN_lt (c := 48) (by omega) (by omega)).mpr c2)]
          rfl
        · have e : ∀ t, t < 48 → fX4_in (Int32.ofNat t - 48).toInt64 0 9 = some 0 := by decide +kernel
          rw [fX4_figures_26, if_neg nu0, if_neg hah, if_neg nL, if_neg hin, hcl, ht3, e t c2, ob_some, if_pos rfl]
          rfl
      · have n48 : ¬ Int32.ofNat t < 48 := fun q => c2 ((zN_lt (c := 48) (by omega) (by omega)).mp q)
        have e48 : Int32.ofNat t - 48 = Int32.ofNat (t - 48) := zN_sub (c := 48) (by omega)
        by_cases c3 : 57 < t
        · refine ⟨false, v, s, Nat.le_refl _, hs, hv, (fun q => by cases q), fun nu => ?_, ?_⟩
          · rw [fX2_readNumber_31, if_neg nk, if_neg nL, if_neg hin, hcl, ht2, if_neg n48, if_neg hin2, if_neg (show ¬ Int32.ofNat t ≤ 57 from fun q => by have := (zN_le (c := 57) (by omega) (by omega)).mp q; omega)]
            rfl
          · rw [fX4_figures_26, if_neg nu0, if_neg hah, if_neg nL, if_neg hin, hcl, ht3, e48, mi_in32, zN_toInt (by omega), show (0 : Int64).toInt = 0 from rfl, show (9 : Int64).toInt = 9 from rfl, decide_eq_false (by omega), ob_some, if_pos bi_f]
            rfl
        · have p57 : Int32.ofNat t ≤ 57 := (zN_le (c := 57) (by omega) (by omega)).mpr (by omega)
          have hmul : (t - 48) * un (m + 1) ≤ 9 * 100 := Nat.mul_le_mul (by omega) hu1
          generalize hw : v + (t - 48) * un (m + 1) = w
          have ew : Int32.ofNat v + Int32.ofNat (t - 48) * Int32.ofNat (un (m + 1)) = Int32.ofNat w := by rw [zN_mul, zN_add, hw]
          have ew2 : Int32.ofNat w + Int32.ofNat (un (m + 1)) - 1 = Int32.ofNat (w + un (m + 1) - 1) := by rw [zN_add]; exact zN_sub (c := 1) (by omega)
          have inn : fX4_in (Int32.ofNat (t - 48)).toInt64 0 9 = some (bi true) := by
            rw [mi_in32, zN_toInt (by omega), show (0 : Int64).toInt = 0 from rfl, show (9 : Int64).toInt = 9 from rfl, decide_eq_true (by omega)]
          by_cases c4 : hi < w
          · have q4 : Int32.ofNat hi < Int32.ofNat w := (zN_lt (by omega) (by omega)).mpr c4
            refine ⟨false, v, s, Nat.le_refl _, hs, hv, (fun q => by cases q), fun nu => ?_, ?_⟩
            · rw [fX2_readNumber_31, if_neg nk, if_neg nL, if_neg hin, hcl, ht2, if_neg n48, if_neg hin2, if_pos p57, if_neg hin2, e48, ew, if_pos q4]
              rfl
            · rw [fX4_figures_26, if_neg nu0, if_neg hah, if_neg nL, if_neg hin, hcl, ht3, e48, inn, ob_some, if_neg (show ¬ bi true = 0 by decide), ew, if_pos q4]
              rfl
          · have q4 : ¬ Int32.ofNat hi < Int32.ofNat w := fun q => c4 ((zN_lt (by omega) (by omega)).mp q)
            by_cases c5 : lo ≤ w + un (m + 1) - 1
            · have q5 : Int32.ofNat lo ≤ Int32.ofNat (w + un (m + 1) - 1) := (zN_le (by omega) (by omega)).mpr c5
              obtain ⟨t2, v2, p, g1, g2, g3, g4, g5, g6⟩ := ih (k + 1) (s + 1) w f f2 (by omega) (by omega) (by omega) (by omega) (by omega) (fun q => by rw [q, un_1] at c5; omega)
              refine ⟨t2, v2, p, by omega, g2, g3, g4, fun nu => ?_, ?_⟩
              · rw [fX2_readNumber_31, if_neg nk, if_neg nL, if_neg hin, hcl, ht2, if_neg n48, if_neg hin2, if_pos p57, if_neg hin2, e48, ew, if_neg q4, ew2, if_pos q5, un_div m (by omega), zN_1, zN_1]
                exact g5 nu
              · rw [fX4_figures_26, if_neg nu0, if_neg hah, if_neg nL, if_neg hin, hcl, ht3, e48, inn, ob_some, if_neg (show ¬ bi true = 0 by decide), ew, if_neg q4, ew2, if_pos q5, un_div m (by omega), zN_1]
                exact g6
            · have q5 : ¬ Int32.ofNat lo ≤ Int32.ofNat (w + un (m + 1) - 1) := fun q => c5 ((zN_le (by omega) (by omega)).mp q)
              refine ⟨false, v, s, Nat.le_refl _, hs, hv, (fun q => by cases q), fun nu => ?_, ?_⟩
              · rw [fX2_readNumber_31, if_neg nk, if_neg nL, if_neg hin, hcl, ht2, if_neg n48, if_neg hin2, if_pos p57, if_neg hin2, e48, ew, if_neg q4, ew2, if_neg q5]
                rfl
              · rw [fX4_figures_26, if_neg nu0, if_neg hah, if_neg nL, if_neg hin, hcl, ht3, e48, inn, ob_some, if_neg (show ¬ bi true = 0 by decide), ew, if_neg q4, ew2, if_neg q5]
                rfl
/-! commands of a text -/
abbrev zTxt (ch tx : Nat → Int32) (L : Nat) : Prop := ∀ i, i < L → ∃ t : Nat, t < 256 ∧ ch i = Int32.ofNat t ∧ tx i = Int32.ofNat t
theorem rd_number {ch tx : Nat → Int32} {L : Nat} (hL : L ≤ 120) (ht : zTxt ch tx L) {idx dgs lo hi : Nat} (hidx : idx < 3) (hd : dgs = 1 ∨ dgs = 2 ∨ dgs = 3) (hhi : hi ≤ 255) (hlo : lo ≤ 255) (ahead : Int32) (hah : ¬ ahead = -1) {s : Nat} (hs : s ≤ L) :
    ∃ (t : Bool) (v p : Nat), s ≤ p ∧ p ≤ L ∧ v ≤ hi ∧ (t = true → lo ≤ v) ∧
      (∀ nu : Nat → Int32, fX2_readNumber ch nu (Int32.ofNat L) (Int32.ofNat s) (Int32.ofNat idx) (Int32.ofNat dgs) (Int32.ofNat lo) (Int32.ofNat hi) = some (bi t, if t = true then upd nu idx (Int32.ofNat v) else nu, Int32.ofNat p)) ∧
      fX4_figures (Int32.ofNat L) (Int32.ofNat s) tx ahead (Int32.ofNat dgs) (Int32.ofNat lo) (Int32.ofNat hi) = some (if t = true then Int32.ofNat v else -1, Int32.ofNat p) := by
  obtain ⟨t, v, p, g1, g2, g3, g4, g5, g6⟩ := rd_num hL ht hidx (dgs := dgs) (lo := lo) (hi := hi) (by omega) hhi hlo ahead hah dgs 0 s 0 1000 1000 (by omega) (by omega) (by omega) hs (Nat.zero_le _) (fun q => by omega)
  refine ⟨t, v, p, g1, g2, g3, g4, fun nu => ?_, ?_⟩
  · rw [← g5 nu]
    unfold fX2_readNumber
    rcases hd with rfl | rfl | rfl
    · rw [fX2_readNumber_6, if_pos (show Int32.ofNat 1 ≤ 1 by decide)]; rfl
    · rw [fX2_readNumber_6, if_neg (show ¬ Int32.ofNat 2 ≤ 1 by decide), fX2_readNumber_6, if_pos (show Int32.ofNat 2 ≤ 1 + 1 by decide)]; rfl
    · rw [fX2_readNumber_6, if_neg (show ¬ Int32.ofNat 3 ≤ 1 by decide), fX2_readNumber_6, if_neg (show ¬ Int32.ofNat 3 ≤ 1 + 1 by decide), fX2_readNumber_6, if_pos (show Int32.ofNat 3 ≤ 1 + 1 + 1 by decide)]; rfl
  · rw [← g6]
    unfold fX4_figures
    rcases hd with rfl | rfl | rfl
    · rw [if_neg (show ¬ Int32.ofNat 1 = 3 by decide), if_neg (show ¬ Int32.ofNat 1 = 2 by decide)]; rfl
    · rw [if_neg (show ¬ Int32.ofNat 2 = 3 by decide), if_pos (show Int32.ofNat 2 = 2 from rfl)]; rfl
    · rw [if_pos (show Int32.ofNat 3 = 3 from rfl)]; rfl
/-- behind nothing that was read, nothing is read -/
theorem fig_none (sz sp : Int32) (tx : Nat → Int32) (d lo hi : Int32) : fX4_figures sz sp tx (-1) d lo hi = some (-1, sp) := by
  have e : ∀ u : Int32, ¬ u ≤ 0 → fX4_figures_26 sz tx (999 + 1) (-1) lo hi 0 u sp = some (-1, sp) := fun u hu => by
    rw [fX4_figures_26, if_neg hu, if_pos rfl, if_pos rfl]
  unfold fX4_figures
  by_cases c : d = 3
  · rw [if_pos c]; exact e 100 (by decide)
  · rw [if_neg c]
    by_cases c2 : d = 2
    · rw [if_pos c2]; exact e 10 (by decide)
    · rw [if_neg c2]; exact e 1 (by decide)
theorem rd_span {ch tx : Nat → Int32} {L : Nat} (hL : L ≤ 120) (ht : zTxt ch tx L) {idx : Nat} (hidx : idx < 2) (ahead : Int32) (hah : ¬ ahead = -1) {s : Nat} (hs : s ≤ L) :
    ∃ (t : Bool) (a b p p3 : Nat) (x3 : Int32), s ≤ p ∧ p ≤ L ∧
      (∀ nu : Nat → Int32, ∃ nu2 : Nat → Int32, fX2_readSpan ch nu (Int32.ofNat L) (Int32.ofNat s) (Int32.ofNat idx) = some (bi t, nu2, Int32.ofNat p) ∧ (t = true → nu2 idx = Int32.ofNat a ∧ nu2 (idx + 1) = Int32.ofNat b ∧ ∀ j, j < idx → nu2 j = nu j)) ∧
      fX4_figures (Int32.ofNat L) (Int32.ofNat s) tx ahead 3 0 255 = some (x3, Int32.ofNat p3) ∧ fX4_figures (Int32.ofNat L) (Int32.ofNat p3) tx x3 2 1 99 = some (if t = true then Int32.ofNat b else -1, Int32.ofNat p) ∧ (t = true → x3 = Int32.ofNat a) ∧ a ≤ 255 ∧ b ≤ 99 := by
  obtain ⟨t1, v1, p1, a1, a2, a3, a4, a5, a6⟩ := rd_number hL ht (idx := idx) (dgs := 3) (lo := 0) (hi := 255) (by omega) (by omega) (by omega) (by omega) ahead hah hs
  cases t1
  · refine ⟨false, v1, 0, p1, p1, -1, a1, a2, fun nu => ⟨nu, ?_, (fun q => by cases q)⟩, a6, fig_none _ _ _ _ _ _, (fun q => by cases q), by omega, by omega⟩
    unfold fX2_readSpan
    have h1 := a5 nu
    replace h1 : fX2_readNumber ch nu (Int32.ofNat L) (Int32.ofNat s) (Int32.ofNat idx) 3 0 255 = _ := h1
    rw [h1, ob3_some, if_pos bi_f]
    rfl
  · obtain ⟨t2, v2, p2, c1, c2, c3, c4, c5, c6⟩ := rd_number hL ht (idx := idx + 1) (dgs := 2) (lo := 1) (hi := 99) (by omega) (by omega) (by omega) (by omega) (Int32.ofNat v1) (zN_m (by omega)) a2
    refine ⟨t2, v1, v2, p2, p1, Int32.ofNat v1, by omega, c2, fun nu => ⟨if t2 = true then upd (upd nu idx (Int32.ofNat v1)) (idx + 1) (Int32.ofNat v2) else upd nu idx (Int32.ofNat v1), ?_, fun q => ?_⟩, a6, c6, fun _ => rfl, a3, c3⟩
    · unfold fX2_readSpan
      have h1 := a5 nu
      replace h1 : fX2_readNumber ch nu (Int32.ofNat L) (Int32.ofNat s) (Int32.ofNat idx) 3 0 255 = some (bi true, upd nu idx (Int32.ofNat v1), Int32.ofNat p1) := h1
      have h2 := c5 (upd nu idx (Int32.ofNat v1))
      replace h2 : fX2_readNumber ch (upd nu idx (Int32.ofNat v1)) (Int32.ofNat L) (Int32.ofNat p1) (Int32.ofNat (idx + 1)) 2 1 99 = _ := h2
      rw [h1, ob3_some, if_neg (show ¬ bi true = 0 by decide), zN_1, h2, ob3_some]
      cases t2
      · rw [if_pos bi_f]; rfl
      · rw [if_neg (show ¬ bi true = 0 by decide)]; rfl
    · rw [if_pos q]
      refine ⟨?_, zupd_self _ _ _, fun j hj => ?_⟩
      · rw [zupd_ne _ _ (by omega), zupd_self]
      · rw [zupd_ne _ _ (by omega), zupd_ne _ _ (by omega)]
theorem done0 (ou : Int32) : fX4_done ou 0 = some (1, ou + 1) := rfl
theorem done1 (ou : Int32) : fX4_done ou 1 = some (1, ou) := by
  show some ((1 : Int32), ou + 0) = _
  rw [Int32.add_zero]
theorem num_at (nu : Nat → Int32) : fX2_number nu 0 = some (nu 0) ∧ fX2_number nu 1 = some (nu 1) ∧ fX2_number nu 2 = some (nu 2) := ⟨rfl, rfl, rfl⟩
/-- what one command of a text does, in both words -/
def RC (ch tx : Nat → Int32) (L : Nat) (sF sB ou : Int32) (s : Nat) (b pF pL st : Nat → Int32) (tm qt cm ds dr : Int32) (ro : Nat → Int32) (B : Nat) : Prop :=
  ∃ (t : Bool) (p : Nat) (sF2 sB2 ou2 : Int32) (ro2 : Nat → Int32) (dn : Bool) (b2 pF2 pL2 st2 : Nat → Int32) (tm2 qt2 cm2 ds2 dr2 : Int32), p ≤ L ∧ (t = true → s < p) ∧
    fX4_readCommand (Int32.ofNat L) sF sB (Int32.ofNat s) ou tx ro = some (bi t, sF2, sB2, Int32.ofNat p, ou2, ro2) ∧
    (∀ (nu : Nat → Int32) (lt : Int32), ∃ nu2 lt2, fX2_readCommand ch nu (Int32.ofNat L) (Int32.ofNat s) lt = some (bi t, nu2, Int32.ofNat p, lt2) ∧ (t = true → fX3_doTextCommand nu2 lt2 b pF pL st tm qt cm ds dr = some (bi dn, b2, pF2, pL2, st2, tm2, qt2, cm2, ds2, dr2))) ∧
    (t = true → ZD b2 pF2 pL2 st2 tm2 qt2 cm2 ds2 dr2 ro2 (B + 60) ∧ ou2 = if dn = true then ou else ou + 1)
section RCS
variable {ch tx : Nat → Int32} {L : Nat} {sF sB ou : Int32} {s : Nat} {b pF pL st : Nat → Int32} {tm qt cm ds dr : Int32} {ro : Nat → Int32} {B : Nat}
theorem rc_free (hL : L ≤ 120) (ht : zTxt ch tx L) (hs : s < L) (hc : tx s = Int32.ofNat 102) (hcc : ch s = Int32.ofNat 102) (h : ZD b pF pL st tm qt cm ds dr ro B) (hB : B < 2147483647) : RC ch tx L sF sB ou s b pF pL st tm qt cm ds dr ro B := by
  obtain ⟨t, x, y, p, p3, x3, g1, g2, g3, g4, g5, g6, g7, g8⟩ := rd_span hL ht (idx := 0) (by omega) 0 (by decide) (s := s + 1) (by omega)
  have hsl : Int32.ofNat s < Int32.ofNat L := (zN_lt (by omega) (by omega)).mpr hs
  have hin := zi120 (show s < 120 by omega)
  have hcl := zN_cl (show s < 2147483648 by omega)
  have cls : ∀ nu lt, fX2_readCommand ch nu (Int32.ofNat L) (Int32.ofNat s) lt = ob3 (fX2_readSpan ch nu (Int32.ofNat L) (Int32.ofNat (s + 1)) 0) fun r4 nu4 ta4 => if ¬ (r4 &&& 1 = r4) then none else some (r4, nu4, ta4, Int32.ofNat 102) := fun nu lt => by
    unfold fX2_readCommand
    rw [if_pos hsl, if_neg hin, hcl, hcc, if_pos (show Int32.ofNat 102 = 102 from rfl), zN_1]
  have mdl : fX4_readCommand (Int32.ofNat L) sF sB (Int32.ofNat s) ou tx ro = ob2 (fX4_figures (Int32.ofNat L) (Int32.ofNat (s + 1)) tx 0 3 0 255) fun r3 sp3 => ob2 (fX4_figures (Int32.ofNat L) sp3 tx r3 2 1 99) fun r4 sp4 => if r4 = (-1) then some (0, sF, sB, sp4, ou, ro) else ob (fX4_whyNotSpan r3 r4) fun r6 => if r6 = 0 then ob2 (fX4_freeOn ro r3 r4) fun r11 ro11 => if r11 < 0 then ob2 (fX4_done ou 0) fun r13 ou13 => if r13 = 0 then some (0, sF, sB, sp4, ou13, ro11) else some (1, sF, sB, sp4, ou13, ro11) else ob2 (fX4_done ou 1) fun r15 ou15 => if r15 = 0 then some (0, sF, sB, sp4, ou15, ro11) else some (1, sF, sB, sp4, ou15, ro11) else ob2 (fX4_done ou 0) fun r8 ou8 => if r8 = 0 then some (0, sF, sB, sp4, ou8, ro) else some (1, sF, sB, sp4, ou8, ro) := by
    unfold fX4_readCommand
    rw [if_neg hin, hcl, hc, if_pos (show Int32.ofNat 102 = 102 from rfl), zN_1]
    simp only [show ¬ Int32.ofNat 102 = 119 by decide, if_false]
  unfold RC
  rw [mdl, g4, ob2_some, g5, ob2_some]
  cases t
  · rw [if_neg Bool.false_ne_true, if_pos rfl]
    refine ⟨false, p, sF, sB, ou, ro, false, b, pF, pL, st, tm, qt, cm, ds, dr, g2, (fun q => by cases q), rfl, fun nu lt => ?_, (fun q => by cases q)⟩
    obtain ⟨nu2, k1, -⟩ := g3 nu
    replace k1 : fX2_readSpan ch nu (Int32.ofNat L) (Int32.ofNat (s + 1)) 0 = _ := k1
    exact ⟨nu2, _, by rw [cls, k1, ob3_some, if_neg (bi_and _)], fun q => by cases q⟩
  · rw [if_pos rfl, if_neg (zN_m (by omega)), g6 rfl]
    obtain ⟨w, hw, e1, e2, e3, e4⟩ := span (Int32.ofNat x) (Int32.ofNat y)
    have rd : ∀ nu lt, ∃ nu2, fX2_readCommand ch nu (Int32.ofNat L) (Int32.ofNat s) lt = some (bi true, nu2, Int32.ofNat p, Int32.ofNat 102) ∧ nu2 0 = Int32.ofNat x ∧ nu2 1 = Int32.ofNat y := fun nu lt => by
      obtain ⟨nu2, k1, k2⟩ := g3 nu
      replace k1 : fX2_readSpan ch nu (Int32.ofNat L) (Int32.ofNat (s + 1)) 0 = _ := k1
      exact ⟨nu2, by rw [cls, k1, ob3_some, if_neg (bi_and _)], (k2 rfl).1, (k2 rfl).2.1⟩
    rw [e1, ob_some]
    by_cases c : w = 0
    · subst c
      obtain ⟨s1, m1, z1, z2, z3, z4, z5⟩ := e4 rfl
      obtain ⟨T, t1, rfl, t2, t3, t4, t5⟩ := h
      obtain ⟨cc, b2, dr2, r2, k0, k1, k2, k3, k4⟩ := op_free t2 t3 ((zN_lt (a := T) (c := 2147483647) (by omega) (by omega)).mpr (by omega)) z5
      rw [if_pos (show Int32.ofNat 0 = 0 from rfl), z1, z2, k2, ob2_some, if_neg (zN_neg (by omega)), done1, ob2_some, if_neg n10]
      refine ⟨true, p, _, _, _, _, true, b2, pF, pL, st, _, _, _, _, _, g2, fun _ => by omega, rfl, fun nu lt => ?_, fun _ => ⟨⟨T, by omega, rfl, k3, k4, t4, t5⟩, rfl⟩⟩
      obtain ⟨nu2, r1, r2', r3⟩ := rd nu lt
      refine ⟨nu2, _, r1, fun _ => ?_⟩
      unfold fX3_doTextCommand fX2_letter
      rw [(num_at nu2).1, (num_at nu2).2.1, ob_some, ob_some, ob_some, if_pos (show Int32.ofNat 102 = 102 from rfl), r2', r3]
      unfold fX3_freeIfAllowed
      rw [e3, ob_some, decide_eq_true rfl, if_neg (show ¬ bi true = 0 by decide), z1, z2, k1, ob4_some, ob4_some, if_neg (show ¬ ¬ ((1 : Int32) &&& 1 = 1) by decide)]
      rfl
    · rw [if_neg (show ¬ Int32.ofNat w = 0 from fun q => c ((zN_inj (c := 0) (by omega) (by omega)).mp q)), done0, ob2_some, if_neg n10]
      refine ⟨true, p, _, _, _, _, false, b, pF, pL, st, tm, qt, cm, ds, dr, g2, fun _ => by omega, rfl, fun nu lt => ?_, fun _ => ⟨h.mono (by omega), rfl⟩⟩
      obtain ⟨nu2, r1, r2', r3⟩ := rd nu lt
      refine ⟨nu2, _, r1, fun _ => ?_⟩
      unfold fX3_doTextCommand fX2_letter
      rw [(num_at nu2).1, (num_at nu2).2.1, ob_some, ob_some, ob_some, if_pos (show Int32.ofNat 102 = 102 from rfl), r2', r3]
      unfold fX3_freeIfAllowed
      rw [e3, ob_some, decide_eq_false c, if_pos bi_f, ob4_some, if_neg (show ¬ ¬ ((0 : Int32) &&& 1 = 0) by decide)]
      rfl
theorem rc_write (hL : L ≤ 120) (ht : zTxt ch tx L) (hs : s < L) (hc : tx s = Int32.ofNat 119) (hcc : ch s = Int32.ofNat 119) (h : ZD b pF pL st tm qt cm ds dr ro B) (hB : B < 2147483647) : RC ch tx L sF sB ou s b pF pL st tm qt cm ds dr ro B := by
  obtain ⟨t, x, y, p, p3, x3, g1, g2, g3, g4, g5, g6, g7, g8⟩ := rd_span hL ht (idx := 0) (by omega) 0 (by decide) (s := s + 1) (by omega)
  have hsl : Int32.ofNat s < Int32.ofNat L := (zN_lt (by omega) (by omega)).mpr hs
  have hin := zi120 (show s < 120 by omega)
  have hcl := zN_cl (show s < 2147483648 by omega)
  have cls : ∀ nu lt, fX2_readCommand ch nu (Int32.ofNat L) (Int32.ofNat s) lt = ob3 (fX2_readSpan ch nu (Int32.ofNat L) (Int32.ofNat (s + 1)) 0) fun r4 nu4 ta4 => if ¬ (r4 &&& 1 = r4) then none else some (r4, nu4, ta4, Int32.ofNat 119) := fun nu lt => by
    unfold fX2_readCommand
    rw [if_pos hsl, if_neg hin, hcl, hcc, if_neg (show ¬ Int32.ofNat 119 = 102 by decide), if_neg (show ¬ Int32.ofNat 119 = 105 by decide), if_neg (show ¬ Int32.ofNat 119 = 112 by decide), if_neg (show ¬ Int32.ofNat 119 = 115 by decide), if_pos (show Int32.ofNat 119 = 119 from rfl), zN_1]
  have mdl : fX4_readCommand (Int32.ofNat L) sF sB (Int32.ofNat s) ou tx ro = ob2 (fX4_figures (Int32.ofNat L) (Int32.ofNat (s + 1)) tx 0 3 0 255) fun r3 sp3 => ob2 (fX4_figures (Int32.ofNat L) sp3 tx r3 2 1 99) fun r4 sp4 => if r4 = (-1) then some (0, sF, sB, sp4, ou, ro) else ob (fX4_whyNotSpan r3 r4) fun r6 => if r6 = 0 then ob2 (fX4_writeOn ro r3 r4) fun r11 ro11 => if r11 < 0 then ob2 (fX4_done ou 0) fun r13 ou13 => if r13 = 0 then some (0, sF, sB, sp4, ou13, ro11) else some (1, sF, sB, sp4, ou13, ro11) else ob2 (fX4_done ou 1) fun r15 ou15 => if r15 = 0 then some (0, sF, sB, sp4, ou15, ro11) else some (1, sF, sB, sp4, ou15, ro11) else ob2 (fX4_done ou 0) fun r8 ou8 => if r8 = 0 then some (0, sF, sB, sp4, ou8, ro) else some (1, sF, sB, sp4, ou8, ro) := by
    unfold fX4_readCommand
    rw [if_neg hin, hcl, hc, if_neg (show ¬ Int32.ofNat 119 = 102 by decide), if_neg (show ¬ Int32.ofNat 119 = 105 by decide), if_neg (show ¬ Int32.ofNat 119 = 112 by decide), if_neg (show ¬ Int32.ofNat 119 = 115 by decide), if_pos (show Int32.ofNat 119 = 119 from rfl), zN_1]
    simp only [show Int32.ofNat 119 = 119 from rfl, if_true]
  unfold RC
  rw [mdl, g4, ob2_some, g5, ob2_some]
  cases t
  · rw [if_neg Bool.false_ne_true, if_pos rfl]
    refine ⟨false, p, sF, sB, ou, ro, false, b, pF, pL, st, tm, qt, cm, ds, dr, g2, (fun q => by cases q), rfl, fun nu lt => ?_, (fun q => by cases q)⟩
    obtain ⟨nu2, k1, -⟩ := g3 nu
    replace k1 : fX2_readSpan ch nu (Int32.ofNat L) (Int32.ofNat (s + 1)) 0 = _ := k1
    exact ⟨nu2, _, by rw [cls, k1, ob3_some, if_neg (bi_and _)], fun q => by cases q⟩
  · rw [if_pos rfl, if_neg (zN_m (by omega)), g6 rfl]
    obtain ⟨w, hw, e1, e2, e3, e4⟩ := span (Int32.ofNat x) (Int32.ofNat y)
    have rd : ∀ nu lt, ∃ nu2, fX2_readCommand ch nu (Int32.ofNat L) (Int32.ofNat s) lt = some (bi true, nu2, Int32.ofNat p, Int32.ofNat 119) ∧ nu2 0 = Int32.ofNat x ∧ nu2 1 = Int32.ofNat y := fun nu lt => by
      obtain ⟨nu2, k1, k2⟩ := g3 nu
      replace k1 : fX2_readSpan ch nu (Int32.ofNat L) (Int32.ofNat (s + 1)) 0 = _ := k1
      exact ⟨nu2, by rw [cls, k1, ob3_some, if_neg (bi_and _)], (k2 rfl).1, (k2 rfl).2.1⟩
    rw [e1, ob_some]
    by_cases c : w = 0
    · subst c
      obtain ⟨s1, m1, z1, z2, z3, z4, z5⟩ := e4 rfl
      obtain ⟨T, t1, rfl, t2, t3, t4, t5⟩ := h
      obtain ⟨cc, b2, dr2, r2, k0, k1, k2, k3, k4⟩ := op_write t2 t3 z5
      rw [if_pos (show Int32.ofNat 0 = 0 from rfl), z1, z2, k2, ob2_some, if_neg (zN_neg (by omega)), done1, ob2_some, if_neg n10]
      refine ⟨true, p, _, _, _, _, true, b2, pF, pL, st, _, _, _, _, _, g2, fun _ => by omega, rfl, fun nu lt => ?_, fun _ => ⟨⟨T, by omega, rfl, k3, k4, t4, t5⟩, rfl⟩⟩
      obtain ⟨nu2, r1, r2', r3⟩ := rd nu lt
      refine ⟨nu2, _, r1, fun _ => ?_⟩
      unfold fX3_doTextCommand fX2_letter
      rw [(num_at nu2).1, (num_at nu2).2.1, ob_some, ob_some, ob_some, if_neg (show ¬ Int32.ofNat 119 = 102 by decide), if_neg (show ¬ Int32.ofNat 119 = 105 by decide), if_neg (show ¬ Int32.ofNat 119 = 112 by decide), if_pos (show Int32.ofNat 119 = 119 from rfl), r2', r3]
      unfold fX3_writeIfAllowed
      rw [e3, ob_some, decide_eq_true rfl, if_neg (show ¬ bi true = 0 by decide), z1, z2, k1, ob4_some, ob4_some, if_neg (show ¬ ¬ ((1 : Int32) &&& 1 = 1) by decide)]
      rfl
    · rw [if_neg (show ¬ Int32.ofNat w = 0 from fun q => c ((zN_inj (c := 0) (by omega) (by omega)).mp q)), done0, ob2_some, if_neg n10]
      refine ⟨true, p, _, _, _, _, false, b, pF, pL, st, tm, qt, cm, ds, dr, g2, fun _ => by omega, rfl, fun nu lt => ?_, fun _ => ⟨h.mono (by omega), rfl⟩⟩
      obtain ⟨nu2, r1, r2', r3⟩ := rd nu lt
      refine ⟨nu2, _, r1, fun _ => ?_⟩
      unfold fX3_doTextCommand fX2_letter
      rw [(num_at nu2).1, (num_at nu2).2.1, ob_some, ob_some, ob_some, if_neg (show ¬ Int32.ofNat 119 = 102 by decide), if_neg (show ¬ Int32.ofNat 119 = 105 by decide), if_neg (show ¬ Int32.ofNat 119 = 112 by decide), if_pos (show Int32.ofNat 119 = 119 from rfl), r2', r3]
      unfold fX3_writeIfAllowed
      rw [e3, ob_some, decide_eq_false c, if_pos bi_f, ob4_some, if_neg (show ¬ ¬ ((0 : Int32) &&& 1 = 0) by decide)]
      rfl
theorem rc_run (hL : L ≤ 120) (ht : zTxt ch tx L) (hs : s < L) (hc : tx s = Int32.ofNat 105) (hcc : ch s = Int32.ofNat 105) (h : ZD b pF pL st tm qt cm ds dr ro B) (hB : B + 100 < 2147483647) : RC ch tx L sF sB ou s b pF pL st tm qt cm ds dr ro B := by
  obtain ⟨t, x, p, g1, g2, g3, g4, g5, g6⟩ := rd_number hL ht (idx := 0) (dgs := 2) (lo := 1) (hi := 60) (by omega) (by omega) (by omega) (by omega) 0 (by decide) (s := s + 1) (by omega)
  have hsl : Int32.ofNat s < Int32.ofNat L := (zN_lt (by omega) (by omega)).mpr hs
  have hin := zi120 (show s < 120 by omega)
  have hcl := zN_cl (show s < 2147483648 by omega)
  have cls : ∀ nu lt, fX2_readCommand ch nu (Int32.ofNat L) (Int32.ofNat s) lt = ob3 (fX2_readNumber ch nu (Int32.ofNat L) (Int32.ofNat (s + 1)) (Int32.ofNat 0) (Int32.ofNat 2) (Int32.ofNat 1) (Int32.ofNat 60)) fun r7 nu7 ta7 => if ¬ (r7 &&& 1 = r7) then none else some (r7, nu7, ta7, Int32.ofNat 105) := fun nu lt => by
    unfold fX2_readCommand
    rw [if_pos hsl, if_neg hin, hcl, hcc, if_neg (show ¬ Int32.ofNat 105 = 102 by decide), if_pos (show Int32.ofNat 105 = 105 from rfl), zN_1]
    rfl
  have mdl : fX4_readCommand (Int32.ofNat L) sF sB (Int32.ofNat s) ou tx ro = ob2 (fX4_figures (Int32.ofNat L) (Int32.ofNat (s + 1)) tx 0 (Int32.ofNat 2) (Int32.ofNat 1) (Int32.ofNat 60)) fun r24 sp24 => if r24 = (-1) then some (0, sF, sB, sp24, ou, ro) else ob4 (fX4_runOn sF sB ro r24) fun r26 sF26 sB26 ro26 => if r26 < 0 then ob2 (fX4_done ou 0) fun r28 ou28 => if r28 = 0 then some (0, sF26, sB26, sp24, ou28, ro26) else some (1, sF26, sB26, sp24, ou28, ro26) else ob2 (fX4_done ou 1) fun r30 ou30 => if r30 = 0 then some (0, sF26, sB26, sp24, ou30, ro26) else some (1, sF26, sB26, sp24, ou30, ro26) := by
    unfold fX4_readCommand
    rw [if_neg hin, hcl, hc, if_neg (show ¬ Int32.ofNat 105 = 102 by decide), if_pos (show Int32.ofNat 105 = 105 from rfl), zN_1]
    rfl
  unfold RC
  rw [mdl, g6, ob2_some]
  cases t
  · rw [if_neg Bool.false_ne_true, if_pos rfl]
    refine ⟨false, p, sF, sB, ou, ro, false, b, pF, pL, st, tm, qt, cm, ds, dr, g2, (fun q => by cases q), rfl, fun nu lt => ?_, (fun q => by cases q)⟩
    exact ⟨nu, _, by rw [cls, g5 nu, ob3_some, if_neg (bi_and _)]; rfl, (fun q => by cases q)⟩
  · rw [if_pos rfl, if_neg (zN_m (by omega))]
    obtain ⟨T, t1, rfl, t2, t3, t4, t5⟩ := h
    obtain ⟨b2, qt2, cm2, D, dr2, r2, sF2, sB2, k0, k1, k2, k3, k4, k5⟩ := op_run t4 t5 (T := T) (N := x) (by omega) (by omega) sF sB t2 t3
    rw [k2, ob4_some, if_neg (zN_neg (by omega)), done1, ob2_some, if_neg n10]
    refine ⟨true, p, _, _, _, _, true, b2, pF, pL, st, _, _, _, _, _, g2, fun _ => by omega, rfl, fun nu lt => ?_, fun _ => ⟨⟨T + x, by omega, rfl, k3, k4, t4, t5⟩, rfl⟩⟩
    refine ⟨upd nu 0 (Int32.ofNat x), _, by rw [cls, g5 nu, ob3_some, if_neg (bi_and _)]; rfl, fun _ => ?_⟩
    unfold fX3_doTextCommand fX2_letter
    rw [(num_at (upd nu 0 (Int32.ofNat x))).1, (num_at (upd nu 0 (Int32.ofNat x))).2.1, ob_some, ob_some, ob_some, if_neg (show ¬ Int32.ofNat 105 = 102 by decide), if_pos (show Int32.ofNat 105 = 105 from rfl), zupd_self, k1, ob7_some]
    rfl
end RCS
section RCS2
variable {ch tx : Nat → Int32} {L : Nat} {sF sB ou : Int32} {s : Nat} {b pF pL st : Nat → Int32} {tm qt cm ds dr : Int32} {ro : Nat → Int32} {B : Nat}
theorem rc_set (hL : L ≤ 120) (ht : zTxt ch tx L) (hs : s < L) (hc : tx s = Int32.ofNat 115) (hcc : ch s = Int32.ofNat 115) (h : ZD b pF pL st tm qt cm ds dr ro B) : RC ch tx L sF sB ou s b pF pL st tm qt cm ds dr ro B := by
  obtain ⟨t, x, p, g1, g2, g3, g4, g5, g6⟩ := rd_number hL ht (idx := 0) (dgs := 1) (lo := 0) (hi := 5) (by omega) (by omega) (by omega) (by omega) 0 (by decide) (s := s + 1) (by omega)
  have hsl : Int32.ofNat s < Int32.ofNat L := (zN_lt (by omega) (by omega)).mpr hs
  have hin := zi120 (show s < 120 by omega)
  have hcl := zN_cl (show s < 2147483648 by omega)
  have cls : ∀ nu lt, fX2_readCommand ch nu (Int32.ofNat L) (Int32.ofNat s) lt = ob3 (fX2_readNumber ch nu (Int32.ofNat L) (Int32.ofNat (s + 1)) (Int32.ofNat 0) (Int32.ofNat 1) (Int32.ofNat 0) (Int32.ofNat 5)) fun r15 nu15 ta15 => if r15 = 0 then some (0, nu15, ta15, Int32.ofNat 115) else ob3 (fX2_readNumber ch nu15 (Int32.ofNat L) ta15 (Int32.ofNat 1) (Int32.ofNat 2) (Int32.ofNat 0) (Int32.ofNat 99)) fun r17 nu17 ta17 => if r17 = 0 then some (0, nu17, ta17, Int32.ofNat 115) else some (1, nu17, ta17, Int32.ofNat 115) := fun nu lt => by
    unfold fX2_readCommand
    rw [if_pos hsl, if_neg hin, hcl, hcc, if_neg (show ¬ Int32.ofNat 115 = 102 by decide), if_neg (show ¬ Int32.ofNat 115 = 105 by decide), if_neg (show ¬ Int32.ofNat 115 = 112 by decide), if_pos (show Int32.ofNat 115 = 115 from rfl), zN_1]
    rfl
  have mdl : fX4_readCommand (Int32.ofNat L) sF sB (Int32.ofNat s) ou tx ro = ob2 (fX4_figures (Int32.ofNat L) (Int32.ofNat (s + 1)) tx 0 (Int32.ofNat 1) (Int32.ofNat 0) (Int32.ofNat 5)) fun r48 sp48 => ob2 (fX4_figures (Int32.ofNat L) sp48 tx r48 (Int32.ofNat 2) (Int32.ofNat 0) (Int32.ofNat 99)) fun r49 sp49 => if r49 = (-1) then some (0, sF, sB, sp49, ou, ro) else ob (fX4_isSetting r48 r49) fun r51 => if r51 = 0 then ob2 (fX4_done ou 0) fun r53 ou53 => if r53 = 0 then some (0, sF, sB, sp49, ou53, ro) else some (1, sF, sB, sp49, ou53, ro) else ob2 (fX4_lay ro r48 r49) fun r55 ro55 => if r55 < 0 then ob2 (fX4_done ou 0) fun r57 ou57 => if r57 = 0 then some (0, sF, sB, sp49, ou57, ro55) else some (1, sF, sB, sp49, ou57, ro55) else ob2 (fX4_done ou 1) fun r59 ou59 => if r59 = 0 then some (0, sF, sB, sp49, ou59, ro55) else some (1, sF, sB, sp49, ou59, ro55) := by
    unfold fX4_readCommand
    rw [if_neg hin, hcl, hc, if_neg (show ¬ Int32.ofNat 115 = 102 by decide), if_neg (show ¬ Int32.ofNat 115 = 105 by decide), if_neg (show ¬ Int32.ofNat 115 = 112 by decide), if_pos (show Int32.ofNat 115 = 115 from rfl), zN_1]
    rfl
  unfold RC
  rw [mdl, g6, ob2_some]
  cases t
  · rw [if_neg Bool.false_ne_true, fig_none, ob2_some, if_pos rfl]
    refine ⟨false, p, sF, sB, ou, ro, false, b, pF, pL, st, tm, qt, cm, ds, dr, g2, (fun q => by cases q), rfl, fun nu lt => ?_, (fun q => by cases q)⟩
    exact ⟨nu, _, by rw [cls, g5 nu, ob3_some, if_pos bi_f]; rfl, (fun q => by cases q)⟩
  · rw [if_pos rfl]
    obtain ⟨t2, y, p2, d1, d2, d3, d4, d5, d6⟩ := rd_number hL ht (idx := 1) (dgs := 2) (lo := 0) (hi := 99) (by omega) (by omega) (by omega) (by omega) (Int32.ofNat x) (zN_m (by omega)) g2
    rw [d6, ob2_some]
    have rd : ∀ nu lt, fX2_readCommand ch nu (Int32.ofNat L) (Int32.ofNat s) lt = some (bi t2, if t2 = true then upd (upd nu 0 (Int32.ofNat x)) 1 (Int32.ofNat y) else upd nu 0 (Int32.ofNat x), Int32.ofNat p2, Int32.ofNat 115) := fun nu lt => by
      rw [cls, g5 nu, ob3_some, if_neg (show ¬ bi true = 0 by decide), if_pos rfl, d5, ob3_some]
      cases t2
      · rw [if_pos bi_f]; rfl
      · rw [if_neg (show ¬ bi true = 0 by decide)]; rfl
    cases t2
    · rw [if_neg Bool.false_ne_true, if_pos rfl]
      exact ⟨false, p2, sF, sB, ou, ro, false, b, pF, pL, st, tm, qt, cm, ds, dr, d2, (fun q => by cases q), rfl, fun nu lt => ⟨_, _, rd nu lt, (fun q => by cases q)⟩, (fun q => by cases q)⟩
    · rw [if_pos rfl, if_neg (zN_m (by omega))]
      obtain ⟨t3, e1, e2, e3⟩ := value (Int32.ofNat x) (Int32.ofNat y)
      rw [e1, ob_some]
      have nx : ∀ nu : Nat → Int32, (upd (upd nu 0 (Int32.ofNat x)) 1 (Int32.ofNat y)) 0 = Int32.ofNat x := fun nu => by rw [zupd_ne _ _ (by omega), zupd_self]
      have ny : ∀ nu : Nat → Int32, (upd (upd nu 0 (Int32.ofNat x)) 1 (Int32.ofNat y)) 1 = Int32.ofNat y := fun nu => zupd_self _ _ _
      cases t3
      · rw [if_pos bi_f, done0, ob2_some, if_neg n10]
        refine ⟨true, p2, _, _, _, _, false, b, pF, pL, st, tm, qt, cm, ds, dr, d2, fun _ => by omega, rfl, fun nu lt => ⟨_, _, rd nu lt, fun _ => ?_⟩, fun _ => ⟨h.mono (by omega), rfl⟩⟩
        rw [if_pos rfl]
        unfold fX3_doTextCommand fX2_letter
        rw [(num_at _).1, (num_at _).2.1, ob_some, ob_some, ob_some, nx, ny, if_neg (show ¬ Int32.ofNat 115 = 102 by decide), if_neg (show ¬ Int32.ofNat 115 = 105 by decide), if_neg (show ¬ Int32.ofNat 115 = 112 by decide), if_neg (show ¬ Int32.ofNat 115 = 119 by decide)]
        unfold fX3_setIfAllowed
        rw [e2, ob_some, if_pos bi_f, ob2_some, if_neg (show ¬ ¬ ((0 : Int32) &&& 1 = 0) by decide)]
        rfl
      · obtain ⟨k, n, z1, z2, z3, z4⟩ := e3 rfl
        obtain ⟨v, r2, hv, -, k1, k2, k3, k4⟩ := op_lay h z3 z4
        rw [if_neg (show ¬ bi true = 0 by decide), z1, z2, k3, ob2_some, if_neg (zN_neg (by omega)), done1, ob2_some, if_neg n10]
        refine ⟨true, p2, _, _, _, _, true, b, pF, pL, _, tm, qt, cm, ds, dr, d2, fun _ => by omega, rfl, fun nu lt => ⟨_, _, rd nu lt, fun _ => ?_⟩, fun _ => ⟨k4.mono (by omega), rfl⟩⟩
        rw [if_pos rfl]
        unfold fX3_doTextCommand fX2_letter
        rw [(num_at _).1, (num_at _).2.1, ob_some, ob_some, ob_some, nx, ny, if_neg (show ¬ Int32.ofNat 115 = 102 by decide), if_neg (show ¬ Int32.ofNat 115 = 105 by decide), if_neg (show ¬ Int32.ofNat 115 = 112 by decide), if_neg (show ¬ Int32.ofNat 115 = 119 by decide)]
        unfold fX3_setIfAllowed
        rw [e2, ob_some, if_neg (show ¬ bi true = 0 by decide), z1, z2, k2, ob_some, ob2_some, if_neg (show ¬ ¬ ((1 : Int32) &&& 1 = 1) by decide)]
        rfl
theorem rc_pin (hL : L ≤ 120) (ht : zTxt ch tx L) (hs : s < L) (hc : tx s = Int32.ofNat 112) (hcc : ch s = Int32.ofNat 112) (h : ZD b pF pL st tm qt cm ds dr ro B) : RC ch tx L sF sB ou s b pF pL st tm qt cm ds dr ro B := by
  obtain ⟨t, x, p, g1, g2, g3, g4, g5, g6⟩ := rd_number hL ht (idx := 0) (dgs := 1) (lo := 0) (hi := 2) (by omega) (by omega) (by omega) (by omega) 0 (by decide) (s := s + 1) (by omega)
  have hsl : Int32.ofNat s < Int32.ofNat L := (zN_lt (by omega) (by omega)).mpr hs
  have hin := zi120 (show s < 120 by omega)
  have hcl := zN_cl (show s < 2147483648 by omega)
  have cls : ∀ nu lt, fX2_readCommand ch nu (Int32.ofNat L) (Int32.ofNat s) lt = ob3 (fX2_readNumber ch nu (Int32.ofNat L) (Int32.ofNat (s + 1)) (Int32.ofNat 0) (Int32.ofNat 1) (Int32.ofNat 0) (Int32.ofNat 2)) fun r15 nu15 ta15 => if r15 = 0 then some (0, nu15, ta15, Int32.ofNat 112) else ob3 (fX2_readSpan ch nu15 (Int32.ofNat L) ta15 (Int32.ofNat 1)) fun r17 nu17 ta17 => if r17 = 0 then some (0, nu17, ta17, Int32.ofNat 112) else some (1, nu17, ta17, Int32.ofNat 112) := fun nu lt => by
    unfold fX2_readCommand
    rw [if_pos hsl, if_neg hin, hcl, hcc, if_neg (show ¬ Int32.ofNat 112 = 102 by decide), if_neg (show ¬ Int32.ofNat 112 = 105 by decide), if_pos (show Int32.ofNat 112 = 112 from rfl), zN_1]
    rfl
  have mdl : fX4_readCommand (Int32.ofNat L) sF sB (Int32.ofNat s) ou tx ro = ob2 (fX4_figures (Int32.ofNat L) (Int32.ofNat (s + 1)) tx 0 (Int32.ofNat 1) (Int32.ofNat 0) (Int32.ofNat 2)) fun r33 sp33 => ob2 (fX4_figures (Int32.ofNat L) sp33 tx r33 3 0 255) fun r34 sp34 => ob2 (fX4_figures (Int32.ofNat L) sp34 tx r34 2 1 99) fun r35 sp35 => if r35 = (-1) then some (0, sF, sB, sp35, ou, ro) else ob (fX4_whyNotSpan r34 r35) fun r37 => if r37 = 0 then ob2 (fX4_pinOn ro r33 r34 r35) fun r41 ro41 => if r41 < 0 then ob2 (fX4_done ou 0) fun r43 ou43 => if r43 = 0 then some (0, sF, sB, sp35, ou43, ro41) else some (1, sF, sB, sp35, ou43, ro41) else ob2 (fX4_done ou 1) fun r45 ou45 => if r45 = 0 then some (0, sF, sB, sp35, ou45, ro41) else some (1, sF, sB, sp35, ou45, ro41) else ob2 (fX4_done ou 0) fun r39 ou39 => if r39 = 0 then some (0, sF, sB, sp35, ou39, ro) else some (1, sF, sB, sp35, ou39, ro) := by
    unfold fX4_readCommand
    rw [if_neg hin, hcl, hc, if_neg (show ¬ Int32.ofNat 112 = 102 by decide), if_neg (show ¬ Int32.ofNat 112 = 105 by decide), if_pos (show Int32.ofNat 112 = 112 from rfl), zN_1]
    rfl
  unfold RC
  rw [mdl, g6, ob2_some]
  cases t
  · rw [if_neg Bool.false_ne_true, fig_none, ob2_some, fig_none, ob2_some, if_pos rfl]
    refine ⟨false, p, sF, sB, ou, ro, false, b, pF, pL, st, tm, qt, cm, ds, dr, g2, (fun q => by cases q), rfl, fun nu lt => ?_, (fun q => by cases q)⟩
    exact ⟨nu, _, by rw [cls, g5 nu, ob3_some, if_pos bi_f]; rfl, (fun q => by cases q)⟩
  · rw [if_pos rfl]
    obtain ⟨t2, y, z, p2, p3, x3, d1, d2, d3, d4, d5, d6, d7, d8⟩ := rd_span hL ht (idx := 1) (by omega) (Int32.ofNat x) (zN_m (by omega)) g2
    rw [d4, ob2_some, d5, ob2_some]
    have rd : ∀ nu lt, ∃ nu2, fX2_readCommand ch nu (Int32.ofNat L) (Int32.ofNat s) lt = some (bi t2, nu2, Int32.ofNat p2, Int32.ofNat 112) ∧ (t2 = true → nu2 0 = Int32.ofNat x ∧ nu2 1 = Int32.ofNat y ∧ nu2 2 = Int32.ofNat z) := fun nu lt => by
      obtain ⟨nu2, k1, k2⟩ := d3 (upd nu 0 (Int32.ofNat x))
      refine ⟨nu2, ?_, fun q => ⟨by rw [(k2 q).2.2 0 (by omega), zupd_self], (k2 q).1, (k2 q).2.1⟩⟩
      rw [cls, g5 nu, ob3_some, if_neg (show ¬ bi true = 0 by decide), if_pos rfl, k1, ob3_some]
      cases t2
      · rw [if_pos bi_f]; rfl
      · rw [if_neg (show ¬ bi true = 0 by decide)]; rfl
    cases t2
    · rw [if_neg Bool.false_ne_true, if_pos rfl]
      refine ⟨false, p2, sF, sB, ou, ro, false, b, pF, pL, st, tm, qt, cm, ds, dr, d2, (fun q => by cases q), rfl, fun nu lt => ?_, (fun q => by cases q)⟩
      obtain ⟨nu2, k1, -⟩ := rd nu lt
      exact ⟨nu2, _, k1, (fun q => by cases q)⟩
    · rw [if_pos rfl, if_neg (zN_m (by omega)), d6 rfl]
      obtain ⟨w, hw, e1, e2, e3, e4⟩ := span (Int32.ofNat y) (Int32.ofNat z)
      have hpin : fX3_isPin (Int32.ofNat x) = some (bi true) := by
        rw [cx_isPin, zN_toInt (by omega), decide_eq_true (by omega)]
      rw [e1, ob_some]
      by_cases c : w = 0
      · subst c
        obtain ⟨s1, m1, y1, y2, y3, y4, y5⟩ := e4 rfl
        obtain ⟨cc, r2, k0, k1, k2, k3, k4⟩ := op_pin h (k := x) (s := s1) (m := m1) (by omega) y5
        rw [if_pos (show Int32.ofNat 0 = 0 from rfl), y1, y2, k3, ob2_some, if_neg (zN_neg (by omega)), done1, ob2_some, if_neg n10]
        refine ⟨true, p2, _, _, _, _, true, b, _, _, st, tm, qt, cm, ds, dr, d2, fun _ => by omega, rfl, fun nu lt => ?_, fun _ => ⟨k4.mono (by omega), rfl⟩⟩
        obtain ⟨nu2, q1, q2⟩ := rd nu lt
        obtain ⟨q3, q4, q5⟩ := q2 rfl
        refine ⟨nu2, _, q1, fun _ => ?_⟩
        unfold fX3_doTextCommand fX2_letter
        rw [(num_at nu2).1, (num_at nu2).2.1, (num_at nu2).2.2, ob_some, ob_some, ob_some, ob_some, if_neg (show ¬ Int32.ofNat 112 = 102 by decide), if_neg (show ¬ Int32.ofNat 112 = 105 by decide), if_pos (show Int32.ofNat 112 = 112 from rfl), q3, q4, q5]
        unfold fX3_pinIfAllowed
        rw [hpin, ob_some, if_neg (show ¬ bi true = 0 by decide), e3, ob_some, decide_eq_true rfl, if_neg (show ¬ bi true = 0 by decide), y1, y2, k1, ob2_some, ob3_some, if_neg (show ¬ ¬ ((1 : Int32) &&& 1 = 1) by decide)]
        rfl
      · rw [if_neg (show ¬ Int32.ofNat w = 0 from fun q => c ((zN_inj (c := 0) (by omega) (by omega)).mp q)), done0, ob2_some, if_neg n10]
        refine ⟨true, p2, _, _, _, _, false, b, pF, pL, st, tm, qt, cm, ds, dr, d2, fun _ => by omega, rfl, fun nu lt => ?_, fun _ => ⟨h.mono (by omega), rfl⟩⟩
        obtain ⟨nu2, q1, q2⟩ := rd nu lt
        obtain ⟨q3, q4, q5⟩ := q2 rfl
        refine ⟨nu2, _, q1, fun _ => ?_⟩
        unfold fX3_doTextCommand fX2_letter
        rw [(num_at nu2).1, (num_at nu2).2.1, (num_at nu2).2.2, ob_some, ob_some, ob_some, ob_some, if_neg (show ¬ Int32.ofNat 112 = 102 by decide), if_neg (show ¬ Int32.ofNat 112 = 105 by decide), if_pos (show Int32.ofNat 112 = 112 from rfl), q3, q4, q5]
        unfold fX3_pinIfAllowed
        rw [hpin, ob_some, if_neg (show ¬ bi true = 0 by decide), e3, ob_some, decide_eq_false c, if_pos bi_f, ob3_some, if_neg (show ¬ ¬ ((0 : Int32) &&& 1 = 0) by decide)]
        rfl
theorem rc_all (hL : L ≤ 120) (ht : zTxt ch tx L) (hs : s < L) (h : ZD b pF pL st tm qt cm ds dr ro B) (hB : B + 100 < 2147483647) : RC ch tx L sF sB ou s b pF pL st tm qt cm ds dr ro B := by
  obtain ⟨k, hk, h1, h2⟩ := ht s hs
  by_cases c1 : k = 102
  · subst c1; exact rc_free hL ht hs h2 h1 h (by omega)
  by_cases c2 : k = 105
  · subst c2; exact rc_run hL ht hs h2 h1 h hB
  by_cases c3 : k = 112
  · subst c3; exact rc_pin hL ht hs h2 h1 h
  by_cases c4 : k = 115
  · subst c4; exact rc_set hL ht hs h2 h1 h
  by_cases c5 : k = 119
  · subst c5; exact rc_write hL ht hs h2 h1 h (by omega)
  have ne : ∀ m : Nat, m < 2147483648 → k ≠ m → ¬ Int32.ofNat k = Int32.ofNat m := fun m hm hk2 q => hk2 ((zN_inj (by omega) hm).mp q)
  have n1 : ¬ Int32.ofNat k = 102 := ne 102 (by omega) c1
  have n2 : ¬ Int32.ofNat k = 105 := ne 105 (by omega) c2
  have n3 : ¬ Int32.ofNat k = 112 := ne 112 (by omega) c3
  have n4 : ¬ Int32.ofNat k = 115 := ne 115 (by omega) c4
  have n5 : ¬ Int32.ofNat k = 119 := ne 119 (by omega) c5
  have hsl : Int32.ofNat s < Int32.ofNat L := (zN_lt (by omega) (by omega)).mpr hs
  have hin := zi120 (show s < 120 by omega)
  have hcl := zN_cl (show s < 2147483648 by omega)
  unfold RC
  refine ⟨false, s, sF, sB, ou, ro, false, b, pF, pL, st, tm, qt, cm, ds, dr, by omega, (fun q => by cases q), ?_, fun nu lt => ⟨nu, Int32.ofNat k, ?_, (fun q => by cases q)⟩, (fun q => by cases q)⟩
  · unfold fX4_readCommand
    rw [if_neg hin, hcl, h2, if_neg n1, if_neg n2, if_neg n3, if_neg n4, if_neg n5, Int32.add_sub_cancel]
    rfl
  · unfold fX2_readCommand
    rw [if_pos hsl, if_neg hin, hcl, h1, if_neg n1, if_neg n2, if_neg n3, if_neg n4, if_neg n5]
    rfl
end RCS2
