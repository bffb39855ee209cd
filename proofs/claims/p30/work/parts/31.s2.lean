/-! freeing -/
/-- all between two blocks, and these, is queued -/
def conn (q : Nat → Bool) (i k : Nat) : Prop := ∀ j, (i ≤ j ∧ j ≤ k ∨ k ≤ j ∧ j ≤ i) → q j = true
theorem conn_self {q : Nat → Bool} {k : Nat} (h : q k = true) : conn q k k := fun j hj => by rw [show j = k by omega]; exact h
theorem conn_tr {q : Nat → Bool} {i k m : Nat} (h1 : conn q i k) (h2 : conn q k m) : conn q i m := fun j hj => by
  by_cases c : i ≤ j ∧ j ≤ k ∨ k ≤ j ∧ j ≤ i
  · exact h1 j c
  · exact h2 j (by omega)
theorem conn_sym {q : Nat → Bool} {i k : Nat} (h : conn q i k) : conn q k i := fun j hj => h j (by omega)
theorem conn_up {q q2 : Nat → Bool} {i k : Nat} (h : conn q i k) (hq : ∀ j, q j = true → q2 j = true) : conn q2 i k := fun j hj => hq j (h j hj)
theorem conn_row {q : Nat → Bool} (hq : zB q) {i k : Nat} (hk : q k = true) : conn q i k ↔ so q k ≤ i ∧ i < eo q k := by
  have h1 := so_le q k
  have h2 := eo_gt hq hk
  constructor
  · intro h
    constructor
    · by_cases c : so q k ≤ i
      · exact c
      · have := so_pv q k (by omega)
        rw [h (so q k - 1) (by omega)] at this; cases this
    · by_cases c : i < eo q k
      · exact c
      · have := eo_end hq k
        rw [h (eo q k) (by omega)] at this; cases this
  · rintro ⟨h3, h4⟩ j hj
    by_cases c : j < k
    · exact so_in q k j (by omega) c
    · exact eo_in hq (j := k) (by omega) (by omega)
/-- side by side the same, then all the same -/
theorem uni {b : Nat → Int32} {lo : Nat} : ∀ hi, (∀ i, lo ≤ i → i + 1 ≤ hi → b i = b (i + 1)) → ∀ i, lo ≤ i → i ≤ hi → b i = b hi
  | 0, _, i, _, h => by rw [show i = 0 by omega]
  | hi + 1, hs, i, h1, h2 => by
    by_cases c : i = hi + 1
    · rw [c]
    · rw [uni hi (fun j g1 g2 => hs j g1 (by omega)) i h1 (by omega)]
      exact hs hi (by omega) (by omega)
/-- the row that a block is in has the time of now -/
def qn (b : Nat → Int32) (q : Nat → Bool) (k : Nat) (tm : Int32) : Nat → Int32 := fun i => if so q k ≤ i ∧ i < eo q k then tm else b i
theorem so_congr {q q2 : Nat → Bool} : ∀ k, (∀ i, i < k → q i = q2 i) → so q k = so q2 k
  | 0, _ => rfl
  | k + 1, h => by rw [so, so, h k (by omega), so_congr k (fun i hi => h i (by omega))]
theorem so_step {q : Nat → Bool} {k : Nat} (h : pv q k = true) : so q k = so q (k - 1) := by
  cases k with
  | zero => simp [pv] at h
  | succ k => rw [pv_succ] at h; rw [so, h]; rfl
theorem so_stop {q : Nat → Bool} {k : Nat} (h : pv q k = false) : so q k = k := by
  cases k with
  | zero => rfl
  | succ k => rw [pv_succ] at h; rw [so, h]; rfl
/-- from j on, up to k, the time of now -/
def qL (b : Nat → Int32) (j k : Nat) (tm : Int32) : Nat → Int32 := fun i => if j ≤ i ∧ i < k then tm else b i
theorem fx_queue_60 (b : Nat → Int32) (tm : Int32) (h0 : 0 ≤ tm) (lo : Nat) (hu : ∀ i, i + 1 < 256 → zq b i = true → zq b (i + 1) = true → b i = b (i + 1)) : ∀ n k f, eo (zq b) k - k = n → lo ≤ k → k ≤ 256 → n < f → fX0_queueNow_60 tm f (Int32.ofNat k) (qL b lo k tm) = some (qL b lo (eo (zq b) k) tm) := by
  intro n
  induction n with
  | zero =>
    intro k f hk hlo hk2 hf
    obtain ⟨f, rfl⟩ := zfuel hf
    have hge := eo_ge (zq_B b) k
    have e : eo (zq b) k = k := by omega
    rw [e, fX0_queueNow_60]
    by_cases c1 : k = 256
    · subst c1
      rw [if_pos z256p]
    · have hk3 : k < 256 := by omega
      have hq := eo_end (zq_B b) k
      rw [e] at hq
      rw [if_neg (z256 hk3), if_neg (zi256 hk3), zk256 hk3, show qL b lo k tm k = b k from if_neg (by omega), if_pos (zq_neg hk3 hq)]
  | succ n ih =>
    intro k f hk hlo hk2 hf
    obtain ⟨f, rfl⟩ := zfuel hf
    have hle := eo_le (zq_B b) hk2
    have hk3 : k < 256 := by omega
    have hq : zq b k = true := eo_in (zq_B b) (Nat.le_refl k) (by omega)
    have hin := zi256 hk3
    rw [fX0_queueNow_60, if_neg (z256 hk3), if_neg hin]
    rw [zk256 hk3] at *
    rw [show qL b lo k tm k = b k from if_neg (by omega), if_neg (zq_nn hq), if_neg hin]
    by_cases c : b k = tm
    · rw [if_pos c]
      refine congrArg some (funext fun i => ?_)
      unfold qL
      by_cases c2 : lo ≤ i ∧ i < k
      · rw [if_pos c2, if_pos (by omega)]
      · rw [if_neg c2]
        by_cases c3 : lo ≤ i ∧ i < eo (zq b) k
        · rw [if_pos c3]
          have := uni (b := b) (lo := k) i (fun j g1 g2 => hu j (by omega) (eo_in (zq_B b) g1 (by omega)) (eo_in (zq_B b) (show k ≤ j + 1 by omega) (by omega))) k (Nat.le_refl _) (by omega)
          rw [← this]; exact c
        · rw [if_neg c3]
    · rw [if_neg c, if_neg hin, zN_1]
      have e : upd (qL b lo k tm) k tm = qL b lo (k + 1) tm := by
        funext i
        by_cases e : i = k
        · rw [e, zupd_self, qL, if_pos (by omega)]
        · rw [zupd_ne _ _ e, qL, qL]
          by_cases c : lo ≤ i ∧ i < k
          · rw [if_pos c, if_pos (by omega)]
          · rw [if_neg c, if_neg (by omega)]
      rw [e, eo_step (zq_B b) hq]
      exact ih (k + 1) f (by rw [← eo_step (zq_B b) hq]; omega) (by omega) (by omega) (by omega)
theorem fx_queue_14 (b : Nat → Int32) (tm : Int32) (h0 : 0 ≤ tm) (k : Nat) (hk : k < 256) (hu : ∀ i, i + 1 < 256 → zq b i = true → zq b (i + 1) = true → b i = b (i + 1)) : ∀ n j f, j - so (zq b) j = n → j ≤ k → so (zq b) j = so (zq b) k → n < f → fX0_queueNow_14 tm f (Int32.ofNat k) (Int32.ofNat j - 1) (qL b j (k + 1) tm) = some (qL b (so (zq b) k) (eo (zq b) (k + 1)) tm) := by
  have stop : ∀ j, j ≤ k → (∀ i, so (zq b) k ≤ i → i < j → b i = tm) → so (zq b) k ≤ j → fX0_queueNow_60 tm 1000 (Int32.ofNat k + 1) (qL b j (k + 1) tm) = some (qL b (so (zq b) k) (eo (zq b) (k + 1)) tm) := by
    intro j hj h1 h2
    have h3 := eo_ge (zq_B b) (k + 1)
    have h4 := eo_le (zq_B b) (j := k + 1) (by omega)
    rw [zN_1, fx_queue_60 b tm h0 j hu (eo (zq b) (k + 1) - (k + 1)) (k + 1) 1000 rfl (by omega) (by omega) (by omega)]
    refine congrArg some (funext fun i => ?_)
    unfold qL
    by_cases c : j ≤ i ∧ i < eo (zq b) (k + 1)
    · rw [if_pos c, if_pos (by omega)]
    · rw [if_neg c]
      by_cases c2 : so (zq b) k ≤ i ∧ i < eo (zq b) (k + 1)
      · rw [if_pos c2]; exact h1 i c2.1 (by omega)
      · rw [if_neg c2]
  intro n
  induction n with
  | zero =>
    intro j f hj hjk hs hf
    obtain ⟨f, rfl⟩ := zfuel hf
    have hle := so_le (zq b) j
    have e : so (zq b) j = j := by omega
    have st := stop j hjk (fun i g1 g2 => by omega) (by omega)
    rw [fX0_queueNow_14]
    by_cases c1 : j = 0
    · subst c1
      rw [if_pos (show Int32.ofNat 0 - 1 < 0 by decide)]
      exact st
    · have hpv := so_pv (zq b) j (by omega)
      rw [e] at hpv
      have hj3 : j - 1 < 256 := by omega
      rw [show Int32.ofNat j - 1 = Int32.ofNat (j - 1) from zN_sub (a := j) (c := 1) (by omega), if_neg (zN_neg (by omega)), if_neg (zi256 hj3), zk256 hj3, show qL b j (k + 1) tm (j - 1) = b (j - 1) from if_neg (by omega), if_pos (zq_neg hj3 hpv)]
      exact st
  | succ n ih =>
    intro j f hj hjk hs hf
    obtain ⟨f, rfl⟩ := zfuel hf
    have hle := so_le (zq b) j
    have hj3 : j - 1 < 256 := by omega
    have hq : zq b (j - 1) = true := so_in (zq b) j (j - 1) (by omega) (by omega)
    have hpv : pv (zq b) j = true := by unfold pv; rw [decide_eq_true (show 0 < j by omega), hq]; rfl
    have hin := zi256 hj3
    rw [fX0_queueNow_14, show Int32.ofNat j - 1 = Int32.ofNat (j - 1) from zN_sub (a := j) (c := 1) (by omega), if_neg (zN_neg (by omega)), if_neg hin]
    rw [zk256 hj3] at *
    rw [show qL b j (k + 1) tm (j - 1) = b (j - 1) from if_neg (by omega), if_neg (zq_nn hq), if_neg hin]
    by_cases c : b (j - 1) = tm
    · rw [if_pos c]
      refine stop j hjk (fun i g1 g2 => ?_) (by omega)
      have := uni (b := b) (lo := so (zq b) j) (j - 1) (fun x y1 y2 => hu x (by omega) (so_in (zq b) j x y1 (by omega)) (so_in (zq b) j (x + 1) (by omega) (by omega))) i (by omega) (by omega)
      rw [this]; exact c
    · rw [if_neg c, if_neg hin]
      have e : upd (qL b j (k + 1) tm) (j - 1) tm = qL b (j - 1) (k + 1) tm := by
        funext i
        by_cases e : i = j - 1
        · rw [e, zupd_self, qL, if_pos (by omega)]
        · rw [zupd_ne _ _ e, qL, qL]
          by_cases c : j ≤ i ∧ i < k + 1
          · rw [if_pos c, if_pos (by omega)]
          · rw [if_neg c, if_neg (by omega)]
      have e2 : Int32.ofNat (j - 1) + (-1) = Int32.ofNat (j - 1) - 1 := (Int32.sub_eq_add_neg _ _).symm
      rw [e, e2]
      have e3 := so_step hpv
      exact ih (j - 1) f (by omega) (by omega) (by omega) (by omega)
theorem fx_queue (b : Nat → Int32) (tm : Int32) (h0 : 0 ≤ tm) {k : Nat} (hk : k < 256) (hu : ∀ i, i + 1 < 256 → zq b i = true → zq b (i + 1) = true → b i = b (i + 1)) : fX0_queueNow b tm (Int32.ofNat k) = some (qL b (so (zq b) k) (eo (zq b) (k + 1)) tm) := by
  unfold fX0_queueNow
  have hle := so_le (zq b) k
  have e : upd b k tm = qL b k (k + 1) tm := by
    funext i
    by_cases e : i = k
    · rw [e, zupd_self, qL, if_pos (by omega)]
    · rw [zupd_ne _ _ e, qL, if_neg (by omega)]
  rw [if_neg (zi256 hk), zk256 hk, e]
  exact fx_queue_14 b tm h0 k hk hu (k - so (zq b) k) k 1000 rfl (Nat.le_refl _) rfl (by omega)
/-- queued when the first m blocks of the span are freed -/
def fq (b : Nat → Int32) (s m : Nat) : Nat → Bool := fun i => zq b i || (decide (s ≤ i ∧ i < s + m) && decide (b i = -2))
theorem fq_iff {b : Nat → Int32} {s m i : Nat} : fq b s m i = true ↔ zq b i = true ∨ (s ≤ i ∧ i < s + m ∧ b i = -2) := by
  unfold fq
  rw [Bool.or_eq_true, Bool.and_eq_true, decide_eq_true_iff, decide_eq_true_iff, and_assoc]
theorem fq_B (b : Nat → Int32) (s m : Nat) (hs : s + m ≤ 256) : zB (fq b s m) := fun i hi => by
  cases h : fq b s m i
  · rfl
  · rcases fq_iff.mp h with h1 | h1
    · rw [zq_B b i hi] at h1; cases h1
    · omega
/-- joined to a freed block -/
def fT (b : Nat → Int32) (q : Nat → Bool) (s m i : Nat) : Prop := ∃ k, s ≤ k ∧ k < s + m ∧ b k = -2 ∧ conn q i k
/-- the blocks when the first m of the span are freed -/
def FS (b0 : Nat → Int32) (q : Nat → Bool) (s m : Nat) (tm : Int32) (b : Nat → Int32) : Prop := ∀ i, (fT b0 q s m i → b i = tm) ∧ (¬ fT b0 q s m i → b i = b0 i)
theorem FS_q {b0 : Nat → Int32} {s m : Nat} {tm : Int32} {b : Nat → Int32} (hs : s + m ≤ 256) (h0 : 0 ≤ tm) (h : FS b0 (fq b0 s m) s m tm b) : zq b = fq b0 s m := by
  funext i
  by_cases c : fT b0 (fq b0 s m) s m i
  · obtain ⟨k, h1, h2, h3, h4⟩ := c
    have hq : fq b0 s m i = true := h4 i (by omega)
    have hi : i < 256 := by
      by_cases e : i < 256
      · exact e
      · rw [fq_B b0 s m hs i (by omega)] at hq; cases hq
    rw [hq]
    refine zq_t hi ?_
    rw [(h i).1 ⟨k, h1, h2, h3, h4⟩]
    exact zNot_lt.mpr h0
  · have e : b i = b0 i := (h i).2 c
    have e2 : zq b i = zq b0 i := by unfold zq; rw [e]
    rw [e2]
    cases hf : fq b0 s m i
    · cases hz : zq b0 i
      · rfl
      · rw [fq_iff.mpr (Or.inl hz)] at hf; cases hf
    · rcases fq_iff.mp hf with h1 | ⟨h1, h2, h3⟩
      · exact h1
      · exact absurd ⟨i, h1, h2, h3, conn_self hf⟩ c
theorem FS_IV {b0 : Nat → Int32} {s m : Nat} {tm : Int32} {b : Nat → Int32} (hs : s + m ≤ 256) (hI : IV b0 tm) (h : FS b0 (fq b0 s m) s m tm b) : IV b tm := by
  have hq := FS_q hs hI.2.2 h
  refine ⟨fun i hi => ?_, fun i hi h1 h2 => ?_, hI.2.2⟩
  · by_cases c : fT b0 (fq b0 s m) s m i
    · rw [(h i).1 c]; exact ⟨le_tr (by decide : (-3 : Int32) ≤ 0) hI.2.2, Int32.le_refl _⟩
    · rw [(h i).2 c]; exact hI.1 i hi
  · rw [hq] at h1 h2
    have hc : conn (fq b0 s m) i (i + 1) := fun j hj => by
      rcases (show j = i ∨ j = i + 1 by omega) with rfl | rfl
      · exact h1
      · exact h2
    by_cases c : fT b0 (fq b0 s m) s m i
    · have c2 : fT b0 (fq b0 s m) s m (i + 1) := by
        obtain ⟨k, g1, g2, g3, g4⟩ := c
        exact ⟨k, g1, g2, g3, conn_tr (conn_sym hc) g4⟩
      rw [(h i).1 c, (h (i + 1)).1 c2]
    · have c2 : ¬ fT b0 (fq b0 s m) s m (i + 1) := fun ⟨k, g1, g2, g3, g4⟩ => c ⟨k, g1, g2, g3, conn_tr hc g4⟩
      rw [(h i).2 c, (h (i + 1)).2 c2]
      refine hI.2.1 i hi ?_ ?_
      · rcases fq_iff.mp h1 with g | ⟨g1, g2, g3⟩
        · exact g
        · exact absurd ⟨i, g1, g2, g3, conn_self h1⟩ c
      · rcases fq_iff.mp h2 with g | ⟨g1, g2, g3⟩
        · exact g
        · exact absurd ⟨i + 1, g1, g2, g3, conn_self h2⟩ c2
theorem fq_up {b : Nat → Int32} {s m : Nat} : ∀ j, fq b s m j = true → fq b s (m + 1) j = true := fun j h => by
  rcases fq_iff.mp h with g | ⟨g1, g2, g3⟩
  · exact fq_iff.mpr (Or.inl g)
  · exact fq_iff.mpr (Or.inr ⟨g1, by omega, g3⟩)
theorem fq_same {b : Nat → Int32} {s m : Nat} (h : ¬ b (s + m) = -2) : fq b s (m + 1) = fq b s m := by
  funext j
  cases c : fq b s m j
  · cases c2 : fq b s (m + 1) j
    · rfl
    · rcases fq_iff.mp c2 with g | ⟨g1, g2, g3⟩
      · rw [fq_iff.mpr (Or.inl g)] at c; cases c
      · by_cases e : j = s + m
        · rw [e] at g3; exact absurd g3 h
        · rw [fq_iff.mpr (Or.inr ⟨g1, by omega, g3⟩)] at c; cases c
  · exact fq_up j c
/-- one block more, that isn't alive -/
theorem FS_same {b0 : Nat → Int32} {s m : Nat} {tm : Int32} {b : Nat → Int32} (h : FS b0 (fq b0 s m) s m tm b) (hb : ¬ b0 (s + m) = -2) : FS b0 (fq b0 s (m + 1)) s (m + 1) tm b := by
  rw [fq_same hb]
  intro i
  have e : fT b0 (fq b0 s m) s (m + 1) i ↔ fT b0 (fq b0 s m) s m i := by
    constructor
    · rintro ⟨k, g1, g2, g3, g4⟩
      by_cases e : k = s + m
      · rw [e] at g3; exact absurd g3 hb
      · exact ⟨k, g1, by omega, g3, g4⟩
    · rintro ⟨k, g1, g2, g3, g4⟩
      exact ⟨k, g1, by omega, g3, g4⟩
  exact ⟨fun g => (h i).1 (e.mp g), fun g => (h i).2 (fun g2 => g (e.mpr g2))⟩
/-- one block more, that is alive -/
theorem FS_more {b0 : Nat → Int32} {s m : Nat} {tm : Int32} {b : Nat → Int32} (hs : s + m < 256) (h0 : 0 ≤ tm) (h : FS b0 (fq b0 s m) s m tm b) (hb : b0 (s + m) = -2) : FS b0 (fq b0 s (m + 1)) s (m + 1) tm (qL b (so (zq b) (s + m)) (eo (zq b) (s + m + 1)) tm) := by
  have hq := FS_q (by omega) h0 h
  have hk : fq b0 s (m + 1) (s + m) = true := fq_iff.mpr (Or.inr ⟨by omega, by omega, hb⟩)
  have off : ∀ j, j ≠ s + m → fq b0 s (m + 1) j = fq b0 s m j := fun j hj => by
    cases c : fq b0 s m j
    · cases c2 : fq b0 s (m + 1) j
      · rfl
      · rcases fq_iff.mp c2 with g | ⟨g1, g2, g3⟩
        · rw [fq_iff.mpr (Or.inl g)] at c; cases c
        · rw [fq_iff.mpr (Or.inr ⟨g1, by omega, g3⟩)] at c; cases c
    · exact fq_up j c
  have hB2 := fq_B b0 s (m + 1) (by omega)
  have e1 : so (fq b0 s (m + 1)) (s + m) = so (zq b) (s + m) := by
    rw [hq]; exact so_congr _ (fun i hi => off i (by omega))
  have e2 : eo (fq b0 s (m + 1)) (s + m) = eo (zq b) (s + m + 1) := by
    rw [eo_step hB2 hk, hq]
    refine eo_eq hB2 (eo_ge (fq_B b0 s m (by omega)) _) (fun i g1 g2 => ?_) ?_
    · rw [off i (by omega)]; exact eo_in (fq_B b0 s m (by omega)) g1 g2
    · have := eo_ge (fq_B b0 s m (by omega)) (s + m + 1)
      rw [off _ (by omega)]; exact eo_end (fq_B b0 s m (by omega)) _
  intro i
  have row := conn_row hB2 (i := i) hk
  rw [e1, e2] at row
  have e : fT b0 (fq b0 s (m + 1)) s (m + 1) i ↔ (fT b0 (fq b0 s m) s m i ∨ conn (fq b0 s (m + 1)) i (s + m)) := by
    constructor
    · rintro ⟨k, g1, g2, g3, g4⟩
      by_cases e : k = s + m
      · rw [e] at g4; exact Or.inr g4
      · by_cases c : conn (fq b0 s m) i k
        · exact Or.inl ⟨k, g1, by omega, g3, c⟩
        · refine Or.inr ?_
          have hbt : i ≤ s + m ∧ s + m ≤ k ∨ k ≤ s + m ∧ s + m ≤ i := by
            by_cases hb2 : i ≤ s + m ∧ s + m ≤ k ∨ k ≤ s + m ∧ s + m ≤ i
            · exact hb2
            · exact absurd (fun j hj => by rw [← off j (by omega)]; exact g4 j hj) c
          exact fun j hj => g4 j (by omega)
    · rintro (⟨k, g1, g2, g3, g4⟩ | g)
      · exact ⟨k, g1, by omega, g3, conn_up g4 fq_up⟩
      · exact ⟨s + m, by omega, by omega, hb, g⟩
  constructor
  · intro g
    by_cases c : so (zq b) (s + m) ≤ i ∧ i < eo (zq b) (s + m + 1)
    · exact if_pos c
    · rw [show qL b (so (zq b) (s + m)) (eo (zq b) (s + m + 1)) tm i = b i from if_neg c]
      rcases e.mp g with g2 | g2
      · exact (h i).1 g2
      · exact absurd (row.mp g2) c
  · intro g
    have c : ¬ (so (zq b) (s + m) ≤ i ∧ i < eo (zq b) (s + m + 1)) := fun c => g (e.mpr (Or.inr (row.mpr c)))
    rw [show qL b (so (zq b) (s + m)) (eo (zq b) (s + m + 1)) tm i = b i from if_neg c]
    exact (h i).2 (fun g2 => g (e.mpr (Or.inl g2)))
/-- a block of the span is alive just where it was -/
theorem FS_alive {b0 : Nat → Int32} {s m : Nat} {tm : Int32} {b : Nat → Int32} (h0 : 0 ≤ tm) (h : FS b0 (fq b0 s m) s m tm b) : b (s + m) = -2 ↔ b0 (s + m) = -2 := by
  by_cases c : fT b0 (fq b0 s m) s m (s + m)
  · rw [(h _).1 c]
    have hq : fq b0 s m (s + m) = true := by
      obtain ⟨k, g1, g2, g3, g4⟩ := c
      exact g4 _ (by omega)
    constructor
    · intro g; rw [g] at h0; exact absurd h0 (by decide)
    · intro g
      rcases fq_iff.mp hq with g1 | g1
      · rw [zq_f (by rw [g]; decide)] at g1; cases g1
      · omega
  · rw [(h _).2 c]
theorem fx_free_5 (b0 : Nat → Int32) (s : Nat) (tm qt dr : Int32) (nn : Nat) (hs : s + nn ≤ 256) (hI : IV b0 tm) : ∀ n m f b, m + n = nn → n < f → FS b0 (fq b0 s m) s m tm b → ∃ b2, FS b0 (fq b0 s nn) s nn tm b2 ∧ fX0_freeSpan_5 tm f (Int32.ofNat s) (Int32.ofNat nn) (Int32.ofNat (cn (fun i => decide (b0 (s + i) = -2)) m)) (Int32.ofNat (s + m)) b qt dr = ob2 (fX0_dropSurplus b2 dr) fun b3 dr3 => some (Int32.ofNat (cn (fun i => decide (b0 (s + i) = -2)) nn), b3, 0, dr3) := by
  intro n
  induction n with
  | zero =>
    intro m f b hm hf h
    obtain ⟨f, rfl⟩ := zfuel hf
    obtain rfl : m = nn := by omega
    refine ⟨b, h, ?_⟩
    rw [fX0_freeSpan_5, zN_add, if_pos ((zN_le (by omega) (by omega)).mpr (Nat.le_refl _))]
  | succ n ih =>
    intro m f b hm hf h
    obtain ⟨f, rfl⟩ := zfuel hf
    have hk2 : s + m < 256 := by omega
    have hal := FS_alive hI.2.2 h
    rw [fX0_freeSpan_5, zN_add, if_neg (fun q => by have := (zN_le (by omega) (by omega)).mp q; omega), if_neg (zi256 hk2), zk256 hk2]
    by_cases c : b (s + m) = -2
    · rw [if_pos c]
      have hIb := FS_IV (by omega) hI h
      have h2 := FS_more hk2 hI.2.2 h (hal.mp c)
      obtain ⟨b2, g1, g2⟩ := ih (m + 1) f _ (by omega) (by omega) h2
      refine ⟨b2, g1, ?_⟩
      rw [fx_queue b tm hI.2.2 hk2 hIb.2.1]
      show fX0_freeSpan_5 tm f _ _ (Int32.ofNat (cn _ m) + 1) (Int32.ofNat (s + m) + 1) (qL b _ _ tm) qt dr = _
      rw [cn, if_pos (decide_eq_true (hal.mp c)), ← Nat.add_assoc] at g2
      rw [zN_1, zN_1]
      exact g2
    · rw [if_neg c]
      have hc2 : ¬ b0 (s + m) = -2 := fun q => c (hal.mpr q)
      obtain ⟨b2, g1, g2⟩ := ih (m + 1) f b (by omega) (by omega) (FS_same h hc2)
      refine ⟨b2, g1, ?_⟩
      rw [cn, if_neg (by rw [decide_eq_false hc2]; exact Bool.false_ne_true), Nat.add_zero, ← Nat.add_assoc] at g2
      rw [zN_1]
      exact g2
theorem FS_0 (b0 : Nat → Int32) (s : Nat) (tm : Int32) (q : Nat → Bool) : FS b0 q s 0 tm b0 := fun i => ⟨fun ⟨k, g1, g2, _, _⟩ => by omega, fun _ => rfl⟩
theorem fx_free (b : Nat → Int32) (tm qt dr : Int32) {s n : Nat} (hs : s + n ≤ 256) (hI : IV b tm) : ∃ b2, FS b (fq b s n) s n tm b2 ∧ fX0_freeSpan b tm qt dr (Int32.ofNat s) (Int32.ofNat n) = ob2 (fX0_dropSurplus b2 dr) fun b3 dr3 => some (Int32.ofNat (cn (fun i => decide (b (s + i) = -2)) n), b3, 0, dr3) :=
  fx_free_5 b s tm qt dr n hs hI n 0 1000 b (by omega) (by omega) (FS_0 b s tm _)
/-! freeing, in the Model's words -/
/-- the row when the first m blocks of the span are freed, and not yet joined -/
def M1 (b0 : Nat → Int32) (s m : Nat) (tm : Int32) (r0 r : Nat → Int32) : Prop :=
  (∀ i, i < 256 → r i = (if b0 i = -2 ∧ ¬ (s ≤ i ∧ i < s + m) then 1 else 0) ∧ r (256 + i) = r0 (256 + i) ∧ r (512 + i) = (if b0 i = -2 ∧ s ≤ i ∧ i < s + m then tm + 1 else r0 (512 + i))) ∧ zO r0 r
theorem mfree_5 (b0 : Nat → Int32) (s : Nat) (tm : Int32) (r0 : Nat → Int32) (h0 : RB b0 r0) (ht : r0 768 = tm) (nn : Nat) (hs : s + nn ≤ 256) : ∀ n m f r, m + n = nn → n < f → M1 b0 s m tm r0 r → ∃ r2, M1 b0 s nn tm r0 r2 ∧ fX4_freeOn_5 f (Int32.ofNat s) (Int32.ofNat nn) (Int32.ofNat (cn (fun i => decide (b0 (s + i) = -2)) m)) (Int32.ofNat (s + m)) r = fX4_freeOn_57 1000 (Int32.ofNat s) (Int32.ofNat nn) (Int32.ofNat (cn (fun i => decide (b0 (s + i) = -2)) nn)) (Int32.ofNat s) r2 := by
  intro n
  induction n with
  | zero =>
    intro m f r hm hf h
    obtain ⟨f, rfl⟩ := zfuel hf
    obtain rfl : m = nn := by omega
    refine ⟨r, h, ?_⟩
    rw [fX4_freeOn_5, zN_add, if_pos ((zN_le (by omega) (by omega)).mpr (Nat.le_refl _))]
  | succ n ih =>
    intro m f r hm hf h
    obtain ⟨f, rfl⟩ := zfuel hf
    have hk2 : s + m < 256 := by omega
    obtain ⟨h1, h2, h3⟩ := h.1 (s + m) hk2
    have hin := zi785 (show s + m < 785 by omega)
    rw [fX4_freeOn_5, zN_add, if_neg (fun q => by have := (zN_le (by omega) (by omega)).mp q; omega), z0k, Nat.zero_add, if_neg hin, z512k]
    rw [zk785 (show s + m < 785 by omega)] at *
    by_cases c : b0 (s + m) = -2
    · rw [if_pos (by rw [h1, if_pos ⟨c, by omega⟩]), if_neg hin, if_neg (zi785 (by omega)), zk785 (by omega), zN_1, zN_1, zupd_ne _ _ (by omega), h.2 768 (by omega), ht]
      obtain ⟨r2, g1, g2⟩ := ih (m + 1) f (upd (upd r (s + m) 0) (512 + (s + m)) (tm + 1)) (by omega) (by omega) (by
        refine ⟨fun i hi => ?_, fun x hx => by rw [zupd_ne _ _ (by omega), zupd_ne _ _ (by omega)]; exact h.2 x hx⟩
        obtain ⟨a1, a2, a3⟩ := h.1 i hi
        by_cases e : i = s + m
        · subst e
          rw [zupd_ne _ _ (by omega), zupd_self, zupd_ne _ _ (by omega), zupd_ne _ _ (by omega), zupd_self]
          exact ⟨by rw [if_neg (by omega)], a2, by rw [if_pos ⟨c, by omega⟩]⟩
        · rw [zupd_ne _ _ (by omega), zupd_ne _ _ (by omega), zupd_ne _ _ (by omega), zupd_ne _ _ (by omega), zupd_ne _ _ (by omega), zupd_ne _ _ (by omega)]
          refine ⟨?_, a2, ?_⟩
          · rw [a1]
            by_cases g : b0 i = -2 ∧ ¬ (s ≤ i ∧ i < s + m)
            · rw [if_pos g, if_pos ⟨g.1, by omega⟩]
            · rw [if_neg g, if_neg (fun y => g ⟨y.1, by omega⟩)]
          · rw [a3]
            by_cases g : b0 i = -2 ∧ s ≤ i ∧ i < s + m
            · rw [if_pos g, if_pos ⟨g.1, by omega⟩]
            · rw [if_neg g, if_neg (fun y => g ⟨y.1, by omega⟩)])
      refine ⟨r2, g1, ?_⟩
      rw [cn, if_pos (decide_eq_true c), ← Nat.add_assoc] at g2
      exact g2
    · rw [if_neg (by rw [h1, if_neg (fun y => c y.1)]; decide), zN_1]
      obtain ⟨r2, g1, g2⟩ := ih (m + 1) f r (by omega) (by omega) (by
        refine ⟨fun i hi => ?_, h.2⟩
        obtain ⟨a1, a2, a3⟩ := h.1 i hi
        by_cases e : i = s + m
        · subst e
          exact ⟨by rw [a1, if_neg (fun y => c y.1), if_neg (fun y => c y.1)], a2, by rw [a3, if_neg (fun y => c y.1), if_neg (fun y => c y.1)]⟩
        · refine ⟨?_, a2, ?_⟩
          · rw [a1]
            by_cases g : b0 i = -2 ∧ ¬ (s ≤ i ∧ i < s + m)
            · rw [if_pos g, if_pos ⟨g.1, by omega⟩]
            · rw [if_neg g, if_neg (fun y => g ⟨y.1, by omega⟩)]
          · rw [a3]
            by_cases g : b0 i = -2 ∧ s ≤ i ∧ i < s + m
            · rw [if_pos g, if_pos ⟨g.1, by omega⟩]
            · rw [if_neg g, if_neg (fun y => g ⟨y.1, by omega⟩)])
      refine ⟨r2, g1, ?_⟩
      rw [cn, if_neg (by rw [decide_eq_false c]; exact Bool.false_ne_true), Nat.add_zero, ← Nat.add_assoc] at g2
      exact g2
/-- from s on, ahead of e, queued now -/
def zW (r : Nat → Int32) (s e : Nat) (tm : Int32) : Nat → Int32 := fun x => if 512 + s ≤ x ∧ x < 512 + e then tm else r x
theorem mfree_103 (r : Nat → Int32) (tm : Int32) (ht : r 768 = tm) (v1 v2 v3 v4 : Int32) (s e : Nat) (he : e ≤ 256) : ∀ n k f, k + n = e → s ≤ k → n < f → fX4_freeOn_103 f v1 v2 v3 v4 (Int32.ofNat e) (Int32.ofNat k) (zW r s k tm) = some (zW r s e tm) := by
  intro n
  induction n with
  | zero =>
    intro k f hk hs hf
    obtain ⟨f, rfl⟩ := zfuel hf
    obtain rfl : k = e := by omega
    rw [fX4_freeOn_103, if_pos ((zN_le (by omega) (by omega)).mpr (Nat.le_refl _))]
  | succ n ih =>
    intro k f hk hs hf
    obtain ⟨f, rfl⟩ := zfuel hf
    rw [fX4_freeOn_103, if_neg (fun q => by have := (zN_le (by omega) (by omega)).mp q; omega), z512k, if_neg (zi785 (by omega)), zk785 (by omega), zN_1]
    rw [show zW r s k tm 768 = tm from (if_neg (by omega)).trans ht]
    have e : upd (zW r s k tm) (512 + k) tm = zW r s (k + 1) tm := by
      funext x
      by_cases e : x = 512 + k
      · rw [e, zupd_self, zW, if_pos (by omega)]
      · rw [zupd_ne _ _ e, zW, zW]
        by_cases c : 512 + s ≤ x ∧ x < 512 + k
        · rw [if_pos c, if_pos (by omega)]
        · rw [if_neg c, if_neg (by omega)]
    rw [e]
    exact ih (k + 1) f (by omega) (by omega) (by omega)
/-- the row when the first m blocks of the span are joined -/
def M2 (b0 : Nat → Int32) (s nn m : Nat) (tm : Int32) (r1 r : Nat → Int32) : Prop :=
  (∀ i, i < 256 → (fT b0 (fq b0 s nn) s m i → r (512 + i) = tm) ∧ (¬ fT b0 (fq b0 s nn) s m i → r (512 + i) = r1 (512 + i))) ∧ ∀ x, ¬ (512 ≤ x ∧ x < 768) → r x = r1 x
theorem tm1 {tm : Int32} (h : tm < 2147483647) : ¬ tm + 1 = tm := fun q => by
  have := congrArg (fun z => z - tm) q
  simp only [Int32.sub_self] at this
  rw [Int32.add_comm, Int32.add_sub_cancel] at this
  exact absurd this (by decide)
theorem tm_lt {tm x : Int32} (h0 : 0 ≤ tm) (h : tm < 2147483647) (hx : x ≤ tm) : ¬ x = tm + 1 := fun q => by
  obtain ⟨a, ha, rfl⟩ := zN_of h0
  have h2 : a < 2147483647 := by
    have := (zN_lt (a := a) (c := 2147483647) ha (by omega)).mp h
    exact this
  rw [q, zN_1] at hx
  have := (zN_le (by omega) (by omega)).mp hx
  omega
theorem M2_q {b0 : Nat → Int32} {s nn m : Nat} {tm : Int32} {r0 r1 r : Nat → Int32} (hs : s + nn ≤ 256) (hm : m ≤ nn) (hI : IV b0 tm) (ht : tm < 2147483647) (h0 : RB b0 r0) (h1 : M1 b0 s nn tm r0 r1) (h2 : M2 b0 s nn m tm r1 r) : RQ (fq b0 s nn) r := by
  have hnn : ∀ {x : Int32}, 0 ≤ x → ¬ x = -1 := fun {x} hx q => by rw [q] at hx; exact absurd hx (by decide)
  refine ⟨fq_B b0 s nn hs, fun i hi => ?_⟩
  obtain ⟨a1, a2⟩ := h2.1 i hi
  obtain ⟨-, -, c3⟩ := h1.1 i hi
  obtain ⟨-, -, d3⟩ := h0 i hi
  by_cases c : fT b0 (fq b0 s nn) s m i
  · rw [a1 c]
    obtain ⟨k, -, -, -, g4⟩ := c
    have : fq b0 s nn i = true := g4 i (by omega)
    rw [this]
    exact ⟨fun q => absurd q (hnn hI.2.2), fun q => by cases q⟩
  · rw [a2 c, c3]
    by_cases e : b0 i = -2 ∧ s ≤ i ∧ i < s + nn
    · rw [if_pos e, fq_iff.mpr (Or.inr ⟨e.2.1, e.2.2, e.1⟩)]
      refine ⟨fun q => ?_, fun q => by cases q⟩
      obtain ⟨a, ha, rfl⟩ := zN_of hI.2.2
      rw [zN_1] at q
      have h3 : a < 2147483647 := (zN_lt (a := a) (c := 2147483647) ha (by omega)).mp ht
      exact absurd q (zN_m (by omega))
    · rw [if_neg e, d3]
      have hz : fq b0 s nn i = zq b0 i := by
        cases hz : zq b0 i
        · cases hf : fq b0 s nn i
          · rfl
          · rcases fq_iff.mp hf with g | ⟨g1, g2, g3⟩
            · rw [hz] at g; cases g
            · exact absurd ⟨g3, g1, g2⟩ e
        · exact fq_iff.mpr (Or.inl hz)
      rw [hz, ← d3]
      exact h0.q.2 i hi
theorem mfree_57 (b0 : Nat → Int32) (s nn : Nat) (hs : s + nn ≤ 256) (tm v3 : Int32) (hI : IV b0 tm) (htm : tm < 2147483647) (r0 r1 : Nat → Int32) (h0 : RB b0 r0) (ht : r0 768 = tm) (h1 : M1 b0 s nn tm r0 r1) : ∀ n m f r, m + n = nn → n < f → M2 b0 s nn m tm r1 r → ∃ r2, M2 b0 s nn nn tm r1 r2 ∧ fX4_freeOn_57 f (Int32.ofNat s) (Int32.ofNat nn) v3 (Int32.ofNat (s + m)) r = ob (fX4_limit (upd r2 769 0)) fun r3 => some (v3, r3) := by
  intro n
  induction n with
  | zero =>
    intro m f r hm hf h
    obtain ⟨f, rfl⟩ := zfuel hf
    obtain rfl : m = nn := by omega
    refine ⟨r, h, ?_⟩
    rw [fX4_freeOn_57, zN_add, if_pos ((zN_le (by omega) (by omega)).mpr (Nat.le_refl _))]
  | succ n ih =>
    intro m f r hm hf h
    obtain ⟨f, rfl⟩ := zfuel hf
    have hk2 : s + m < 256 := by omega
    have hQ := M2_q hs (by omega) hI htm h0 h1 h
    have htr : r 768 = tm := by rw [h.2 768 (by omega), h1.2 768 (by omega)]; exact ht
    obtain ⟨a1, a2⟩ := h.1 (s + m) hk2
    obtain ⟨-, -, c3⟩ := h1.1 (s + m) hk2
    have hd : r (512 + (s + m)) = tm + 1 ↔ b0 (s + m) = -2 ∧ ¬ fT b0 (fq b0 s nn) s m (s + m) := by
      by_cases c : fT b0 (fq b0 s nn) s m (s + m)
      · rw [a1 c]
        exact ⟨fun q => absurd q.symm (tm1 htm), fun q => absurd c q.2⟩
      · rw [a2 c, c3]
        by_cases e : b0 (s + m) = -2
        · rw [if_pos ⟨e, by omega⟩]
          exact ⟨fun _ => ⟨e, c⟩, fun _ => rfl⟩
        · rw [if_neg (fun q => e q.1), (h0 _ hk2).2.2]
          refine ⟨fun q => ?_, fun q => absurd q.1 e⟩
          by_cases g : b0 (s + m) < 0
          · rw [if_pos g] at q
            exact absurd q (tm_lt hI.2.2 htm (le_tr (by decide : (-1 : Int32) ≤ 0) hI.2.2))
          · rw [if_neg g] at q
            exact absurd q (tm_lt hI.2.2 htm (hI.1 _ hk2).2)
    rw [fX4_freeOn_57, zN_add, if_neg (fun q => by have := (zN_le (by omega) (by omega)).mp q; omega), z512k, if_neg (zi785 (by omega)), zk785 (by omega), htr, zN_1]
    by_cases c : r (512 + (s + m)) = tm + 1
    · rw [if_pos c, mstart hQ (by omega)]
      obtain ⟨e1, e2⟩ := hd.mp c
      have hk : fq b0 s nn (s + m) = true := fq_iff.mpr (Or.inr ⟨by omega, by omega, e1⟩)
      have hB := fq_B b0 s nn hs
      have hle := so_le (fq b0 s nn) (s + m)
      have hge := eo_gt hB hk
      have hle2 := eo_le hB (j := s + m) (by omega)
      have e3 := mfree_103 r tm htr (Int32.ofNat s) (Int32.ofNat nn) v3 (Int32.ofNat (s + m)) (so (fq b0 s nn) (s + m)) (eo (fq b0 s nn) (s + m)) hle2 (eo (fq b0 s nn) (s + m) - so (fq b0 s nn) (s + m)) (so (fq b0 s nn) (s + m)) 1000 (by omega) (Nat.le_refl _) (by omega)
      rw [show zW r (so (fq b0 s nn) (s + m)) (so (fq b0 s nn) (s + m)) tm = r from funext fun x => if_neg (by omega)] at e3
      obtain ⟨r2, g1, g2⟩ := ih (m + 1) f (zW r (so (fq b0 s nn) (s + m)) (eo (fq b0 s nn) (s + m)) tm) (by omega) (by omega) (by
        refine ⟨fun i hi => ?_, fun x hx => ?_⟩
        · have row := conn_row hB (i := i) hk
          have eT : fT b0 (fq b0 s nn) s (m + 1) i ↔ (fT b0 (fq b0 s nn) s m i ∨ conn (fq b0 s nn) i (s + m)) := by
            constructor
            · rintro ⟨k, y1, y2, y3, y4⟩
              by_cases e : k = s + m
              · rw [e] at y4; exact Or.inr y4
              · exact Or.inl ⟨k, y1, by omega, y3, y4⟩
            · rintro (⟨k, y1, y2, y3, y4⟩ | y)
              · exact ⟨k, y1, by omega, y3, y4⟩
              · exact ⟨s + m, by omega, by omega, e1, y⟩
          obtain ⟨b1, b2⟩ := h.1 i hi
          by_cases cc : so (fq b0 s nn) (s + m) ≤ i ∧ i < eo (fq b0 s nn) (s + m)
          · rw [show zW r (so (fq b0 s nn) (s + m)) (eo (fq b0 s nn) (s + m)) tm (512 + i) = tm from if_pos (by omega)]
            exact ⟨fun _ => rfl, fun y => absurd (eT.mpr (Or.inr (row.mpr cc))) y⟩
          · rw [show zW r (so (fq b0 s nn) (s + m)) (eo (fq b0 s nn) (s + m)) tm (512 + i) = r (512 + i) from if_neg (by omega)]
            refine ⟨fun y => ?_, fun y => b2 (fun y2 => y (eT.mpr (Or.inl y2)))⟩
            rcases eT.mp y with y2 | y2
            · exact b1 y2
            · exact absurd (row.mp y2) cc
        · rw [show zW r (so (fq b0 s nn) (s + m)) (eo (fq b0 s nn) (s + m)) tm x = r x from if_neg (by omega)]
          exact h.2 x hx)
      refine ⟨r2, g1, ?_⟩
      show ob (fX4_endOf r (Int32.ofNat (s + m))) _ = _
      rw [mend hQ (by omega)]
      show ob (fX4_freeOn_103 1000 (Int32.ofNat s) (Int32.ofNat nn) v3 (Int32.ofNat (s + m)) (Int32.ofNat (eo (fq b0 s nn) (s + m))) (Int32.ofNat (so (fq b0 s nn) (s + m))) r) _ = _
      rw [e3]
      exact g2
    · rw [if_neg c]
      have hn := fun q => c (hd.mpr q)
      obtain ⟨r2, g1, g2⟩ := ih (m + 1) f r (by omega) (by omega) (by
        refine ⟨fun i hi => ?_, h.2⟩
        obtain ⟨b1, b2⟩ := h.1 i hi
        have eT : fT b0 (fq b0 s nn) s (m + 1) i ↔ fT b0 (fq b0 s nn) s m i := by
          constructor
          · rintro ⟨k, y1, y2, y3, y4⟩
            by_cases e : k = s + m
            · rw [e] at y3 y4
              by_cases e2 : fT b0 (fq b0 s nn) s m (s + m)
              · obtain ⟨k2, z1, z2, z3, z4⟩ := e2
                exact ⟨k2, z1, z2, z3, conn_tr y4 z4⟩
              · exact absurd ⟨y3, e2⟩ hn
            · exact ⟨k, y1, by omega, y3, y4⟩
          · rintro ⟨k, y1, y2, y3, y4⟩
            exact ⟨k, y1, by omega, y3, y4⟩
        exact ⟨fun y => b1 (eT.mp y), fun y => b2 (fun y2 => y (eT.mpr y2))⟩)
      exact ⟨r2, g1, g2⟩
/-- freeing -/
theorem op_free {b pF pL st : Nat → Int32} {tm qt cm ds dr : Int32} {r : Nat → Int32} (h : RD b pF pL st tm qt cm ds dr r) (hI : IV b tm) (ht : tm < 2147483647) {s n : Nat} (hs : s + n ≤ 256) : ∃ c b2 dr2 r2, c ≤ 256 ∧ fX0_freeSpan b tm qt dr (Int32.ofNat s) (Int32.ofNat n) = some (Int32.ofNat c, b2, 0, dr2) ∧ fX4_freeOn r (Int32.ofNat s) (Int32.ofNat n) = some (Int32.ofNat c, r2) ∧ RD b2 pF pL st tm 0 cm ds dr2 r2 ∧ IV b2 tm := by
  obtain ⟨b1, hF, e1⟩ := fx_free b tm qt dr hs hI
  obtain ⟨k, b2, dr2, e2, hd⟩ := fx_drop b1 dr
  have hb := h.1
  have htm := h.2.2.2.1
  obtain ⟨r1, g1, g2⟩ := mfree_5 b s tm r hb htm n hs n 0 1000 r (by omega) (by omega) ⟨fun i hi => ⟨by
    rw [(hb i hi).1]
    by_cases c : b i = -2
    · rw [if_pos c, if_pos ⟨c, by omega⟩]
    · rw [if_neg c, if_neg (fun y => c y.1)], rfl, by rw [if_neg (by omega)]⟩, fun x _ => rfl⟩
  obtain ⟨r2, g3, g4⟩ := mfree_57 b s n hs tm (Int32.ofNat (cn (fun i => decide (b (s + i) = -2)) n)) hI ht r r1 hb htm g1 n 0 1000 r1 (by omega) (by omega) ⟨fun i hi => ⟨fun ⟨k, y1, y2, _, _⟩ => by omega, fun _ => rfl⟩, fun x _ => rfl⟩
  have hRB : RB b1 r2 := by
    intro i hi
    obtain ⟨c1, c2, c3⟩ := g1.1 i hi
    obtain ⟨d1, d2, d3⟩ := hb i hi
    obtain ⟨f1, f2⟩ := hF i
    obtain ⟨m1, m2⟩ := g3.1 i hi
    rw [g3.2 i (by omega), g3.2 (256 + i) (by omega), c1, c2, d2]
    by_cases c : fT b (fq b s n) s n i
    · rw [f1 c, m1 c]
      have hq : fq b s n i = true := by
        obtain ⟨k, -, -, -, y4⟩ := c
        exact y4 i (by omega)
      have hnn : ¬ tm < 0 := zNot_lt.mpr hI.2.2
      refine ⟨?_, ?_, by rw [if_neg hnn]⟩
      · rw [if_neg (show ¬ tm = -2 from fun q => hnn (by rw [q]; decide))]
        refine if_neg (fun y => ?_)
        rcases fq_iff.mp hq with z | z
        · exact zq_nn z (by rw [y.1]; decide)
        · exact y.2 ⟨z.1, z.2.1⟩
      · rw [if_neg (show ¬ tm = -1 from fun q => hnn (by rw [q]; decide))]
        refine if_neg (fun y => ?_)
        rcases fq_iff.mp hq with z | z
        · exact zq_nn z (by rw [y]; decide)
        · rw [y] at z; exact absurd z.2.2 (by decide)
    · rw [f2 c, m2 c, c3]
      have hno : ¬ (b i = -2 ∧ s ≤ i ∧ i < s + n) := fun y => c ⟨i, y.2.1, y.2.2, y.1, conn_self (fq_iff.mpr (Or.inr ⟨y.2.1, y.2.2, y.1⟩))⟩
      refine ⟨?_, rfl, ?_⟩
      · by_cases e : b i = -2
        · rw [if_pos e, if_pos ⟨e, fun y => hno ⟨e, y⟩⟩]
        · rw [if_neg e, if_neg (fun y => e y.1)]
      · rw [if_neg hno]; exact d3
  have hO : zO r r2 := fun x hx => by rw [g3.2 x (by omega)]; exact g1.2 x hx
  obtain ⟨r3, k1, k2⟩ := ((h.put hRB hO).quiet 0).limit hd
  have hc := cn_le (fun i => decide (b (s + i) = -2)) n
  refine ⟨cn (fun i => decide (b (s + i) = -2)) n, b2, dr2, r3, by omega, ?_, ?_, k2, IV_DS hd (FS_IV hs hI hF)⟩
  · rw [e1, e2]; rfl
  · show fX4_freeOn_5 1000 (Int32.ofNat s) (Int32.ofNat n) (Int32.ofNat 0) (Int32.ofNat s) r = _
    rw [Nat.add_zero] at g2 g4
    refine g2.trans ?_
    rw [g4, k1]; rfl
/-! pins, granules -/
/-- pins keep to the blocks -/
def PV (pF pL : Nat → Int32) : Prop := ∀ k, k < 3 → ∃ f n : Nat, pF k = Int32.ofNat f ∧ pL k = Int32.ofNat n ∧ f + n ≤ 256
def p1 (pF pL : Nat → Int32) (k i : Nat) : Bool := decide ((pF k).toInt ≤ (i : Int) ∧ (i : Int) < (pF k).toInt + (pL k).toInt)
/-- pinned -/
def pn (pF pL : Nat → Int32) (i : Nat) : Bool := p1 pF pL 0 i || (p1 pF pL 1 i || p1 pF pL 2 i)
def r1 (pF pL : Nat → Int32) (k a e : Nat) : Bool := decide (0 < (pL k).toInt ∧ (pF k).toInt < (e : Int) ∧ (a : Int) < (pF k).toInt + (pL k).toInt)
def pnR (pF pL : Nat → Int32) (a e : Nat) : Bool := r1 pF pL 0 a e || (r1 pF pL 1 a e || r1 pF pL 2 a e)
theorem r1_one (pF pL : Nat → Int32) (k a : Nat) : r1 pF pL k a (a + 1) = p1 pF pL k a := decide_eq_decide.mpr (by omega)
theorem pnR_one (pF pL : Nat → Int32) (a : Nat) : pnR pF pL a (a + 1) = pn pF pL a := by
  unfold pnR pn
  rw [r1_one, r1_one, r1_one]
theorem r1_ex {pF pL : Nat → Int32} {k a e : Nat} (h : a < e) : r1 pF pL k a e = true ↔ ∃ i : Nat, a ≤ i ∧ i < e ∧ p1 pF pL k i = true := by
  unfold r1 p1
  constructor
  · intro q
    have q := of_decide_eq_true q
    by_cases c : (pF k).toInt ≤ a
    · exact ⟨a, Nat.le_refl _, h, decide_eq_true (by omega)⟩
    · exact ⟨(pF k).toInt.toNat, by omega, by omega, decide_eq_true (by omega)⟩
  · rintro ⟨i, h1, h2, h3⟩
    have h3 := of_decide_eq_true h3
    exact decide_eq_true (by omega)
theorem pnR_ex {pF pL : Nat → Int32} {a e : Nat} (h : a < e) : pnR pF pL a e = true ↔ ∃ i : Nat, a ≤ i ∧ i < e ∧ pn pF pL i = true := by
  unfold pnR pn
  rw [Bool.or_eq_true, Bool.or_eq_true, r1_ex h, r1_ex h, r1_ex h]
  constructor
  · rintro (⟨i, h1, h2, h3⟩ | ⟨i, h1, h2, h3⟩ | ⟨i, h1, h2, h3⟩)
    · exact ⟨i, h1, h2, by rw [h3]; rfl⟩
    · exact ⟨i, h1, h2, by rw [h3]; simp⟩
    · exact ⟨i, h1, h2, by rw [h3]; simp⟩
  · rintro ⟨i, h1, h2, h3⟩
    rw [Bool.or_eq_true, Bool.or_eq_true] at h3
    rcases h3 with h3 | h3 | h3
    · exact Or.inl ⟨i, h1, h2, h3⟩
    · exact Or.inr (Or.inl ⟨i, h1, h2, h3⟩)
    · exact Or.inr (Or.inr ⟨i, h1, h2, h3⟩)
theorem zi3 {k : Nat} (h : k < 3) : ¬ (Int32.ofNat k < 0 ∨ 3 ≤ (Int32.ofNat k).toNatClampNeg) := zN_in h (by omega)
theorem zk3 {k : Nat} (h : k < 3) : (Int32.ofNat k).toNatClampNeg = k := zN_cl (by omega)
theorem z3 {k : Nat} (h : k < 3) : ¬ (3 : Int32) ≤ Int32.ofNat k := fun q => by
  have := (zN_le (a := 3) (c := k) (by omega) (by omega)).mp q
  omega
theorem fx_pin_step {pF pL : Nat → Int32} (h : PV pF pL) {a e k : Nat} (ha : a < 2147483648) (he : e < 2147483648) (hk : k < 3) (f : Nat) : fX0_isAnyPinned_2 pF pL (f + 1) (Int32.ofNat a) (Int32.ofNat e) (Int32.ofNat k) = if r1 pF pL k a e = true then some 1 else fX0_isAnyPinned_2 pF pL f (Int32.ofNat a) (Int32.ofNat e) (Int32.ofNat (k + 1)) := by
  obtain ⟨x, n, h1, h2, h3⟩ := h k hk
  have hin := zi3 hk
  rw [fX0_isAnyPinned_2, if_neg (z3 hk), if_neg hin]
  rw [zk3 hk] at *
  rw [h1, h2, zN_1]
  have e1 : r1 pF pL k a e = decide (0 < n ∧ x < e ∧ a < x + n) := by
    unfold r1
    rw [h1, h2, zN_toInt (by omega), zN_toInt (by omega)]
    exact decide_eq_decide.mpr (by omega)
  rw [e1]
  by_cases c1 : n = 0
  · rw [if_pos (show Int32.ofNat n ≤ 0 by rw [c1]; decide), if_neg (by rw [decide_eq_true_iff]; omega)]
  · rw [if_neg (show ¬ Int32.ofNat n ≤ 0 from fun q => by have := (zN_le (a := n) (c := 0) (by omega) (by omega)).mp q; omega), if_neg hin]
    by_cases c2 : e ≤ x
    · rw [if_pos ((zN_le (by omega) (by omega)).mpr c2), if_neg (by rw [decide_eq_true_iff]; omega)]
    · rw [if_neg (fun q => c2 ((zN_le (by omega) (by omega)).mp q)), if_neg hin, if_neg hin, zN_add]
      by_cases c3 : x + n ≤ a
      · rw [if_pos ((zN_le (by omega) (by omega)).mpr c3), if_neg (by rw [decide_eq_true_iff]; omega)]
      · rw [if_neg (fun q => c3 ((zN_le (by omega) (by omega)).mp q)), if_pos (by rw [decide_eq_true_iff]; omega)]
theorem fx_anyPinned {pF pL : Nat → Int32} (h : PV pF pL) {a e : Nat} (ha : a < 2147483648) (he : e < 2147483648) : fX0_isAnyPinned pF pL (Int32.ofNat a) (Int32.ofNat e) = some (bi (pnR pF pL a e)) := by
  show fX0_isAnyPinned_2 pF pL (999 + 1) (Int32.ofNat a) (Int32.ofNat e) (Int32.ofNat 0) = _
  rw [fx_pin_step h ha he (by omega)]
  unfold pnR
  cases r1 pF pL 0 a e
  · rw [if_neg (by decide)]
    show fX0_isAnyPinned_2 pF pL (998 + 1) (Int32.ofNat a) (Int32.ofNat e) (Int32.ofNat 1) = _
    rw [fx_pin_step h ha he (by omega)]
    cases r1 pF pL 1 a e
    · rw [if_neg (by decide)]
      show fX0_isAnyPinned_2 pF pL (997 + 1) (Int32.ofNat a) (Int32.ofNat e) (Int32.ofNat 2) = _
      rw [fx_pin_step h ha he (by omega)]
      cases r1 pF pL 2 a e
      · rw [if_neg (by decide)]
        show fX0_isAnyPinned_2 pF pL (996 + 1) (Int32.ofNat a) (Int32.ofNat e) (Int32.ofNat 3) = _
        rw [fX0_isAnyPinned_2, if_pos (by decide)]
        rfl
      · rw [if_pos rfl]; rfl
    · rw [if_pos rfl]; rfl
  · rw [if_pos rfl]; rfl
theorem fx_countPinned_4 {pF pL : Nat → Int32} (h : PV pF pL) : ∀ n k f, k + n = 256 → n < f → fX0_countPinned_4 pF pL f (Int32.ofNat (cn (pn pF pL) k)) (Int32.ofNat k) = some (Int32.ofNat (cn (pn pF pL) 256)) := by
  intro n
  induction n with
  | zero =>
    intro k f hk hf
    obtain ⟨f, rfl⟩ := zfuel hf
    obtain rfl : k = 256 := by omega
    rw [fX0_countPinned_4, if_pos z256p]
  | succ n ih =>
    intro k f hk hf
    obtain ⟨f, rfl⟩ := zfuel hf
    have hk2 : k < 256 := by omega
    rw [fX0_countPinned_4, if_neg (z256 hk2), zN_1, fx_anyPinned h (by omega) (by omega), pnR_one]
    have h1 := ih (k + 1) f (by omega) (by omega)
    rw [cn] at h1
    show (if bi (pn pF pL k) = 0 then _ else _) = _
    cases hb : pn pF pL k
    · rw [hb] at h1
      rw [if_pos bi_f]
      exact h1
    · rw [hb] at h1
      rw [if_neg (show ¬ bi true = 0 by decide), zN_1]
      exact h1
theorem fx_countPinned {pF pL : Nat → Int32} (h : PV pF pL) : fX0_countPinned pF pL = some (Int32.ofNat (cn (pn pF pL) 256)) := fx_countPinned_4 h 256 0 1000 rfl (by omega)
/-- the pins, in the Model's words -/
def RP (pF pL r : Nat → Int32) : Prop := ∀ i, i < 3 → r (779 + i) = pF i ∧ r (782 + i) = pL i
theorem mpin_step {pF pL r : Nat → Int32} (h : PV pF pL) (hr : RP pF pL r) {a k : Nat} (ha : a < 2147483648) (hk : k < 3) (f : Nat) : fX4_isPinned_2 r (f + 1) (Int32.ofNat a) (Int32.ofNat k) = if p1 pF pL k a = true then some 1 else fX4_isPinned_2 r f (Int32.ofNat a) (Int32.ofNat (k + 1)) := by
  obtain ⟨x, n, h1, h2, h3⟩ := h k hk
  obtain ⟨g1, g2⟩ := hr k hk
  rw [fX4_isPinned_2, if_neg (z3 hk), z779k, z782k, if_neg (zi785 (by omega)), zk785 (by omega), zk785 (by omega), g1, g2, h1, h2, zN_1, zN_add]
  have e1 : p1 pF pL k a = decide (x ≤ a ∧ a < x + n) := by
    unfold p1
    rw [h1, h2, zN_toInt (by omega), zN_toInt (by omega)]
    exact decide_eq_decide.mpr (by omega)
  rw [e1]
  by_cases c1 : a < x
  · rw [if_pos ((zN_lt (by omega) (by omega)).mpr c1), if_neg (by rw [decide_eq_true_iff]; omega)]
  · rw [if_neg (fun q => c1 ((zN_lt (by omega) (by omega)).mp q)), if_neg (zj785 (by omega)), if_neg (zj785 (by omega))]
    by_cases c2 : x + n ≤ a
    · rw [if_pos ((zN_le (by omega) (by omega)).mpr c2), if_neg (by rw [decide_eq_true_iff]; omega)]
    · rw [if_neg (fun q => c2 ((zN_le (by omega) (by omega)).mp q)), if_pos (by rw [decide_eq_true_iff]; omega)]
theorem mpinned {pF pL r : Nat → Int32} (h : PV pF pL) (hr : RP pF pL r) {a : Nat} (ha : a < 2147483648) : fX4_isPinned r (Int32.ofNat a) = some (bi (pn pF pL a)) := by
  show fX4_isPinned_2 r (999 + 1) (Int32.ofNat a) (Int32.ofNat 0) = _
  rw [mpin_step h hr ha (by omega)]
  unfold pn
  cases p1 pF pL 0 a
  · rw [if_neg (by decide)]
    show fX4_isPinned_2 r (998 + 1) (Int32.ofNat a) (Int32.ofNat 1) = _
    rw [mpin_step h hr ha (by omega)]
    cases p1 pF pL 1 a
    · rw [if_neg (by decide)]
      show fX4_isPinned_2 r (997 + 1) (Int32.ofNat a) (Int32.ofNat 2) = _
      rw [mpin_step h hr ha (by omega)]
      cases p1 pF pL 2 a
      · rw [if_neg (by decide)]
        show fX4_isPinned_2 r (996 + 1) (Int32.ofNat a) (Int32.ofNat 3) = _
        rw [fX4_isPinned_2, if_pos (by decide)]
        rfl
      · rw [if_pos rfl]; rfl
    · rw [if_pos rfl]; rfl
  · rw [if_pos rfl]; rfl
theorem mallPinned_4 {pF pL r : Nat → Int32} (h : PV pF pL) (hr : RP pF pL r) : ∀ n k f, k + n = 256 → n < f → fX4_allPinned_4 r f (Int32.ofNat (cn (pn pF pL) k)) (Int32.ofNat k) = some (Int32.ofNat (cn (pn pF pL) 256)) := by
  intro n
  induction n with
  | zero =>
    intro k f hk hf
    obtain ⟨f, rfl⟩ := zfuel hf
    obtain rfl : k = 256 := by omega
    rw [fX4_allPinned_4, if_pos z256p]
  | succ n ih =>
    intro k f hk hf
    obtain ⟨f, rfl⟩ := zfuel hf
    have hk2 : k < 256 := by omega
    rw [fX4_allPinned_4, if_neg (z256 hk2), mpinned h hr (by omega)]
    have h1 := ih (k + 1) f (by omega) (by omega)
    rw [cn] at h1
    show (if bi (pn pF pL k) = 0 then _ else _) = _
    cases hb : pn pF pL k
    · rw [hb] at h1
      rw [if_pos bi_f, zN_1, Int32.add_zero]
      exact h1
    · rw [hb] at h1
      rw [if_neg (show ¬ bi true = 0 by decide), zN_1, zN_1]
      exact h1
theorem mallPinned {pF pL r : Nat → Int32} (h : PV pF pL) (hr : RP pF pL r) : fX4_allPinned r = some (Int32.ofNat (cn (pn pF pL) 256)) := mallPinned_4 h hr 256 0 1000 rfl (by omega)
/-! granules -/
theorem zsh0 : ∀ g, g < 5 → (1 : Int32) <<< (Int32.ofNat g &&& 31) = Int32.ofNat (2 ^ g) := by decide +kernel
theorem zshl : ∀ g, g < 5 → ∀ a, a < 1024 → Int32.ofNat a <<< (Int32.ofNat g &&& 31) = Int32.ofNat (a * 2 ^ g) := by decide +kernel
theorem zshr : ∀ g, g < 5 → ∀ a, a < 1024 → Int32.ofNat a >>> (Int32.ofNat g &&& 31) = Int32.ofNat (a / 2 ^ g) := by decide +kernel
theorem zG_pos (g : Nat) : 0 < 2 ^ g := Nat.two_pow_pos g
theorem zG_le : ∀ g, g < 5 → 2 ^ g ≤ 16 := by decide
/-- all of the first n -/
def al (f : Nat → Bool) : Nat → Bool
  | 0 => true
  | n + 1 => al f n && f n
theorem al_iff (f : Nat → Bool) : ∀ n, al f n = true ↔ ∀ k, k < n → f k = true
  | 0 => ⟨fun _ k h => absurd h (Nat.not_lt_zero _), fun _ => rfl⟩
  | n + 1 => by
    rw [al, Bool.and_eq_true, al_iff f n]
    constructor
    · rintro ⟨h1, h2⟩ k hk
      by_cases e : k = n
      · rw [e]; exact h2
      · exact h1 k (by omega)
    · intro h
      exact ⟨fun k hk => h k (by omega), h n (by omega)⟩
/-- a whole granule that begins at that block can be discarded -/
def gd (q p : Nat → Bool) (G j : Nat) : Bool := decide (j + G ≤ 256 ∧ j % G = 0) && al (fun k => q (j + k) && !p (j + k)) G
/-- a granule can be discarded -/
def fr (q p : Nat → Bool) (G i : Nat) : Bool := gd q p G (i * G)
theorem gd_iff {q p : Nat → Bool} {G j : Nat} : gd q p G j = true ↔ j + G ≤ 256 ∧ j % G = 0 ∧ ∀ k, k < G → q (j + k) = true ∧ p (j + k) = false := by
  unfold gd
  rw [Bool.and_eq_true, decide_eq_true_iff, al_iff, and_assoc]
  refine and_congr_right fun _ => and_congr_right fun _ => forall_congr' fun k => ?_
  rw [Bool.and_eq_true, Bool.not_eq_true']
theorem fr_iff {q p : Nat → Bool} {G i : Nat} : fr q p G i = true ↔ (i + 1) * G ≤ 256 ∧ ∀ k, k < G → q (i * G + k) = true ∧ p (i * G + k) = false := by
  unfold fr
  rw [gd_iff, Nat.add_mul, Nat.one_mul]
  exact ⟨fun ⟨h1, _, h3⟩ => ⟨h1, h3⟩, fun ⟨h1, h3⟩ => ⟨h1, Nat.mul_mod_left i G, h3⟩⟩
theorem fr_B {q p : Nat → Bool} {G : Nat} (hG : 0 < G) : zB (fr q p G) := fun i hi => by
  cases h : fr q p G i
  · rfl
  · have := (fr_iff.mp h).1
    have h2 : i + 1 ≤ (i + 1) * G := Nat.le_mul_of_pos_right _ hG
    omega
theorem fr_lt {q p : Nat → Bool} {G i : Nat} (h : fr q p G i = true) : (i + 1) * G ≤ 256 := (fr_iff.mp h).1
theorem fx_isFree_32 {b pF pL : Nat → Int32} (h : PV pF pL) {a e : Nat} (hae : a < e) (he : e ≤ 256) : ∀ n k f, k + n = e → a ≤ k → n < f → (∀ i, a ≤ i → i < k → zq b i = true) → fX0_isFree_32 b pF pL f (Int32.ofNat a) (Int32.ofNat e) (Int32.ofNat k) = some (bi (al (fun j => zq b (a + j) && !pn pF pL (a + j)) (e - a))) := by
  intro n
  induction n with
  | zero =>
    intro k f hk hak hf hq
    obtain ⟨f, rfl⟩ := zfuel hf
    obtain rfl : k = e := by omega
    rw [fX0_isFree_32, if_pos ((zN_le (by omega) (by omega)).mpr (Nat.le_refl _)), fx_anyPinned h (by omega) (by omega)]
    show (if bi (pnR pF pL a k) = 0 then some 1 else some 0) = _
    cases c : pnR pF pL a k
    · rw [if_pos bi_f]
      have : al (fun j => zq b (a + j) && !pn pF pL (a + j)) (k - a) = true := (al_iff _ _).mpr fun j hj => by
        rw [hq (a + j) (by omega) (by omega)]
        cases c2 : pn pF pL (a + j)
        · rfl
        · rw [(pnR_ex hae).mpr ⟨a + j, by omega, by omega, c2⟩] at c; cases c
      rw [this]; rfl
    · rw [if_neg (show ¬ bi true = 0 by decide)]
      obtain ⟨i, h1, h2, h3⟩ := (pnR_ex hae).mp c
      cases c2 : al (fun j => zq b (a + j) && !pn pF pL (a + j)) (k - a)
      · rfl
      · have := (al_iff _ _).mp c2 (i - a) (by omega)
        rw [show a + (i - a) = i by omega, h3] at this
        simp at this
  | succ n ih =>
    intro k f hk hak hf hq
    obtain ⟨f, rfl⟩ := zfuel hf
    have hk2 : k < 256 := by omega
    rw [fX0_isFree_32, if_neg (fun q => by have := (zN_le (by omega) (by omega)).mp q; omega), if_neg (zi256 hk2), zk256 hk2]
    by_cases c : 0 ≤ b k
    · rw [if_pos c, zN_1]
      refine ih (k + 1) f (by omega) (by omega) (by omega) (fun i h1 h2 => ?_)
      by_cases e : i = k
      · rw [e]; exact zq_t hk2 (zNot_lt.mpr c)
      · exact hq i h1 (by omega)
    · rw [if_neg c]
      cases c2 : al (fun j => zq b (a + j) && !pn pF pL (a + j)) (e - a)
      · rfl
      · have := (al_iff _ _).mp c2 (k - a) (by omega)
        rw [show a + (k - a) = k by omega, zq_f (zNot_le.mp c)] at this
        simp at this
/-- the granules' size keeps to its range -/
theorem fx_granule {st : Nat → Int32} {g : Nat} (hg : g < 5) (h : st 0 = Int32.ofNat g) : fX0_granuleSize st = some (Int32.ofNat (2 ^ g)) := by
  unfold fX0_granuleSize
  rw [h, zsh0 g hg]
theorem fx_isFree {b pF pL st : Nat → Int32} (hp : PV pF pL) {g : Nat} (hg : g < 5) (h : st 0 = Int32.ofNat g) {i : Nat} (hi : i < 1024) : fX0_isFree b pF pL st (Int32.ofNat i) = some (bi (fr (zq b) (pn pF pL) (2 ^ g) i)) := by
  have hG := zG_pos g
  have hG2 := zG_le g hg
  have hm : i * 2 ^ g ≤ 1024 * 16 := Nat.mul_le_mul (by omega) hG2
  unfold fX0_isFree
  rw [fx_granule hg h, h, zshl g hg i hi]
  show (if Int32.ofNat (i * 2 ^ g) < 0 then some 0 else if Int32.ofNat (i * 2 ^ g) + Int32.ofNat (2 ^ g) ≤ Int32.ofNat 256 then _ else some 0) = _
  rw [if_neg (zN_neg (by omega)), zN_add]
  by_cases c : i * 2 ^ g + 2 ^ g ≤ 256
  · rw [if_pos ((zN_le (by omega) (by omega)).mpr c)]
    have h1 := fx_isFree_32 (b := b) hp (a := i * 2 ^ g) (e := i * 2 ^ g + 2 ^ g) (by omega) c (2 ^ g) (i * 2 ^ g) 1000 rfl (Nat.le_refl _) (by omega) (fun k h1 h2 => by omega)
    rw [h1, Nat.add_sub_cancel_left]
    unfold fr gd
    rw [decide_eq_true (show i * 2 ^ g + 2 ^ g ≤ 256 ∧ i * 2 ^ g % 2 ^ g = 0 from ⟨c, Nat.mul_mod_left _ _⟩), Bool.true_and]
  · rw [if_neg (fun q => c ((zN_le (by omega) (by omega)).mp q))]
    unfold fr gd
    rw [decide_eq_false (fun q => c q.1)]
    rfl
theorem fx_granulesFrom_2 {b pF pL st : Nat → Int32} (hp : PV pF pL) {g : Nat} (hg : g < 5) (h : st 0 = Int32.ofNat g) {i m : Nat} (hi : i ≤ 256) (hm : m ≤ 256) : ∀ n k f, k + n = m → n < f → i + k ≤ eo (fr (zq b) (pn pF pL) (2 ^ g)) i → fX0_granulesFrom_2 b pF pL st f (Int32.ofNat i) (Int32.ofNat m) (Int32.ofNat k) = some (Int32.ofNat (min m (eo (fr (zq b) (pn pF pL) (2 ^ g)) i - i))) := by
  have hB : zB (fr (zq b) (pn pF pL) (2 ^ g)) := fr_B (zG_pos g)
  intro n
  induction n with
  | zero =>
    intro k f hk hf hle
    obtain ⟨f, rfl⟩ := zfuel hf
    obtain rfl : k = m := by omega
    rw [fX0_granulesFrom_2, if_pos ((zN_le (by omega) (by omega)).mpr (Nat.le_refl _)), Nat.min_eq_left (by omega)]
  | succ n ih =>
    intro k f hk hf hle
    obtain ⟨f, rfl⟩ := zfuel hf
    rw [fX0_granulesFrom_2, if_neg (fun q => by have := (zN_le (by omega) (by omega)).mp q; omega), zN_add, fx_isFree hp hg h (by omega)]
    show (if bi _ = 0 then _ else _) = _
    by_cases c : i + k = eo (fr (zq b) (pn pF pL) (2 ^ g)) i
    · rw [c, eo_end hB i, if_pos bi_f, Nat.min_eq_right (by omega), ← c, Nat.add_sub_cancel_left]
    · rw [eo_in hB (j := i) (by omega) (by omega), if_neg (show ¬ bi true = 0 by decide), zN_1]
      exact ih (k + 1) f (by omega) (by omega) (by omega)
theorem fx_granulesFrom {b pF pL st : Nat → Int32} (hp : PV pF pL) {g : Nat} (hg : g < 5) (h : st 0 = Int32.ofNat g) {i m : Nat} (hi : i ≤ 256) (hm : m ≤ 256) : fX0_granulesFrom b pF pL st (Int32.ofNat i) (Int32.ofNat m) = some (Int32.ofNat (min m (eo (fr (zq b) (pn pF pL) (2 ^ g)) i - i))) :=
  fx_granulesFrom_2 hp hg h hi hm m 0 1000 (by omega) (by omega) (eo_ge (fr_B (zG_pos g)) i)
/-! the Model's granules -/
theorem mgranule {r : Nat → Int32} {g : Nat} (hg : g < 5) (h : r 773 = Int32.ofNat g) : fX4_granule r = some (Int32.ofNat (2 ^ g)) := by
  unfold fX4_granule
  rw [h, zsh0 g hg]
theorem mgood_30 {q : Nat → Bool} {pF pL r : Nat → Int32} (hq : RQ q r) (hp : PV pF pL) (hr : RP pF pL r) {j G : Nat} (hj : j + G ≤ 256) : ∀ n k f, k + n = G → n < f → (∀ i, i < k → q (j + i) = true ∧ pn pF pL (j + i) = false) → fX4_isGood_30 r f (Int32.ofNat j) (Int32.ofNat G) (Int32.ofNat (j + k)) = some (bi (al (fun i => q (j + i) && !pn pF pL (j + i)) G)) := by
  intro n
  induction n with
  | zero =>
    intro k f hk hf hh
    obtain ⟨f, rfl⟩ := zfuel hf
    obtain rfl : k = G := by omega
    rw [fX4_isGood_30, zN_add, if_pos ((zN_le (by omega) (by omega)).mpr (Nat.le_refl _))]
    rw [(al_iff _ _).mpr fun i hi => by rw [(hh i hi).1, (hh i hi).2]; rfl]
    rfl
  | succ n ih =>
    intro k f hk hf hh
    obtain ⟨f, rfl⟩ := zfuel hf
    have no : (q (j + k) && !pn pF pL (j + k)) = false → al (fun i => q (j + i) && !pn pF pL (j + i)) G = false := fun c => by
      cases c2 : al (fun i => q (j + i) && !pn pF pL (j + i)) G
      · rfl
      · have := (al_iff _ _).mp c2 k (by omega)
        rw [c] at this; cases this
    rw [fX4_isGood_30, zN_add, if_neg (fun q => by have := (zN_le (by omega) (by omega)).mp q; omega), mq hq (by omega), mpinned hp hr (by omega), zN_1]
    show (if bi (q (j + k)) = 0 then some 0 else if bi (pn pF pL (j + k)) = 0 then _ else some 0) = _
    cases c1 : q (j + k)
    · rw [if_pos bi_f, no (by rw [c1]; rfl)]; rfl
    · rw [if_neg (show ¬ bi true = 0 by decide)]
      cases c2 : pn pF pL (j + k)
      · rw [if_pos bi_f]
        exact ih (k + 1) f (by omega) (by omega) (fun i hi => by
          by_cases e : i = k
          · rw [e]; exact ⟨c1, c2⟩
          · exact hh i (by omega))
      · rw [if_neg (show ¬ bi true = 0 by decide), no (by rw [c1, c2]; rfl)]; rfl
theorem zrem : ∀ g, g < 5 → ∀ a, a < 256 → (irem (Int32.ofNat a) (Int32.ofNat (2 ^ g)) ≤ 0 ↔ a % 2 ^ g = 0) := by decide +kernel
theorem z0g : ∀ g, g < 5 → ¬ Int32.ofNat (2 ^ g) = 0 := by decide
theorem zin1 {j G : Nat} (hj : j < 2147483648) (hG : G ≤ 256) : fX4_in (Int32.ofNat j).toInt64 0 (256 - Int32.ofNat G).toInt64 = some (bi (decide (j + G ≤ 256))) := by
  rw [mi_in, Int32.toInt_toInt64, Int32.toInt_toInt64, zN_toInt hj, show (256 : Int32) - Int32.ofNat G = Int32.ofNat (256 - G) from zN_sub (a := 256) (c := G) hG, zN_toInt (by omega)]
  rw [show ((0 : Int64).toInt) = 0 from rfl]
  exact congrArg (fun t => some (bi t)) (decide_eq_decide.mpr (by omega))
theorem mgood {q : Nat → Bool} {pF pL r : Nat → Int32} (hq : RQ q r) (hp : PV pF pL) (hr : RP pF pL r) {g : Nat} (hg : g < 5) (h : r 773 = Int32.ofNat g) {j : Nat} (hj : j < 2147483648) : fX4_isGood r (Int32.ofNat j) = some (bi (gd q (pn pF pL) (2 ^ g) j)) := by
  have hG := zG_pos g
  have hG2 := zG_le g hg
  unfold fX4_isGood
  rw [mgranule hg h]
  show ob (fX4_in (Int32.ofNat j).toInt64 0 (256 - Int32.ofNat (2 ^ g)).toInt64) _ = _
  rw [zin1 hj (by omega)]
  show (if bi _ = 0 then some 0 else if Int32.ofNat (2 ^ g) = 0 then none else if irem (Int32.ofNat j) (Int32.ofNat (2 ^ g)) ≤ 0 then _ else some 0) = _
  by_cases c : j + 2 ^ g ≤ 256
  · rw [decide_eq_true c, if_neg (show ¬ bi true = 0 by decide), if_neg (z0g g hg)]
    by_cases c2 : j % 2 ^ g = 0
    · rw [if_pos ((zrem g hg j (by omega)).mpr c2)]
      have h1 := mgood_30 hq hp hr c (2 ^ g) 0 1000 (by omega) (by omega) (fun i hi => by omega)
      rw [Nat.add_zero] at h1
      rw [h1]
      unfold gd
      rw [decide_eq_true ⟨c, c2⟩, Bool.true_and]
    · rw [if_neg (fun y => c2 ((zrem g hg j (by omega)).mp y))]
      unfold gd
      rw [decide_eq_false (fun y => c2 y.2)]; rfl
  · rw [decide_eq_false c, if_pos bi_f]
    unfold gd
    rw [decide_eq_false (fun y => c y.1)]; rfl
theorem mgood_neg {r : Nat → Int32} {g : Nat} (hg : g < 5) (h : r 773 = Int32.ofNat g) {j : Nat} (hj : j < 2 ^ g) : fX4_isGood r (Int32.ofNat j - Int32.ofNat (2 ^ g)) = some 0 := by
  have hG2 := zG_le g hg
  unfold fX4_isGood
  rw [mgranule hg h]
  show ob (fX4_in (Int32.ofNat j - Int32.ofNat (2 ^ g)).toInt64 0 (256 - Int32.ofNat (2 ^ g)).toInt64) _ = _
  rw [mi_in, Int32.toInt_toInt64]
  have hneg : ∀ a, a < 16 → ∀ c, c < 17 → a < c → ¬ (0 : Int) ≤ (Int32.ofNat a - Int32.ofNat c).toInt := by decide +kernel
  rw [decide_eq_false (fun y => hneg j (by omega) (2 ^ g) (by omega) hj y.1)]
  rfl
theorem gd_mul {q p : Nat → Bool} {G j : Nat} (h : gd q p G j = true) : ∃ i, j = i * G := ⟨j / G, by
  have := (gd_iff.mp h).2.1
  have h2 := Nat.div_add_mod j G
  rw [Nat.mul_comm]; omega⟩
theorem mpiece_27 {q : Nat → Bool} {pF pL r : Nat → Int32} (hq : RQ q r) (hp : PV pF pL) (hr : RP pF pL r) {g : Nat} (hg : g < 5) (h : r 773 = Int32.ofNat g) {i : Nat} (hi : i ≤ 256) : ∀ n k f, eo (fr q (pn pF pL) (2 ^ g)) i - (i + k) = n → n < f → i + k ≤ eo (fr q (pn pF pL) (2 ^ g)) i → fX4_piece_27 r f (Int32.ofNat (i * 2 ^ g)) (Int32.ofNat (2 ^ g)) (Int32.ofNat k) = some (Int32.ofNat (eo (fr q (pn pF pL) (2 ^ g)) i - i)) := by
  have hB : zB (fr q (pn pF pL) (2 ^ g)) := fr_B (zG_pos g)
  have hle := eo_le hB hi
  have hG2 := zG_le g hg
  have hm : ∀ k, i + k ≤ 256 → (i + k) * 2 ^ g ≤ 256 * 16 := fun k hk => Nat.mul_le_mul hk hG2
  intro n
  induction n with
  | zero =>
    intro k f hn hf hk
    obtain ⟨f, rfl⟩ := zfuel hf
    have := hm k (by omega)
    rw [fX4_piece_27, zN_mul, zN_add, ← Nat.add_mul, mgood hq hp hr hg h (by omega)]
    show (if bi (fr q (pn pF pL) (2 ^ g) (i + k)) = 0 then _ else _) = _
    rw [show i + k = eo (fr q (pn pF pL) (2 ^ g)) i by omega, eo_end hB, if_pos bi_f, show eo (fr q (pn pF pL) (2 ^ g)) i - i = k by omega]
  | succ n ih =>
    intro k f hn hf hk
    obtain ⟨f, rfl⟩ := zfuel hf
    have := hm k (by omega)
    rw [fX4_piece_27, zN_mul, zN_add, ← Nat.add_mul, mgood hq hp hr hg h (by omega)]
    show (if bi (fr q (pn pF pL) (2 ^ g) (i + k)) = 0 then _ else _) = _
    rw [eo_in hB (j := i) (by omega) (by omega), if_neg (show ¬ bi true = 0 by decide), zN_1]
    exact ih (k + 1) f (by omega) (by omega) (by omega)
/-- the granules of the piece that begins with a granule -/
def pc (f : Nat → Bool) (i : Nat) : Nat := if bg f i = true then eo f i - i else 0
theorem mpiece {q : Nat → Bool} {pF pL r : Nat → Int32} (hq : RQ q r) (hp : PV pF pL) (hr : RP pF pL r) {g : Nat} (hg : g < 5) (h : r 773 = Int32.ofNat g) {i : Nat} (hi : i ≤ 256) : fX4_piece r (Int32.ofNat (i * 2 ^ g)) = some (Int32.ofNat (pc (fr q (pn pF pL) (2 ^ g)) i)) := by
  have hG := zG_pos g
  have hG2 := zG_le g hg
  have hm : i * 2 ^ g ≤ 256 * 16 := Nat.mul_le_mul hi hG2
  unfold fX4_piece
  rw [mgranule hg h, mgood hq hp hr hg h (by omega)]
  show (if bi (fr q (pn pF pL) (2 ^ g) i) = 0 then some 0 else ob (fX4_isGood r (Int32.ofNat (i * 2 ^ g) - Int32.ofNat (2 ^ g))) _) = _
  have e : fX4_isGood r (Int32.ofNat (i * 2 ^ g) - Int32.ofNat (2 ^ g)) = some (bi (pv (fr q (pn pF pL) (2 ^ g)) i)) := by
    cases i with
    | zero => rw [Nat.zero_mul, mgood_neg hg h (by omega)]; rfl
    | succ i =>
      rw [pv_succ, zN_sub (by rw [Nat.add_mul]; omega), Nat.add_mul, Nat.one_mul, Nat.add_sub_cancel, mgood hq hp hr hg h (by rw [Nat.add_mul] at hm; omega)]
      rfl
  unfold pc
  rw [e, bg_pv]
  show (if bi (fr q (pn pF pL) (2 ^ g) i) = 0 then some 0 else if bi (pv (fr q (pn pF pL) (2 ^ g)) i) = 0 then fX4_piece_27 r 1000 (Int32.ofNat (i * 2 ^ g)) (Int32.ofNat (2 ^ g)) 0 else some 0) = _
  cases c : fr q (pn pF pL) (2 ^ g) i
  · rfl
  · rw [if_neg (show ¬ bi true = 0 by decide)]
    cases c2 : pv (fr q (pn pF pL) (2 ^ g)) i
    · rw [if_pos bi_f]
      have hB : zB (fr q (pn pF pL) (2 ^ g)) := fr_B hG
      have h1 := eo_ge hB i
      have h2 := eo_le hB hi
      exact mpiece_27 hq hp hr hg h hi _ 0 1000 rfl (by omega) (by omega)
    · rfl
theorem mpiece_0 {q : Nat → Bool} {pF pL r : Nat → Int32} (hq : RQ q r) (hp : PV pF pL) (hr : RP pF pL r) {g : Nat} (hg : g < 5) (h : r 773 = Int32.ofNat g) {j : Nat} (hj : j < 2147483648) (hm : ¬ j % 2 ^ g = 0) : fX4_piece r (Int32.ofNat j) = some 0 := by
  unfold fX4_piece
  rw [mgranule hg h, mgood hq hp hr hg h hj]
  have : gd q (pn pF pL) (2 ^ g) j = false := by
    unfold gd
    rw [decide_eq_false (fun y => hm y.2)]; rfl
  rw [this]; rfl
