/-! a new device; whole texts -/
theorem fill_5 (na : Nat) (hna : na ≤ 1000) (ro : Nat → Int32) (v : Int32) : ∀ n k f, k + n = na → n < f → fJ7_fill_53178_5 na f v (Int32.ofNat k) (Int32.ofNat na) (fun i => if i < k then v else ro i) = some (fun i => if i < na then v else ro i) := by
  intro n
  induction n with
  | zero =>
    intro k f hk hf
    obtain ⟨f, rfl⟩ := zfuel hf
    obtain rfl : k = na := by omega
    rw [fJ7_fill_53178_5, if_pos ((zN_le (by omega) (by omega)).mpr (Nat.le_refl _))]
  | succ n ih =>
    intro k f hk hf
    obtain ⟨f, rfl⟩ := zfuel hf
    rw [fJ7_fill_53178_5, if_neg (fun q => by have := (zN_le (by omega) (by omega)).mp q; omega), if_neg (zN_in (by omega) (by omega)), zN_cl (by omega), zN_1]
    have e : upd (fun i => if i < k then v else ro i) k v = (fun i => if i < k + 1 then v else ro i) := by
      funext x
      by_cases e : x = k
      · rw [e, zupd_self, if_pos (by omega)]
      · rw [zupd_ne _ _ e]
        by_cases q : x < k
        · rw [if_pos q, if_pos (by omega)]
        · rw [if_neg q, if_neg (by omega)]
    rw [e]
    exact ih (k + 1) f (by omega) (by omega)
theorem fill (na : Nat) (hna : na < 1000) (ro : Nat → Int32) (v : Int32) : fJ7_fill_53178 na ro v = some (fun i => if i < na then v else ro i) := by
  have h := fill_5 na (by omega) ro v na 0 1000 (by omega) (by omega)
  rw [show (fun i => if i < 0 then v else ro i) = ro from funext fun i => if_neg (Nat.not_lt_zero i)] at h
  exact h
/-- a cell of a new row, but for the settings -/
def zb0 (x : Nat) : Int32 := if 512 ≤ x ∧ x < 768 then -1 else 0
theorem zb0_t {x : Nat} (h : 512 ≤ x ∧ x < 768) : zb0 x = -1 := if_pos h
theorem zb0_f {x : Nat} (h : ¬ (512 ≤ x ∧ x < 768)) : zb0 x = 0 := if_neg h
theorem begin_2 (r0 : Nat → Int32) : ∀ n k f, k + n = 785 → n < f → fX4_begin_2 f (Int32.ofNat k) (fun x => if x < k then zb0 x else r0 x) = some (upd (upd (upd (upd (upd (fun x => if x < 785 then zb0 x else r0 x) 773 2) 774 2) 775 8) 776 3) 777 2) := by
  intro n
  induction n with
  | zero =>
    intro k f hk hf
    obtain ⟨f, rfl⟩ := zfuel hf
    obtain rfl : k = 785 := by omega
    rw [fX4_begin_2, if_pos (show (785 : Int32) ≤ Int32.ofNat 785 by decide)]
  | succ n ih =>
    intro k f hk hf
    obtain ⟨f, rfl⟩ := zfuel hf
    have up : ∀ v : Int32, v = zb0 k → upd (fun x => if x < k then zb0 x else r0 x) k v = (fun x => if x < k + 1 then zb0 x else r0 x) := fun v hv => by
      funext x
      by_cases e : x = k
      · rw [e, zupd_self, if_pos (by omega), hv]
      · rw [zupd_ne _ _ e]
        by_cases q : x < k
        · rw [if_pos q, if_pos (by omega)]
        · rw [if_neg q, if_neg (by omega)]
    have l512 : Int32.ofNat k < 512 ↔ k < 512 := zN_lt (c := 512) (by omega) (by omega)
    have l768 : (768 : Int32) ≤ Int32.ofNat k ↔ 768 ≤ k := zN_le (a := 768) (by omega) (by omega)
    rw [fX4_begin_2, if_neg (show ¬ (785 : Int32) ≤ Int32.ofNat k from fun q => by have := (zN_le (a := 785) (by omega) (by omega)).mp q; omega), zN_1]
    by_cases c : k < 512
    · rw [if_pos (l512.mpr c), if_neg (zi785 (by omega)), zk785 (by omega), up 0 (zb0_f (by omega)).symm]
      exact ih (k + 1) f (by omega) (by omega)
    · rw [if_neg (fun q => c (l512.mp q))]
      by_cases c2 : 768 ≤ k
      · rw [if_pos (l768.mpr c2), if_neg (zi785 (by omega)), zk785 (by omega), up 0 (zb0_f (by omega)).symm]
        exact ih (k + 1) f (by omega) (by omega)
      · rw [if_neg (fun q => c2 (l768.mp q)), if_neg (zi785 (by omega)), zk785 (by omega), up (-1) (zb0_t (by omega)).symm]
        exact ih (k + 1) f (by omega) (by omega)
theorem begin_ (r0 : Nat → Int32) : fX4_begin r0 = some (upd (upd (upd (upd (upd (fun x => if x < 785 then zb0 x else r0 x) 773 2) 774 2) 775 8) 776 3) 777 2) := by
  have h := begin_2 r0 785 0 1000 (by omega) (by omega)
  rw [show (fun x => if x < 0 then zb0 x else r0 x) = r0 from funext fun x => if_neg (Nat.not_lt_zero x)] at h
  exact h
theorem zrow_new (r0 : Nat → Int32) : ∃ r2, fX4_begin r0 = some r2 ∧ (∀ x, x < 785 → (x < 773 ∨ 777 < x) → r2 x = zb0 x) ∧ r2 773 = 2 ∧ r2 774 = 2 ∧ r2 775 = 8 ∧ r2 776 = 3 ∧ r2 777 = 2 := by
  refine ⟨_, begin_ r0, fun x h1 h2 => ?_, ?_, ?_, ?_, ?_, ?_⟩
  · rw [zupd_ne _ _ (by omega), zupd_ne _ _ (by omega), zupd_ne _ _ (by omega), zupd_ne _ _ (by omega), zupd_ne _ _ (by omega), if_pos h1]
  · rw [zupd_ne _ _ (by omega), zupd_ne _ _ (by omega), zupd_ne _ _ (by omega), zupd_ne _ _ (by omega), zupd_self]
  · rw [zupd_ne _ _ (by omega), zupd_ne _ _ (by omega), zupd_ne _ _ (by omega), zupd_self]
  · rw [zupd_ne _ _ (by omega), zupd_ne _ _ (by omega), zupd_self]
  · rw [zupd_ne _ _ (by omega), zupd_self]
  · rw [zupd_self]
theorem znew_ (b pF pL st : Nat → Int32) : ∃ b2 pF2 pL2 st2, fX0_makeNew b pF pL st = some (b2, pF2, pL2, st2, 0, 0, 0, 0, 0) ∧ (∀ i, i < 256 → b2 i = -1) ∧ (∀ i, i < 3 → pF2 i = 0) ∧ (∀ i, i < 3 → pL2 i = 0) ∧ (∀ i, i < 6 → st2 i = zFs i) := by
  refine ⟨fun i => if i < 256 then -1 else b i, fun i => if i < 3 then 0 else pF i, fun i => if i < 3 then 0 else pL i, va_cpy zFs st 0 0 6, ?_, fun i hi => if_pos hi, fun i hi => if_pos hi, fun i hi => if_pos hi, fun i hi => cpy_at zFs st hi⟩
  unfold fX0_makeNew
  rw [fill 256 (by omega), ob_some, fill 3 (by omega), ob_some, fill 3 (by omega), ob_some]
theorem zFs_0 : zFs 0 = 2 := rfl
theorem zFs_1 : zFs 1 = 2 := rfl
theorem zFs_2 : zFs 2 = 8 := rfl
theorem zFs_3 : zFs 3 = 3 := rfl
theorem zFs_4 : zFs 4 = 2 := rfl
theorem zFs_5 : zFs 5 = 0 := rfl
theorem zSV_new {st2 : Nat → Int32} (e4 : ∀ i, i < 6 → st2 i = zFs i) : SV st2 := by
  intro k hk
  rw [e4 k hk]
  rcases (show k = 0 ∨ k = 1 ∨ k = 2 ∨ k = 3 ∨ k = 4 ∨ k = 5 by omega) with rfl | rfl | rfl | rfl | rfl | rfl
  · exact ⟨2, zFs_0, by decide⟩
  · exact ⟨2, zFs_1, by decide⟩
  · exact ⟨8, zFs_2, by decide⟩
  · exact ⟨3, zFs_3, by decide⟩
  · exact ⟨2, zFs_4, by decide⟩
  · exact ⟨0, zFs_5, by decide⟩
theorem zIV_new {b2 : Nat → Int32} (e1 : ∀ i, i < 256 → b2 i = -1) : IV b2 0 := by
  refine ⟨fun i hi => ?_, fun i hi h1 h2 => ?_, by decide⟩
  · rw [e1 i hi]; exact ⟨by decide, by decide⟩
  · rw [zq_f (show b2 i < 0 by rw [e1 i (by omega)]; decide)] at h1; cases h1
theorem zRD_new {b2 pF2 pL2 st2 r2 : Nat → Int32} (e1 : ∀ i, i < 256 → b2 i = -1) (e2 : ∀ i, i < 3 → pF2 i = 0) (e3 : ∀ i, i < 3 → pL2 i = 0) (e4 : ∀ i, i < 6 → st2 i = zFs i) (h0 : ∀ x, x < 785 → (x < 773 ∨ 777 < x) → r2 x = zb0 x) (h3 : r2 773 = 2) (h4 : r2 774 = 2) (h5 : r2 775 = 8) (h6 : r2 776 = 3) (h7 : r2 777 = 2) : RD b2 pF2 pL2 st2 0 0 0 0 0 r2 := by
  have z : ∀ x, x < 785 → (x < 512 ∨ 768 ≤ x ∧ x < 773 ∨ 777 < x) → r2 x = 0 := fun x a q => by rw [h0 x a (by omega), zb0_f (by omega)]
  refine ⟨fun i hi => ?_, fun i hi => ?_, fun i hi => ?_, ?_, ?_, ?_, ?_, ?_⟩
  · rw [z i (by omega) (by omega), z (256 + i) (by omega) (by omega), h0 (512 + i) (by omega) (by omega), zb0_t (by omega), e1 i hi]
    exact ⟨by decide, by decide, by decide⟩
  · rw [z (779 + i) (by omega) (by omega), z (782 + i) (by omega) (by omega), e2 i hi, e3 i hi]
    exact ⟨rfl, rfl⟩
  · rw [e4 i hi]
    rcases (show i = 0 ∨ i = 1 ∨ i = 2 ∨ i = 3 ∨ i = 4 ∨ i = 5 by omega) with rfl | rfl | rfl | rfl | rfl | rfl
    · rw [zFs_0]; exact h3
    · rw [zFs_1]; exact h4
    · rw [zFs_2]; exact h5
    · rw [zFs_3]; exact h6
    · rw [zFs_4]; exact h7
    · rw [zFs_5]; exact z 778 (by omega) (by omega)
  · exact z _ (by omega) (by omega)
  · exact z _ (by omega) (by omega)
  · exact z _ (by omega) (by omega)
  · exact z _ (by omega) (by omega)
  · exact z _ (by omega) (by omega)
/-- a new device -/
theorem op_new (b pF pL st r0 : Nat → Int32) : ∃ b2 pF2 pL2 st2 r2, fX0_makeNew b pF pL st = some (b2, pF2, pL2, st2, 0, 0, 0, 0, 0) ∧ fX4_begin r0 = some r2 ∧ ZD b2 pF2 pL2 st2 0 0 0 0 0 r2 0 := by
  obtain ⟨r2, hr, h0, h3, h4, h5, h6, h7⟩ := zrow_new r0
  obtain ⟨b2, pF2, pL2, st2, hm, e1, e2, e3, e4⟩ := znew_ b pF pL st
  exact ⟨b2, pF2, pL2, st2, r2, hm, hr, 0, Nat.le_refl _, rfl, zRD_new e1 e2 e3 e4 h0 h3 h4 h5 h6 h7, zIV_new e1, fun k hk => ⟨0, 0, e2 k hk, e3 k hk, by omega⟩, zSV_new e4⟩
/-! whole texts -/
/-- the rest of a text, in both words -/
def RT (ch tx : Nat → Int32) (L : Nat) (sF sB ou : Int32) (n s v f : Nat) (b pF pL st : Nat → Int32) (tm qt cm ds dr : Int32) (ro : Nat → Int32) (B : Nat) : Prop :=
  ∃ (e sF2 sB2 sp2 ou2 : Int32) (ro2 : Nat → Int32),
    fX4_readText_39 (Int32.ofNat L) tx f sF sB (Int32.ofNat s) ou ro = some (e, sF2, sB2, sp2, ou2, ro2) ∧
    (e = -1 ∨ ∃ q : Nat, q ≤ 120 ∧ e = Int32.ofNat q) ∧
    (∀ (nu : Nat → Int32) (lt : Int32) (f : Nat), n < f → ∃ nu2 ta2 lt2, fX2_firstError_27 ch (Int32.ofNat L) f (Int32.ofNat v) nu (Int32.ofNat s) lt = some (e, nu2, ta2, lt2)) ∧
    (e = -1 → ∀ (nu : Nat → Int32) (lt pz : Int32) (us : Nat → Int32) (f : Nat), n < f → ∃ (nu2 : Nat → Int32) (ta2 lt2 : Int32) (b2 pF2 pL2 st2 : Nat → Int32) (tm2 qt2 cm2 ds2 dr2 : Int32), fX3_load_66 ch (Int32.ofNat L) f ou (Int32.ofNat v) nu (Int32.ofNat s) lt b pF pL st tm qt cm ds dr pz us = some (0, ou2, nu2, ta2, lt2, b2, pF2, pL2, st2, tm2, qt2, cm2, ds2, dr2, pz, us) ∧ ZD b2 pF2 pL2 st2 tm2 qt2 cm2 ds2 dr2 ro2 (B + 60 * n))
theorem rtext {ch tx : Nat → Int32} {L : Nat} (hL : L ≤ 120) (ht : zTxt ch tx L) : ∀ (n s v f : Nat) (sF sB ou : Int32) (b pF pL st : Nat → Int32) (tm qt cm ds dr : Int32) (ro : Nat → Int32) (B : Nat), L ≤ s + n → s ≤ L → n < f → v < s → ZD b pF pL st tm qt cm ds dr ro B → B + 60 * n + 200 < 2147483647 → RT ch tx L sF sB ou n s v f b pF pL st tm qt cm ds dr ro B := by
  intro n
  induction n with
  | zero =>
    intro s v f sF sB ou b pF pL st tm qt cm ds dr ro B h1 h2 hf hv h hB
    obtain ⟨f, rfl⟩ := zfuel hf
    obtain rfl : s = L := by omega
    refine ⟨-1, sF, sB, Int32.ofNat s, ou, ro, ?_, Or.inl rfl, fun nu lt f hf => ?_, fun _ nu lt pz us f hf => ?_⟩
    · rw [fX4_readText_39, if_pos ((zN_le (by omega) (by omega)).mpr (Nat.le_refl _))]
    · obtain ⟨f, rfl⟩ := zfuel hf
      rw [fX2_firstError_27, if_neg (show ¬ (120 : Int32) ≤ Int32.ofNat v from fun q => by have := (zN_le (a := 120) (by omega) (by omega)).mp q; omega), if_pos ((zN_le (by omega) (by omega)).mpr (Nat.le_refl _))]
      exact ⟨_, _, _, rfl⟩
    · obtain ⟨f, rfl⟩ := zfuel hf
      rw [fX3_load_66, if_neg (show ¬ (120 : Int32) ≤ Int32.ofNat v from fun q => by have := (zN_le (a := 120) (by omega) (by omega)).mp q; omega)]
      unfold fX2_readCommand
      rw [if_neg (fun q => Nat.lt_irrefl _ ((zN_lt (by omega) (by omega)).mp q)), ob4_some, if_pos rfl]
      exact ⟨_, _, _, _, _, _, _, _, _, _, _, _, rfl, h⟩
  | succ n ih =>
    intro s v f sF sB ou b pF pL st tm qt cm ds dr ro B h1 h2 hf hv h hB
    obtain ⟨f, rfl⟩ := zfuel hf
    have nv : ¬ (120 : Int32) ≤ Int32.ofNat v := fun q => by have := (zN_le (a := 120) (by omega) (by omega)).mp q; omega
    by_cases c : s = L
    · subst c
      refine ⟨-1, sF, sB, Int32.ofNat s, ou, ro, ?_, Or.inl rfl, fun nu lt f hf => ?_, fun _ nu lt pz us f hf => ?_⟩
      · rw [fX4_readText_39, if_pos ((zN_le (by omega) (by omega)).mpr (Nat.le_refl _))]
      · obtain ⟨f, rfl⟩ := zfuel hf
        rw [fX2_firstError_27, if_neg nv, if_pos ((zN_le (by omega) (by omega)).mpr (Nat.le_refl _))]
        exact ⟨_, _, _, rfl⟩
      · obtain ⟨f, rfl⟩ := zfuel hf
        rw [fX3_load_66, if_neg nv]
        unfold fX2_readCommand
        rw [if_neg (fun q => Nat.lt_irrefl _ ((zN_lt (by omega) (by omega)).mp q)), ob4_some, if_pos rfl]
        exact ⟨_, _, _, _, _, _, _, _, _, _, _, _, rfl, h.mono (by omega)⟩
    · have hs : s < L := by omega
      have nl : ¬ Int32.ofNat L ≤ Int32.ofNat s := fun q => by have := (zN_le (by omega) (by omega)).mp q; omega
      obtain ⟨t, p, sF2, sB2, ou2, ro2, dn, b2, pF2, pL2, st2, tm2, qt2, cm2, ds2, dr2, k1, k2, k3, k4, k5⟩ := rc_all (sF := sF) (sB := sB) (ou := ou) hL ht hs h (by omega)
      cases t
      · refine ⟨Int32.ofNat p, sF2, sB2, Int32.ofNat p, ou2, ro2, ?_, Or.inr ⟨p, by omega, rfl⟩, fun nu lt f hf => ?_, fun q => ?_⟩
        · rw [fX4_readText_39, if_neg nl, k3, ob6_some, if_pos (show bi false = 0 from rfl)]
        · obtain ⟨f, rfl⟩ := zfuel hf
          obtain ⟨nu2, lt2, e1, -⟩ := k4 nu lt
          rw [fX2_firstError_27, if_neg nv, if_neg nl, e1, ob4_some, if_pos (show bi false = 0 from rfl)]
          exact ⟨_, _, _, rfl⟩
        · exact absurd q (zN_m (by omega))
      · obtain ⟨k6, k7⟩ := k5 rfl
        have k2 := k2 rfl
        obtain ⟨e, sF3, sB3, sp3, ou3, ro3, g1, g2, g3, g4⟩ := ih p (v + 1) f sF2 sB2 ou2 b2 pF2 pL2 st2 tm2 qt2 cm2 ds2 dr2 ro2 (B + 60) (by omega) (by omega) (by omega) (by omega) k6 (by omega)
        refine ⟨e, sF3, sB3, sp3, ou3, ro3, ?_, g2, fun nu lt f hf => ?_, fun q nu lt pz us f hf => ?_⟩
        · rw [fX4_readText_39, if_neg nl, k3, ob6_some, if_neg (show ¬ bi true = 0 by decide)]
          exact g1
        · obtain ⟨f, rfl⟩ := zfuel hf
          obtain ⟨nu2, lt2, e1, -⟩ := k4 nu lt
          rw [fX2_firstError_27, if_neg nv, if_neg nl, e1, ob4_some, if_neg (show ¬ bi true = 0 by decide), zN_1]
          exact g3 nu2 lt2 f (by omega)
        · obtain ⟨f, rfl⟩ := zfuel hf
          obtain ⟨nu2, lt2, e1, e2⟩ := k4 nu lt
          obtain ⟨nu3, ta3, lt3, b3, pF3, pL3, st3, tm3, qt3, cm3, ds3, dr3, r1, r2⟩ := g4 q nu2 lt2 pz us f (by omega)
          refine ⟨nu3, ta3, lt3, b3, pF3, pL3, st3, tm3, qt3, cm3, ds3, dr3, ?_, r2.mono (by omega)⟩
          rw [fX3_load_66, if_neg nv, e1, ob4_some, if_neg (show ¬ bi true = 0 by decide), e2 rfl, ob10_some, zN_1, ← r1, k7]
          cases dn
          · rw [if_pos (show bi false = 0 from rfl), if_neg Bool.false_ne_true]
          · rw [if_neg (show ¬ bi true = 0 by decide), if_pos rfl]
/-! errorPosition, load -/
theorem rd_text {ch tx : Nat → Int32} {le sz : Int32} (h : ZTx ch le tx sz) (b pF pL st : Nat → Int32) (sF sB : Int32) (tr : Nat → Int32) : ∃ (e sF2 sB2 sp2 ou2 : Int32) (ro2 : Nat → Int32), fX4_readText sz sF sB tx tr = some (e, sF2, sB2, sp2, ou2, ro2) ∧ (e = -1 ∨ ∃ q : Nat, q ≤ 120 ∧ e = Int32.ofNat q) ∧
    (∀ (nu : Nat → Int32) (ta lt : Int32), ∃ nu2 ta2 lt2, fX2_firstError ch nu le ta lt = some (e, nu2, ta2, lt2)) ∧
    (e = -1 → ∃ b0 pF0 pL0 st0 : Nat → Int32, fX0_makeNew b pF pL st = some (b0, pF0, pL0, st0, 0, 0, 0, 0, 0) ∧ ∀ (nu : Nat → Int32) (lt pz : Int32) (us : Nat → Int32), ∃ (nu2 : Nat → Int32) (ta2 lt2 : Int32) (b2 pF2 pL2 st2 : Nat → Int32) (tm2 qt2 cm2 ds2 dr2 : Int32), fX3_load_66 ch le 1000 0 0 nu 1 lt b0 pF0 pL0 st0 0 0 0 0 0 pz us = some (0, ou2, nu2, ta2, lt2, b2, pF2, pL2, st2, tm2, qt2, cm2, ds2, dr2, pz, us) ∧ ZD b2 pF2 pL2 st2 tm2 qt2 cm2 ds2 dr2 ro2 7200) := by
  obtain ⟨L, hL, rfl, rfl, ht⟩ := h
  obtain ⟨b0, pF0, pL0, st0, r0, m1, m2, m3⟩ := op_new b pF pL st tr
  unfold fX4_readText fX2_firstError
  rw [m2, ob_some]
  by_cases c : L = 0
  · subst c
    rw [if_pos (show Int32.ofNat 0 = 0 from rfl)]
    refine ⟨0, sF, sB, 0, 0, r0, rfl, Or.inr ⟨0, by omega, rfl⟩, fun nu ta lt => ⟨nu, ta, lt, ?_⟩, fun q => absurd q (by decide)⟩
    rw [if_pos (show Int32.ofNat 0 = 0 from rfl)]
  · have n0 : ¬ Int32.ofNat L = 0 := fun q => c ((zN_inj (c := 0) (by omega) (by omega)).mp q)
    obtain ⟨k, hk, h1, h2⟩ := ht 0 (by omega)
    rw [if_neg n0, h2]
    by_cases d : Int32.ofNat k = 68
    · obtain ⟨e, sF2, sB2, sp2, ou2, ro2, g1, g2, g3, g4⟩ := rtext hL ht 119 1 0 1000 sF sB 0 b0 pF0 pL0 st0 0 0 0 0 0 r0 0 (by omega) (by omega) (by omega) (by omega) m3 (by omega)
      rw [if_pos d]
      refine ⟨e, sF2, sB2, sp2, ou2, ro2, g1, g2, fun nu ta lt => ?_, fun q => ⟨b0, pF0, pL0, st0, m1, fun nu lt pz us => ?_⟩⟩
      · rw [if_neg n0, h1, if_pos d]
        exact g3 nu lt 1000 (by omega)
      · obtain ⟨nu2, ta2, lt2, b2, pF2, pL2, st2, tm2, qt2, cm2, ds2, dr2, r1, r2⟩ := g4 q nu lt pz us 1000 (by omega)
        exact ⟨nu2, ta2, lt2, b2, pF2, pL2, st2, tm2, qt2, cm2, ds2, dr2, r1, r2.mono (by omega)⟩
    · rw [if_neg d]
      refine ⟨0, sF, sB, 0, 0, r0, rfl, Or.inr ⟨0, by omega, rfl⟩, fun nu ta lt => ⟨nu, ta, lt, ?_⟩, fun q => absurd q (by decide)⟩
      rw [if_neg n0, h1, if_neg d]
theorem st_errorPosition {ch tx : Nat → Int32} {le sz : Int32} (h : ZTx ch le tx sz) (nu : Nat → Int32) (ta lt sF sB : Int32) (tr : Nat → Int32) : ∃ (e : Int32) (nu2 : Nat → Int32) (ta2 lt2 sF2 sB2 sp2 ou2 : Int32) (tr2 : Nat → Int32), fX3_errorPosition ch nu le ta lt = some (e, nu2, ta2, lt2) ∧ fX4_errorPosition sz sF sB tx tr = some (e, 0, sF2, sB2, sp2, ou2, tr2) := by
  obtain ⟨e, sF2, sB2, sp2, ou2, ro2, g1, -, g3, -⟩ := rd_text h (fun _ => 0) (fun _ => 0) (fun _ => 0) (fun _ => 0) sF sB tr
  obtain ⟨nu2, ta2, lt2, k⟩ := g3 nu ta lt
  unfold fX3_errorPosition fX4_errorPosition
  rw [k, g1, ob4_some, ob6_some]
  exact ⟨e, nu2, ta2, lt2, sF2, sB2, sp2, ou2, ro2, rfl, rfl⟩
/-- the slots, in both words -/
def ZSl (us : Nat → Int32) (dS dT : zDv) (ik ke : Nat → Int32) (B : Nat) : Prop := us 0 = ik 0 ∧ us 1 = ik 1 ∧ (¬ us 0 = 0 → ZDt dS ke B) ∧ (¬ us 1 = 0 → ZDt dT (fun x => ke (785 + x)) B)
theorem ZSl.mono {us : Nat → Int32} {dS dT : zDv} {ik ke : Nat → Int32} {B B2 : Nat} (h : ZSl us dS dT ik ke B) (hB : B ≤ B2) : ZSl us dS dT ik ke B2 := ⟨h.1, h.2.1, fun q => (h.2.2.1 q).mono hB, fun q => (h.2.2.2 q).mono hB⟩
theorem zbo0 : vp_nar .boolean 0 = 0 := by decide
theorem zbo1 : vp_nar .boolean 1 = 1 := by decide
theorem load_37 (ch : Nat → Int32) (le : Int32) (nu : Nat → Int32) (ta lt : Int32) (b pF pL st : Nat → Int32) (tm qt cm ds dr pz : Int32) (us : Nat → Int32) : ∀ f, 2 < f → fX3_load_37 ch le f 0 nu ta lt b pF pL st tm qt cm ds dr pz us = fX3_load_66 ch le 1000 0 0 nu 1 lt b pF pL st tm qt cm ds dr pz (upd (upd us 0 0) 1 0) := by
  intro f hf
  obtain ⟨f, rfl⟩ : ∃ g, f = g + 3 := ⟨f - 3, by omega⟩
  generalize hR : fX3_load_66 ch le 1000 0 0 nu 1 lt b pF pL st tm qt cm ds dr pz (upd (upd us 0 0) 1 0) = R
  rw [fX3_load_37, if_neg (by decide), if_neg (by decide)]
  rw [fX3_load_37, if_neg (by decide), if_neg (by decide)]
  rw [fX3_load_37, if_pos (by decide), zbo0]
  rw [show (0 : Int32).toNatClampNeg = 0 from rfl, show ((0 : Int32) + 1).toNatClampNeg = 1 from rfl]
  unfold fX2_beginCommands
  rw [ob_some]
  exact hR
theorem st_load {ch tx : Nat → Int32} {le sz : Int32} (h : ZTx ch le tx sz) (nu : Nat → Int32) (ta lt sF sB : Int32) (tr : Nat → Int32) {b pF pL st : Nat → Int32} {tm qt cm ds dr ol pz : Int32} {dvs : Nat → zDv} {nw : Nat → Int32} {ac : Int32} {di : Nat → Int32} {B : Nat} (hA : ZA b pF pL st tm qt cm ds dr ol pz dvs nw ac di B) {us : Nat → Int32} {dS dT : zDv} {ik ke : Nat → Int32} (hS : ZSl us dS dT ik ke B) :
    ∃ (w w' : Nat) (a a' : Int32) (nu2 : Nat → Int32) (ta2 lt2 : Int32) (b2 pF2 pL2 st2 : Nat → Int32) (tm2 qt2 cm2 ds2 dr2 pz2 : Int32) (us2 : Nat → Int32) (ac2 sF2 sB2 sp2 ou2 : Int32) (nw2 tr2 ik2 : Nat → Int32),
      fX3_load ch nu le ta lt b pF pL st tm qt cm ds dr pz us = some (Int32.ofNat w, a, nu2, ta2, lt2, b2, pF2, pL2, st2, tm2, qt2, cm2, ds2, dr2, pz2, us2) ∧
      fX4_load sz ac sF sB tx nw tr ik = some (a', Int32.ofNat w', ac2, sF2, sB2, sp2, ou2, nw2, tr2, ik2) ∧ (w = 0 ∧ w' = 0 ∧ a = a' ∨ w = 3 ∧ w' = 1) ∧ ZA b2 pF2 pL2 st2 tm2 qt2 cm2 ds2 dr2 ol pz2 dvs nw2 ac2 di (B + 7200) ∧ ZSl us2 dS dT ik2 ke (B + 7200) := by
  obtain ⟨e, sF2, sB2, sp2, ou2, ro2, g1, g2, g3, g4⟩ := rd_text h b pF pL st sF sB tr
  obtain ⟨nu2, ta2, lt2, k⟩ := g3 nu ta lt
  unfold fX3_load fX4_load
  rw [k, g1, ob4_some, ob6_some]
  by_cases c : e = -1
  · obtain ⟨b0, pF0, pL0, st0, m1, m2⟩ := g4 c
    obtain ⟨nu3, ta3, lt3, b2, pF2, pL2, st2, tm2, qt2, cm2, ds2, dr2, r1, r2⟩ := m2 nu2 lt2 0 (upd (upd us 0 0) 1 0)
    rw [if_pos c, if_pos c, m1, ob9_some, ref0, ob2_some, if_pos rfl, mcopy0, ob_some]
    show ∃ _, _
    obtain ⟨O, P, p1, p2, p3, p4, p5, p6⟩ := hA.2
    refine ⟨0, 0, ou2, ou2, nu3, ta3, lt3, b2, pF2, pL2, st2, tm2, qt2, cm2, ds2, dr2, 0, upd (upd us 0 0) 1 0, 0, sF2, sB2, sp2, ou2, _, ro2, _, ?_, rfl, Or.inl ⟨rfl, rfl, rfl⟩, ⟨(r2.congr fun x hx => ?_).mono (by omega), O, 0, p1, by omega, p3, rfl, rfl, fun k hk => absurd hk (Nat.not_lt_zero _)⟩, ?_, ?_, fun q => absurd rfl q, fun q => absurd rfl q⟩
    · unfold fX1_forget
      rw [ob_some, load_37 _ _ _ _ _ _ _ _ _ _ _ _ _ _ _ _ 1000 (by omega)]
      rw [r1, show Int32.ofNat 0 = 0 from rfl]
    · exact zCopy0 _ _ hx
    · rw [zbo0]; rfl
    · rw [zbo0]; rfl
  · rw [if_neg c, if_neg c, ref1, ob2_some, if_neg n10]
    exact ⟨3, 1, 0, 0, nu2, ta2, lt2, b, pF, pL, st, tm, qt, cm, ds, dr, pz, us, ac, sF2, sB2, sp2, ou2, nw, ro2, ik, rfl, rfl, Or.inr ⟨rfl, rfl⟩, hA.mono (by omega), hS.mono (by omega)⟩
/-! save, restore -/
theorem slot_of (a1 : Int32) : (¬ (0 ≤ a1.toInt ∧ a1.toInt ≤ 1) ∧ fX3_checkSlot a1 = some 1) ∨ ((0 ≤ a1.toInt ∧ a1.toInt ≤ 1) ∧ fX3_checkSlot a1 = some 0 ∧ (a1 = 0 ∨ a1 = 1)) := by
  by_cases c : 0 ≤ a1.toInt ∧ a1.toInt ≤ 1
  · obtain ⟨e1, e2⟩ := zN_ofInt c.1
    have hk : a1.toInt.toNat = 0 ∨ a1.toInt.toNat = 1 := by omega
    rcases hk with hk | hk
    · rw [hk] at e1; subst e1; exact Or.inr ⟨by decide, rfl, Or.inl rfl⟩
    · rw [hk] at e1; subst e1; exact Or.inr ⟨by decide, rfl, Or.inr rfl⟩
  · refine Or.inl ⟨c, ?_⟩
    unfold fX3_checkSlot
    by_cases d : a1 < 0
    · rw [if_pos d]
    · rw [if_neg d, if_neg]
      intro q
      have h1 := int_le.mp (zNot_lt.mp d)
      rw [i0] at h1
      have h2 := Int32.lt_iff_toInt_lt.mp q
      rw [i2] at h2
      exact c ⟨h1, by omega⟩
theorem upd_0 (f : Nat → Int32) (v : Int32) : upd f 0 v 0 = v ∧ upd f 0 v 1 = f 1 := ⟨rfl, rfl⟩
theorem upd_1 (f : Nat → Int32) (v : Int32) : upd f 1 v 1 = v ∧ upd f 1 v 0 = f 0 := ⟨rfl, rfl⟩
theorem mcopyT (ra ke : Nat → Int32) : fX4_copyState 785 1570 ra ke 0 785 = some (zCopy ra ke 0 785) := mcopy ra ke (a := 0) (c := 785) (by omega) (by omega) (by omega) (by omega)
theorem mcopyS (ra ke : Nat → Int32) : fX4_copyState 785 1570 ra ke 0 0 = some (zCopy ra ke 0 0) := mcopy ra ke (a := 0) (c := 0) (by omega) (by omega) (by omega) (by omega)
theorem mbackT (ke nw : Nat → Int32) : fX4_copyState 1570 785 ke nw 785 0 = some (zCopy ke nw 785 0) := mcopy ke nw (a := 785) (c := 0) (by omega) (by omega) (by omega) (by omega)
theorem mbackS (ke nw : Nat → Int32) : fX4_copyState 1570 785 ke nw 0 0 = some (zCopy ke nw 0 0) := mcopy ke nw (a := 0) (c := 0) (by omega) (by omega) (by omega) (by omega)
theorem zCopyHi (ra rb : Nat → Int32) {x : Nat} (h : x < 785) : zCopy ra rb 0 785 (785 + x) = ra x := by
  unfold zCopy
  rw [if_pos (by omega), Nat.zero_add, Nat.add_sub_cancel_left]
theorem zCopyLo (ra rb : Nat → Int32) {x : Nat} (h : x < 785) : zCopy ra rb 0 785 x = rb x := by
  unfold zCopy
  rw [if_neg (by omega)]
theorem zCopyBk (ra rb : Nat → Int32) {x : Nat} (h : x < 785) : zCopy ra rb 785 0 x = ra (785 + x) := by
  unfold zCopy
  rw [if_pos (by omega), Nat.sub_zero]
theorem ZD.tm {b pF pL st : Nat → Int32} {tm qt cm ds dr : Int32} {r : Nat → Int32} {B : Nat} (h : ZD b pF pL st tm qt cm ds dr r B) : r 768 = tm := by
  obtain ⟨T, -, -, h, -⟩ := h
  exact h.2.2.2.1
theorem ZDt.congr {d : zDv} {r r2 : Nat → Int32} {B : Nat} (h : ZDt d r B) (e : ∀ x, x < 785 → r2 x = r x) : ZDt d r2 B := ZD.congr h e
theorem st_save {b pF pL st : Nat → Int32} {tm qt cm ds dr : Int32} {nw : Nat → Int32} {B : Nat} (hD : ZD b pF pL st tm qt cm ds dr nw B) {us bS pFS pLS stS : Nat → Int32} {tmS qtS cmS dsS drS : Int32} {bT pFT pLT stT : Nat → Int32} {tmT qtT cmT dsT drT : Int32} {ik ke : Nat → Int32} (hS : ZSl us (bS, pFS, pLS, stS, tmS, qtS, cmS, dsS, drS) (bT, pFT, pLT, stT, tmT, qtT, cmT, dsT, drT) ik ke B) (a1 : Int32) :
    ∃ (w : Nat) (a a' : Int32) (us2 bS2 pFS2 pLS2 stS2 : Nat → Int32) (tmS2 qtS2 cmS2 dsS2 drS2 : Int32) (bT2 pFT2 pLT2 stT2 : Nat → Int32) (tmT2 qtT2 cmT2 dsT2 drT2 : Int32) (ke2 ik2 : Nat → Int32),
      fX3_save b pF pL st tm qt cm ds dr us bS pFS pLS stS tmS qtS cmS dsS drS bT pFT pLT stT tmT qtT cmT dsT drT a1 = some (Int32.ofNat w, a, us2, bS2, pFS2, pLS2, stS2, tmS2, qtS2, cmS2, dsS2, drS2, bT2, pFT2, pLT2, stT2, tmT2, qtT2, cmT2, dsT2, drT2) ∧
      fX4_save nw ke ik a1 = some (a', Int32.ofNat w, ke2, ik2) ∧ w ≤ 1 ∧ (w = 0 → a = a') ∧ ZSl us2 (bS2, pFS2, pLS2, stS2, tmS2, qtS2, cmS2, dsS2, drS2) (bT2, pFT2, pLT2, stT2, tmT2, qtT2, cmT2, dsT2, drT2) ik2 ke2 B := by
  unfold fX3_save fX4_save
  rw [mi_in32, ob_some, show (0 : Int64).toInt = 0 from rfl, show (1 : Int64).toInt = 1 from rfl]
  rcases slot_of a1 with ⟨c, e⟩ | ⟨c, e, rfl | rfl⟩
  · rw [e, ob_some, if_neg n10, decide_eq_false c, if_pos (show bi false = 0 from rfl), ref1, ob2_some, if_neg n10]
    exact ⟨1, _, _, _, _, _, _, _, _, _, _, _, _, _, _, _, _, _, _, _, _, _, _, _, rfl, rfl, by omega, fun q => absurd q (by omega), hS⟩
  · rw [e, ob_some, if_pos rfl, if_pos rfl, decide_eq_true c, if_neg (show ¬ bi true = 0 by decide), ref0, ob2_some, if_pos rfl]
    unfold fX0_copyFrom fX0_time
    rw [ob9_some, if_neg (by decide), ob_some, show (785 : Int32) * 0 = 0 from rfl, mcopyS, ob_some, if_neg (by decide)]
    refine ⟨0, tm, nw 768, _, _, _, _, _, _, _, _, _, _, _, _, _, _, _, _, _, _, _, _, _, rfl, rfl, by omega, fun _ => hD.tm.symm, ?_, ?_, fun _ => ?_, fun q => ?_⟩
    · show upd us 0 _ 0 = upd ik 0 _ 0
      rw [(upd_0 us _).1, (upd_0 ik _).1]
    · show upd us 0 _ 1 = upd ik 0 _ 1
      rw [(upd_0 us _).2, (upd_0 ik _).2]; exact hS.2.1
    · exact ZD.congr (hD.copied _ _ _ _) fun x hx => zCopy0 _ _ hx
    · refine ZDt.congr (hS.2.2.2 q) fun x hx => ?_
      unfold zCopy
      rw [if_neg (by omega)]
  · rw [e, ob_some, if_pos rfl, if_neg n10, if_pos rfl, decide_eq_true c, if_neg (show ¬ bi true = 0 by decide), ref0, ob2_some, if_pos rfl]
    unfold fX0_copyFrom fX0_time
    rw [ob9_some, if_neg (by decide), ob_some, show (785 : Int32) * 1 = 785 from rfl, mcopyT, ob_some, if_neg (by decide)]
    refine ⟨0, tm, nw 768, _, _, _, _, _, _, _, _, _, _, _, _, _, _, _, _, _, _, _, _, _, rfl, rfl, by omega, fun _ => hD.tm.symm, ?_, ?_, fun q => ?_, fun _ => ?_⟩
    · show upd us 1 _ 0 = upd ik 1 _ 0
      rw [(upd_1 us _).2, (upd_1 ik _).2]; exact hS.1
    · show upd us 1 _ 1 = upd ik 1 _ 1
      rw [(upd_1 us _).1, (upd_1 ik _).1]
    · exact ZDt.congr (hS.2.2.1 q) fun x hx => zCopyLo _ _ hx
    · exact ZD.congr (hD.copied _ _ _ _) fun x hx => zCopyHi _ _ hx
theorem st_restore {b pF pL st : Nat → Int32} {tm qt cm ds dr ol pz : Int32} {dvs : Nat → zDv} {nw : Nat → Int32} {ac : Int32} {di : Nat → Int32} {B : Nat} (hA : ZA b pF pL st tm qt cm ds dr ol pz dvs nw ac di B) {us bS pFS pLS stS : Nat → Int32} {tmS qtS cmS dsS drS : Int32} {bT pFT pLT stT : Nat → Int32} {tmT qtT cmT dsT drT : Int32} {ik ke : Nat → Int32} (hS : ZSl us (bS, pFS, pLS, stS, tmS, qtS, cmS, dsS, drS) (bT, pFT, pLT, stT, tmT, qtT, cmT, dsT, drT) ik ke B) (a1 : Int32) :
    ∃ (w w' : Nat) (a a' : Int32) (b2 pF2 pL2 st2 : Nat → Int32) (tm2 qt2 cm2 ds2 dr2 pz2 ac2 : Int32) (nw2 : Nat → Int32),
      fX3_restore b pF pL st tm qt cm ds dr pz us bS pFS pLS stS tmS qtS cmS dsS drS bT pFT pLT stT tmT qtT cmT dsT drT a1 = some (Int32.ofNat w, a, b2, pF2, pL2, st2, tm2, qt2, cm2, ds2, dr2, pz2) ∧
      fX4_restore ac nw ke ik a1 = some (a', Int32.ofNat w', ac2, nw2) ∧ (w = 0 ∧ w' = 0 ∧ a = a' ∨ w = 1 ∧ w' = 1 ∨ w = 3 ∧ w' = 2) ∧ ZA b2 pF2 pL2 st2 tm2 qt2 cm2 ds2 dr2 ol pz2 dvs nw2 ac2 di B := by
  obtain ⟨O, P, p1, p2, p3, p4, p5, p6⟩ := hA.2
  have hP0 : ZPast ol 0 dvs 0 di B := ⟨O, 0, p1, by omega, p3, rfl, rfl, fun k hk => absurd hk (Nat.not_lt_zero _)⟩
  unfold fX3_restore fX4_restore
  rw [mi_in32, ob_some, show (0 : Int64).toInt = 0 from rfl, show (1 : Int64).toInt = 1 from rfl]
  rcases slot_of a1 with ⟨c, e⟩ | ⟨c, e, rfl | rfl⟩
  · rw [e, ob_some, if_neg n10, decide_eq_false c, if_pos (show bi false = 0 from rfl), ref1, ob2_some, if_neg n10]
    exact ⟨1, 1, _, _, _, _, _, _, _, _, _, _, _, _, _, _, rfl, rfl, Or.inr (Or.inl ⟨rfl, rfl⟩), hA⟩
  · rw [e, ob_some, if_pos rfl, if_neg (show ¬ ((0 : Int32) < 0 ∨ 2 ≤ (0 : Int32).toNatClampNeg) by decide), decide_eq_true c, if_neg (show ¬ bi true = 0 by decide), if_neg (show ¬ ((0 : Int32) < 0 ∨ 2 ≤ (0 : Int32).toNatClampNeg) by decide), show (0 : Int32).toNatClampNeg = 0 from rfl, ← hS.1]
    by_cases d : us 0 = 0
    · rw [if_pos d, if_pos d, ref2, ob2_some, if_neg n10]
      exact ⟨3, 2, _, _, _, _, _, _, _, _, _, _, _, _, _, _, rfl, rfl, Or.inr (Or.inr ⟨rfl, rfl⟩), hA⟩
    · rw [if_neg d, if_neg d, if_pos rfl, ref0, ob2_some, if_pos rfl]
      have hZ : ZD _ _ _ _ _ _ _ _ _ _ _ := hS.2.2.1 d
      unfold fX0_copyFrom fX0_time fX1_forget
      rw [ob9_some, ob_some, ob_some, show (785 : Int32) * 0 = 0 from rfl, mbackS, ob_some]
      have hZ2 := ZD.congr (ZD.copied hZ b pF pL st) (fun x hx => zCopy0 ke nw hx)
      exact ⟨0, 0, _, _, _, _, _, _, _, _, _, _, _, _, _, _, rfl, rfl, Or.inl ⟨rfl, rfl, hZ2.tm.symm⟩, hZ2, hP0⟩
  · rw [e, ob_some, if_pos rfl, if_neg (show ¬ ((1 : Int32) < 0 ∨ 2 ≤ (1 : Int32).toNatClampNeg) by decide), decide_eq_true c, if_neg (show ¬ bi true = 0 by decide), if_neg (show ¬ ((1 : Int32) < 0 ∨ 2 ≤ (1 : Int32).toNatClampNeg) by decide), show (1 : Int32).toNatClampNeg = 1 from rfl, ← hS.2.1]
    by_cases d : us 1 = 0
    · rw [if_pos d, if_pos d, ref2, ob2_some, if_neg n10]
      exact ⟨3, 2, _, _, _, _, _, _, _, _, _, _, _, _, _, _, rfl, rfl, Or.inr (Or.inr ⟨rfl, rfl⟩), hA⟩
    · rw [if_neg d, if_neg d, if_neg n10, if_pos rfl, ref0, ob2_some, if_pos rfl]
      have hZ : ZD _ _ _ _ _ _ _ _ _ _ _ := hS.2.2.2 d
      unfold fX0_copyFrom fX0_time fX1_forget
      rw [ob9_some, ob_some, ob_some, show (785 : Int32) * 1 = 785 from rfl, mbackT, ob_some]
      have hZ2 := ZD.congr (ZD.copied hZ b pF pL st) (fun x hx => zCopyBk ke nw hx)
      exact ⟨0, 0, _, _, _, _, _, _, _, _, _, _, _, _, _, _, rfl, rfl, Or.inl ⟨rfl, rfl, hZ2.tm.symm⟩, hZ2, hP0⟩
/-! moves that are made if they are allowed; simulate -/
theorem zN_div {a c : Nat} (ha : a < 2147483648) (hc : c < 2147483648) : Int32.ofNat a / Int32.ofNat c = Int32.ofNat (a / c) := (Int32.ofNat_div (by omega) (by omega)).symm
theorem zN_rem {a c : Nat} (ha : a < 2147483648) (hc : c < 2147483648) : irem (Int32.ofNat a) (Int32.ofNat c) = Int32.ofNat (a % c) := by
  show Int32.ofNat a - Int32.ofNat a / Int32.ofNat c * Int32.ofNat c = _
  rw [zN_div ha hc, zN_mul, zN_sub (Nat.div_mul_le_self a c)]
  congr 1
  have := Nat.div_add_mod a c
  rw [Nat.mul_comm] at this
  omega
section MV
variable {b pF pL st : Nat → Int32} {tm qt cm ds dr : Int32} {r : Nat → Int32} {B : Nat}
theorem mv_write (h : ZD b pF pL st tm qt cm ds dr r B) (x y : Int32) : ∃ w : Nat, fX4_whyNotSpan x y = some (Int32.ofNat w) ∧ (¬ Int32.ofNat w = 0 ∧ fX3_writeIfAllowed b qt dr x y = some (0, b, qt, dr) ∨ Int32.ofNat w = 0 ∧ ∃ (c : Nat) (b2 : Nat → Int32) (qt2 dr2 : Int32) (r2 : Nat → Int32), c ≤ 256 ∧ fX3_writeIfAllowed b qt dr x y = some (1, b2, qt2, dr2) ∧ fX4_writeOn r x y = some (Int32.ofNat c, r2) ∧ ZD b2 pF pL st tm qt2 cm ds dr2 r2 B) := by
  obtain ⟨w, hw, e1, -, e3, e4⟩ := span x y
  refine ⟨w, e1, ?_⟩
  unfold fX3_writeIfAllowed
  rw [e3, ob_some]
  by_cases c : w = 0
  · subst c
    obtain ⟨s, m, rfl, rfl, z3, z4, z5⟩ := e4 rfl
    obtain ⟨T, t1, rfl, t2, t3, t4, t5⟩ := h
    obtain ⟨cc, b2, dr2, r2, k0, k1, k2, k3, k4⟩ := op_write t2 t3 z5
    rw [decide_eq_true rfl, if_neg (show ¬ bi true = 0 by decide), k1, ob4_some]
    exact Or.inr ⟨rfl, cc, b2, _, dr2, r2, k0, rfl, k2, T, t1, rfl, k3, k4, t4, t5⟩
  · rw [decide_eq_false c, if_pos (show bi false = 0 from rfl)]
    exact Or.inl ⟨fun q => c ((zN_inj (c := 0) (by omega) (by omega)).mp q), rfl⟩
theorem mv_free (h : ZD b pF pL st tm qt cm ds dr r B) (hB : B < 2147483647) (x y : Int32) : ∃ w : Nat, fX4_whyNotSpan x y = some (Int32.ofNat w) ∧ (¬ Int32.ofNat w = 0 ∧ fX3_freeIfAllowed b tm qt dr x y = some (0, b, qt, dr) ∨ Int32.ofNat w = 0 ∧ ∃ (c : Nat) (b2 : Nat → Int32) (qt2 dr2 : Int32) (r2 : Nat → Int32), c ≤ 256 ∧ fX3_freeIfAllowed b tm qt dr x y = some (1, b2, qt2, dr2) ∧ fX4_freeOn r x y = some (Int32.ofNat c, r2) ∧ ZD b2 pF pL st tm qt2 cm ds dr2 r2 B) := by
  obtain ⟨w, hw, e1, -, e3, e4⟩ := span x y
  refine ⟨w, e1, ?_⟩
  unfold fX3_freeIfAllowed
  rw [e3, ob_some]
  by_cases c : w = 0
  · subst c
    obtain ⟨s, m, rfl, rfl, z3, z4, z5⟩ := e4 rfl
    obtain ⟨T, t1, rfl, t2, t3, t4, t5⟩ := h
    obtain ⟨cc, b2, dr2, r2, k0, k1, k2, k3, k4⟩ := op_free t2 t3 ((zN_lt (a := T) (c := 2147483647) (by omega) (by omega)).mpr (by omega)) z5
    rw [decide_eq_true rfl, if_neg (show ¬ bi true = 0 by decide), k1, ob4_some]
    exact Or.inr ⟨rfl, cc, b2, _, dr2, r2, k0, rfl, k2, T, t1, rfl, k3, k4, t4, t5⟩
  · rw [decide_eq_false c, if_pos (show bi false = 0 from rfl)]
    exact Or.inl ⟨fun q => c ((zN_inj (c := 0) (by omega) (by omega)).mp q), rfl⟩
theorem mv_pin (h : ZD b pF pL st tm qt cm ds dr r B) {k : Nat} (hk : k < 3) (x y : Int32) : ∃ w : Nat, fX4_whyNotSpan x y = some (Int32.ofNat w) ∧ (¬ Int32.ofNat w = 0 ∧ fX3_pinIfAllowed pF pL (Int32.ofNat k) x y = some (0, pF, pL) ∨ Int32.ofNat w = 0 ∧ ∃ (c : Nat) (pF2 pL2 r2 : Nat → Int32), c ≤ 256 ∧ fX3_pinIfAllowed pF pL (Int32.ofNat k) x y = some (1, pF2, pL2) ∧ fX4_pinOn r (Int32.ofNat k) x y = some (Int32.ofNat c, r2) ∧ ZD b pF2 pL2 st tm qt cm ds dr r2 B) := by
  obtain ⟨w, hw, e1, -, e3, e4⟩ := span x y
  refine ⟨w, e1, ?_⟩
  unfold fX3_pinIfAllowed
  rw [cx_isPin, zN_toInt (by omega), decide_eq_true (show 0 ≤ ((k : Nat) : Int) ∧ ((k : Nat) : Int) ≤ 2 by omega), ob_some, if_neg (show ¬ bi true = 0 by decide), e3, ob_some]
  by_cases c : w = 0
  · subst c
    obtain ⟨s, m, rfl, rfl, z3, z4, z5⟩ := e4 rfl
    obtain ⟨cc, r2, k0, k1, -, k2, k3⟩ := op_pin h hk z5
    rw [decide_eq_true rfl, if_neg (show ¬ bi true = 0 by decide), k1, ob2_some]
    exact Or.inr ⟨rfl, cc, _, _, r2, k0, rfl, k2, k3⟩
  · rw [decide_eq_false c, if_pos (show bi false = 0 from rfl)]
    exact Or.inl ⟨fun q => c ((zN_inj (c := 0) (by omega) (by omega)).mp q), rfl⟩
theorem mv_run (h : ZD b pF pL st tm qt cm ds dr r B) {N : Nat} (hN : N ≤ 60) (hB : B + 60 < 2147483647) (sF sB : Int32) : ∃ (D : Nat) (b2 : Nat → Int32) (tm2 qt2 cm2 ds2 dr2 : Int32) (r2 : Nat → Int32) (sF2 sB2 : Int32), D ≤ 1024000 ∧ fX0_passTicks b pF pL st tm qt cm ds dr (Int32.ofNat N) = some (Int32.ofNat D, b2, tm2, qt2, cm2, ds2, dr2) ∧ fX4_runOn sF sB r (Int32.ofNat N) = some (Int32.ofNat D, sF2, sB2, r2) ∧ ZD b2 pF pL st tm2 qt2 cm2 ds2 dr2 r2 (B + 60) := by
  obtain ⟨T, t1, rfl, t2, t3, t4, t5⟩ := h
  obtain ⟨b2, qt2, cm2, D, dr2, r2, sF2, sB2, a0, a1, a2, a3, a4, -⟩ := op_run t4 t5 (N := N) (by omega) (by omega) sF sB t2 t3
  exact ⟨D, b2, _, qt2, cm2, _, dr2, r2, sF2, sB2, a0, a1, a2, T + N, by omega, rfl, a3, a4, t4, t5⟩
end MV
section SIM
variable {b pF pL st : Nat → Int32} {tm qt cm ds dr : Int32} {r : Nat → Int32} {B : Nat}
theorem nofne {a c : Nat} (ha : a < 2147483648) (hc : c < 2147483648) (h : a ≠ c) : ¬ Int32.ofNat a = Int32.ofNat c := fun q => h ((zN_inj ha hc).mp q)
theorem turn_ (h : ZD b pF pL st tm qt cm ds dr r B) (hB : B + 60 < 2147483647) {k : Nat} (hk : k < 2147483648) (sF sB : Int32) : ∃ (b2 pF2 pL2 : Nat → Int32) (tm2 qt2 cm2 ds2 dr2 : Int32) (r2 : Nat → Int32) (sF2 sB2 : Int32), fX3_takeTurn b pF pL st tm qt cm ds dr (Int32.ofNat k) = some (b2, pF2, pL2, tm2, qt2, cm2, ds2, dr2) ∧ fX4_turn sF sB r (Int32.ofNat k) = some (sF2, sB2, r2) ∧ ZD b2 pF2 pL2 st tm2 qt2 cm2 ds2 dr2 r2 (B + 60) := by
  have i8 : irem (Int32.ofNat k) 8 = Int32.ofNat (k % 8) := zN_rem (c := 8) hk (by omega)
  have d8 : Int32.ofNat k / 8 = Int32.ofNat (k / 8) := zN_div (c := 8) hk (by omega)
  have d32 : Int32.ofNat k / 32 = Int32.ofNat (k / 32) := zN_div (c := 32) hk (by omega)
  have d2048 : Int32.ofNat k / 2048 = Int32.ofNat (k / 2048) := zN_div (c := 2048) hk (by omega)
  have d8192 : Int32.ofNat k / 8192 = Int32.ofNat (k / 8192) := zN_div (c := 8192) hk (by omega)
  have ge2 : (2 : Int32) ≤ Int32.ofNat (k % 8) ↔ 2 ≤ k % 8 := zN_le (a := 2) (by omega) (by omega)
  have ge5 : (5 : Int32) ≤ Int32.ofNat (k % 8) ↔ 5 ≤ k % 8 := zN_le (a := 5) (by omega) (by omega)
  have ne : ∀ c : Nat, c < 8 → k % 8 ≠ c → ¬ Int32.ofNat (k % 8) = Int32.ofNat c := fun c hc h => nofne (by omega) (by omega) h
  unfold fX3_takeTurn fX4_turn
  rw [i8]
  by_cases c2 : 2 ≤ k % 8
  · rw [if_pos (ge2.mpr c2), if_neg (show ¬ Int32.ofNat (k % 8) = 0 from ne 0 (by omega) (by omega)), if_neg (show ¬ Int32.ofNat (k % 8) = 1 from ne 1 (by omega) (by omega))]
    by_cases c5 : 5 ≤ k % 8
    · rw [if_pos (ge5.mpr c5), if_neg (show ¬ Int32.ofNat (k % 8) = 2 from ne 2 (by omega) (by omega)), if_neg (show ¬ Int32.ofNat (k % 8) = 3 from ne 3 (by omega) (by omega)), if_neg (show ¬ Int32.ofNat (k % 8) = 4 from ne 4 (by omega) (by omega))]
      by_cases c : k % 8 = 5
      · rw [c, if_pos (show Int32.ofNat 5 = 5 from rfl), if_pos (show Int32.ofNat 5 = 5 from rfl), d8, d32, d8192, show irem (Int32.ofNat (k / 8)) 3 = Int32.ofNat (k / 8 % 3) from zN_rem (c := 3) (by omega) (by omega)]
        obtain ⟨w, e1, ⟨e2, e3⟩ | ⟨e2, cc, pF2, pL2, r2, g0, g1, g2, g3⟩⟩ := mv_pin h (k := k / 8 % 3) (by omega) (irem (Int32.ofNat (k / 32)) 256) (1 + irem (Int32.ofNat (k / 8192)) 9)
        · rw [e1, e3, ob_some, ob3_some, if_neg e2]
          exact ⟨_, _, _, _, _, _, _, _, _, _, _, rfl, rfl, h.mono (by omega)⟩
        · rw [e1, g1, ob_some, ob3_some, if_pos e2, g2, ob2_some]
          exact ⟨_, _, _, _, _, _, _, _, _, _, _, rfl, rfl, g3.mono (by omega)⟩
      · have n5 : ¬ Int32.ofNat (k % 8) = 5 := ne 5 (by omega) c
        rw [if_neg n5, if_neg n5, d8, show irem (Int32.ofNat (k / 8)) 8 = Int32.ofNat (k / 8 % 8) from zN_rem (c := 8) (by omega) (by omega), show (1 : Int32) + Int32.ofNat (k / 8 % 8) = Int32.ofNat (1 + k / 8 % 8) from zN_add 1 _]
        obtain ⟨D, b2, tm2, qt2, cm2, ds2, dr2, r2, sF2, sB2, g0, g1, g2, g3⟩ := mv_run h (N := 1 + k / 8 % 8) (by omega) hB sF sB
        rw [g1, g2, ob7_some, ob4_some]
        exact ⟨_, _, _, _, _, _, _, _, _, _, _, rfl, rfl, g3⟩
    · rw [if_neg (fun q => c5 (ge5.mp q))]
      obtain ⟨w, e1, ⟨e2, e3⟩ | ⟨e2, cc, b2, qt2, dr2, r2, g0, g1, g2, g3⟩⟩ := mv_free h (by omega) (irem (Int32.ofNat k / 8) 256) (1 + irem (Int32.ofNat k / 2048) 40)
      · rw [e1, e3, ob_some, ob4_some, if_neg e2]
        refine ⟨b, pF, pL, tm, qt, cm, ds, dr, r, sF, sB, ?_, rfl, h.mono (by omega)⟩
        by_cases q2 : Int32.ofNat (k % 8) = 2
        · rw [if_pos q2]
        · rw [if_neg q2]
          by_cases q3 : Int32.ofNat (k % 8) = 3
          · rw [if_pos q3]
          · rw [if_neg q3, if_pos (show Int32.ofNat (k % 8) = 4 by
              have a : k % 8 ≠ 2 := fun q => q2 (by rw [q]; rfl)
              have a : k % 8 ≠ 3 := fun q => q3 (by rw [q]; rfl)
              rw [show k % 8 = 4 by omega]; rfl)]
      · rw [e1, g1, ob_some, ob4_some, if_pos e2, g2, ob2_some]
        refine ⟨b2, pF, pL, tm, qt2, cm, ds, dr2, r2, sF, sB, ?_, rfl, g3.mono (by omega)⟩
        by_cases q2 : Int32.ofNat (k % 8) = 2
        · rw [if_pos q2]
        · rw [if_neg q2]
          by_cases q3 : Int32.ofNat (k % 8) = 3
          · rw [if_pos q3]
          · rw [if_neg q3, if_pos (show Int32.ofNat (k % 8) = 4 by
              have a : k % 8 ≠ 2 := fun q => q2 (by rw [q]; rfl)
              have a : k % 8 ≠ 3 := fun q => q3 (by rw [q]; rfl)
              rw [show k % 8 = 4 by omega]; rfl)]
  · rw [if_neg (fun q => c2 (ge2.mp q))]
    obtain ⟨w, e1, ⟨e2, e3⟩ | ⟨e2, cc, b2, qt2, dr2, r2, g0, g1, g2, g3⟩⟩ := mv_write h (irem (Int32.ofNat k / 8) 256) (1 + irem (Int32.ofNat k / 2048) 40)
    · rw [e1, e3, ob_some, ob4_some, if_neg e2]
      refine ⟨b, pF, pL, tm, qt, cm, ds, dr, r, sF, sB, ?_, rfl, h.mono (by omega)⟩
      by_cases q2 : Int32.ofNat (k % 8) = 0
      · rw [if_pos q2]
      · rw [if_neg q2, if_pos (show Int32.ofNat (k % 8) = 1 by
            have a : k % 8 ≠ 0 := fun q => q2 (by rw [q]; rfl)
            rw [show k % 8 = 1 by omega]; rfl)]
    · rw [e1, g1, ob_some, ob4_some, if_pos e2, g2, ob2_some]
      refine ⟨b2, pF, pL, tm, qt2, cm, ds, dr2, r2, sF, sB, ?_, rfl, g3.mono (by omega)⟩
      by_cases q2 : Int32.ofNat (k % 8) = 0
      · rw [if_pos q2]
      · rw [if_neg q2, if_pos (show Int32.ofNat (k % 8) = 1 by
            have a : k % 8 ≠ 0 := fun q => q2 (by rw [q]; rfl)
            rw [show k % 8 = 1 by omega]; rfl)]
theorem zsh33 : ((33 : Int32).toInt64.toUInt64 &&& Int64.toUInt64 63) = 33 := by decide
theorem seed_ (x : UInt64) : ∃ k : Nat, k < 2147483648 ∧ ((x >>> ((33 : Int32).toInt64.toUInt64 &&& Int64.toUInt64 63)).toInt64).toInt32 = Int32.ofNat k := by
  rw [zsh33]
  have h : (x >>> 33).toNat < 2147483648 := by
    rw [UInt64.toNat_shiftRight, Nat.shiftRight_eq_div_pow]
    have := x.toNat_lt
    show x.toNat / 2 ^ 33 < _
    omega
  refine ⟨(x >>> 33).toNat, h, ?_⟩
  rw [← UInt64.ofNat_toNat (x := x >>> 33), UInt64.toInt64_ofNat', Int64.toInt32_ofNat', UInt64.ofNat_toNat]
end SIM
/-! simulate -/
theorem ob8_some {α β β2 β3 β4 β5 β6 β7 γ : Type} (x0 : α) (x1 : β) (x2 : β2) (x3 : β3) (x4 : β4) (x5 : β5) (x6 : β6) (x7 : β7) (k : α → β → β2 → β3 → β4 → β5 → β6 → β7 → Option γ) : ob8 (some (x0, x1, x2, x3, x4, x5, x6, x7)) k = k x0 x1 x2 x3 x4 x5 x6 x7 := rfl
theorem ZD.dsc {b pF pL st : Nat → Int32} {tm qt cm ds dr : Int32} {r : Nat → Int32} {B : Nat} (h : ZD b pF pL st tm qt cm ds dr r B) : r 771 = ds := by
  obtain ⟨T, -, -, h, -⟩ := h
  exact h.2.2.2.2.2.2.1
theorem ZD.queued {b pF pL st : Nat → Int32} {tm qt cm ds dr : Int32} {r : Nat → Int32} {B : Nat} (h : ZD b pF pL st tm qt cm ds dr r B) : ∃ c : Nat, c ≤ 256 ∧ fX0_countQueued b = some (Int32.ofNat c) ∧ fX4_queuedBlocks r = some (Int32.ofNat c) := by
  obtain ⟨T, -, -, h, -⟩ := h
  exact ⟨_, cn_le _ _, fx_countQueued b, mqueued (RB.q h.1)⟩
theorem ZD.rangesN {b pF pL st : Nat → Int32} {tm qt cm ds dr : Int32} {r : Nat → Int32} {B : Nat} (h : ZD b pF pL st tm qt cm ds dr r B) : ∃ c : Nat, c ≤ 256 ∧ fX0_countRanges b = some (Int32.ofNat c) ∧ fX4_ranges r = some (Int32.ofNat c) := by
  obtain ⟨T, -, -, h, -⟩ := h
  exact ⟨_, cn_le _ _, fx_countRanges b, mranges (RB.q h.1)⟩
section SIM
theorem sim_39 (ds0 : Int32) {nw : Nat → Int32} (hn : nw 771 = ds0) (rf : Int32) {N : Nat} (hN : N ≤ 60) : ∀ (n v f g : Nat) (x : Int64) (b pF pL st : Nat → Int32) (tm qt cm ds dr : Int32) (r : Nat → Int32) (sF sB : Int32) (B : Nat), v + n = N → n < f → n < g → ZD b pF pL st tm qt cm ds dr r B → B + 60 * n + 100 < 2147483647 →
    ∃ (a : Int32) (b2 pF2 pL2 st2 : Nat → Int32) (tm2 qt2 cm2 ds2 dr2 : Int32) (r2 : Nat → Int32) (sF2 sB2 : Int32), fX3_simulate_39 ds0 f (Int32.ofNat N) x (Int32.ofNat v) b pF pL st tm qt cm ds dr = some (0, a, b2, pF2, pL2, st2, tm2, qt2, cm2, ds2, dr2) ∧ fX4_simulate_45 nw g (Int32.ofNat N) x (Int32.ofNat v) rf sF sB r = some (a, rf, sF2, sB2, r2) := by
  intro n
  induction n with
  | zero =>
    intro v f g x b pF pL st tm qt cm ds dr r sF sB B h1 hf hg h hB
    obtain ⟨f, rfl⟩ := zfuel hf
    obtain ⟨g, rfl⟩ := zfuel hg
    obtain rfl : v = N := by omega
    obtain ⟨c, c1, c2, c3⟩ := h.queued
    unfold fX3_simulate_39 fX4_simulate_45 fX0_discarded
    rw [if_pos ((zN_le (by omega) (by omega)).mpr (Nat.le_refl _)), if_pos ((zN_le (by omega) (by omega)).mpr (Nat.le_refl _)), ob_some, ob_some, c2, c3, ob_some, ob_some, h.dsc, hn]
    exact ⟨_, _, _, _, _, _, _, _, _, _, _, _, _, rfl, rfl⟩
  | succ n ih =>
    intro v f g x b pF pL st tm qt cm ds dr r sF sB B h1 hf hg h hB
    obtain ⟨f, rfl⟩ := zfuel hf
    obtain ⟨g, rfl⟩ := zfuel hg
    have nl : ¬ Int32.ofNat N ≤ Int32.ofNat v := fun q => by have := (zN_le (by omega) (by omega)).mp q; omega
    unfold fX3_simulate_39 fX4_simulate_45
    rw [if_neg nl, if_neg nl]
    obtain ⟨k, hk, e⟩ := seed_ ((x * (6364136223846793005)) + (1442695040888963407)).toUInt64
    rw [e, zN_1]
    obtain ⟨b2, pF2, pL2, tm2, qt2, cm2, ds2, dr2, r2, sF2, sB2, g1, g2, g3⟩ := turn_ h (by omega) hk sF sB
    rw [g1, g2, ob8_some, ob3_some]
    exact ih (v + 1) f g _ b2 pF2 pL2 st tm2 qt2 cm2 ds2 dr2 r2 sF2 sB2 (B + 60) (by omega) (by omega) (by omega) g3 (by omega)
theorem st_simulate {b pF pL st : Nat → Int32} {tm qt cm ds dr : Int32} {nw : Nat → Int32} {B : Nat} (h : ZD b pF pL st tm qt cm ds dr nw B) (hB : B + 4000 < 2147483647) (bC pFC pLC stC : Nat → Int32) (tmC qtC cmC dsC drC : Int32) (sF sB : Int32) (tr : Nat → Int32) (a1 : Int64) (a3 : Int32) :
    ∃ (w w' : Nat) (a a' : Int32) (bC2 pFC2 pLC2 stC2 : Nat → Int32) (tmC2 qtC2 cmC2 dsC2 drC2 : Int32) (sF2 sB2 : Int32) (tr2 : Nat → Int32), fX3_simulate b pF pL st tm qt cm ds dr bC pFC pLC stC tmC qtC cmC dsC drC a1 a3 = some (Int32.ofNat w, a, bC2, pFC2, pLC2, stC2, tmC2, qtC2, cmC2, dsC2, drC2) ∧ fX4_simulate sF sB nw tr a1 a3 = some (a', Int32.ofNat w', sF2, sB2, tr2) ∧ (w = 0 ∧ w' = 0 ∧ a = a' ∨ w = 2 ∧ w' = 1) := by
  unfold fX3_simulate fX4_simulate
  rw [mi_in32, ob_some, show (1 : Int64).toInt = 1 from rfl, show (60 : Int64).toInt = 60 from rfl]
  by_cases c : 1 ≤ a3.toInt ∧ a3.toInt ≤ 60
  · rw [decide_eq_true c, if_neg (show ¬ bi true = 0 by decide), ref0, ob2_some, if_pos rfl, mcopy0, ob_some]
    obtain ⟨e1, e2⟩ := zN_ofInt (x := a3) (by omega)
    have hk : a3.toInt.toNat ≤ 60 ∧ 1 ≤ a3.toInt.toNat := by omega
    generalize a3.toInt.toNat = k at e1 hk e2
    subst e1
    rw [if_neg (show ¬ Int32.ofNat k < 1 from fun q => by have := (zN_lt (c := 1) (by omega) (by omega)).mp q; omega), if_pos (show Int32.ofNat k ≤ 60 from (zN_le (c := 60) (by omega) (by omega)).mpr (by omega))]
    unfold fX0_copyFrom
    rw [ob9_some]
    have hZ := ZD.congr (h.copied bC pFC pLC stC) (fun x hx => zCopy0 nw tr hx)
    obtain ⟨a, b2, pF2, pL2, st2, tm2, qt2, cm2, ds2, dr2, r2, sF2, sB2, g1, g2⟩ := sim_39 ds h.dsc 0 hk.1 k 0 1000 1000 a1 _ _ _ _ _ _ _ _ _ _ sF sB B (by omega) (by omega) (by omega) hZ (by omega)
    refine ⟨0, 0, a, a, b2, pF2, pL2, st2, tm2, qt2, cm2, ds2, dr2, sF2, sB2, r2, ?_, ?_, Or.inl ⟨rfl, rfl, rfl⟩⟩
    · rw [show Int32.ofNat 0 = 0 from rfl] at g1 ⊢
      rw [g1]
    · rw [show Int32.ofNat 0 = 0 from rfl] at g2 ⊢
      rw [g2]
  · rw [decide_eq_false c, if_pos (show bi false = 0 from rfl), ref1, ob2_some, if_neg n10]
    by_cases d : a3 < 1
    · rw [if_pos d]
      exact ⟨2, 1, _, _, _, _, _, _, _, _, _, _, _, _, _, _, rfl, rfl, Or.inr ⟨rfl, rfl⟩⟩
    · rw [if_neg d, if_neg (show ¬ a3 ≤ 60 from fun q => by
        have h1 := int_le.mp q
        rw [i60] at h1
        have h2 := int_le.mp (zNot_lt.mp d)
        rw [i1] at h2
        exact c ⟨h2, h1⟩)]
      exact ⟨2, 1, _, _, _, _, _, _, _, _, _, _, _, _, _, _, rfl, rfl, Or.inr ⟨rfl, rfl⟩⟩
end SIM
