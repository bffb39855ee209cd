/-! one command of a script -/
section CMD
variable {b pF pL st : Nat → Int32} {tm qt cm ds dr : Int32} {r : Nat → Int32} {B : Nat}
/-- a command of a script, in both words -/
def CD (b pF pL st : Nat → Int32) (tm qt cm ds dr : Int32) (r : Nat → Int32) (B : Nat) (sF sB a1 x y : Int32) : Prop :=
  ∃ (t : Bool) (b2 st2 : Nat → Int32) (tm2 qt2 cm2 ds2 dr2 : Int32) (r2 : Nat → Int32) (sF2 sB2 : Int32), fX3_doScriptCommand b pF pL st tm qt cm ds dr a1 = some (bi t, b2, st2, tm2, qt2, cm2, ds2, dr2) ∧ fX4_command sF sB r x y = some (bi t, sF2, sB2, r2) ∧ ZD b2 pF pL st2 tm2 qt2 cm2 ds2 dr2 r2 (B + 60)
theorem no_cmd {sF sB a1 x y : Int32} (h : ZD b pF pL st tm qt cm ds dr r B) (h1 : fX3_doScriptCommand b pF pL st tm qt cm ds dr a1 = some (0, b, st, tm, qt, cm, ds, dr)) (h2 : fX4_command sF sB r x y = some (0, sF, sB, r)) : CD b pF pL st tm qt cm ds dr r B sF sB a1 x y :=
  ⟨false, b, st, tm, qt, cm, ds, dr, r, sF, sB, h1, h2, h.mono (by omega)⟩
theorem yes_cmd {sF sB a1 x y : Int32} (h : ZD b pF pL st tm qt cm ds dr r B) (h1 : fX3_doScriptCommand b pF pL st tm qt cm ds dr a1 = some (1, b, st, tm, qt, cm, ds, dr)) (h2 : fX4_command sF sB r x y = some (1, sF, sB, r)) : CD b pF pL st tm qt cm ds dr r B sF sB a1 x y :=
  ⟨true, b, st, tm, qt, cm, ds, dr, r, sF, sB, h1, h2, h.mono (by omega)⟩
theorem bo1 : ¬ ¬ ((1 : Int32) &&& 1 = 1) := by decide
theorem bo0 : ¬ ¬ ((0 : Int32) &&& 1 = 0) := by decide

theorem cd_1 {a1 y : Int32} (h : ZD b pF pL st tm qt cm ds dr r B) (sF sB : Int32) (hx : a1 / (100000) = 1) (hy : irem a1 (100000) = y) : CD b pF pL st tm qt cm ds dr r B sF sB a1 1 y := by
  unfold CD fX3_doScriptCommand fX4_command
  rw [hx, hy, if_pos (show (1 : Int32) = 1 from rfl), if_pos (show (1 : Int32) = 1 from rfl)]
  obtain ⟨w, e1, ⟨e2, e3⟩ | ⟨e2, cc, b2, qt2, dr2, r2, g0, g1, g2, g3⟩⟩ := mv_write h (y / 100) (irem y 100)
  · rw [e1, e3, ob_some, ob4_some, if_neg e2, if_neg bo0]
    exact ⟨false, _, _, _, _, _, _, _, _, _, _, rfl, rfl, h.mono (by omega)⟩
  · rw [e1, g1, ob_some, ob4_some, if_pos e2, g2, ob2_some, if_neg bo1, if_neg (zN_neg (by omega))]
    exact ⟨true, _, _, _, _, _, _, _, _, _, _, rfl, rfl, g3.mono (by omega)⟩

theorem cd_2 {a1 y : Int32} (h : ZD b pF pL st tm qt cm ds dr r B) (sF sB : Int32) (hB : B + 60 < 2147483647) (hx : a1 / (100000) = 2) (hy : irem a1 (100000) = y) : CD b pF pL st tm qt cm ds dr r B sF sB a1 2 y := by
  unfold CD fX3_doScriptCommand fX4_command
  rw [hx, hy, if_neg (show ¬ (2 : Int32) = 1 by decide), if_pos (show (2 : Int32) = 2 from rfl), if_neg (show ¬ (2 : Int32) = 1 by decide), if_pos (show (2 : Int32) = 2 from rfl)]
  obtain ⟨w, e1, ⟨e2, e3⟩ | ⟨e2, cc, b2, qt2, dr2, r2, g0, g1, g2, g3⟩⟩ := mv_free h (by omega) (y / 100) (irem y 100)
  · rw [e1, e3, ob_some, ob4_some, if_neg e2, if_neg bo0]
    exact ⟨false, _, _, _, _, _, _, _, _, _, _, rfl, rfl, h.mono (by omega)⟩
  · rw [e1, g1, ob_some, ob4_some, if_pos e2, g2, ob2_some, if_neg bo1, if_neg (zN_neg (by omega))]
    exact ⟨true, _, _, _, _, _, _, _, _, _, _, rfl, rfl, g3.mono (by omega)⟩

theorem cd_3 {a1 y : Int32} (h : ZD b pF pL st tm qt cm ds dr r B) (sF sB : Int32) (hB : B + 60 < 2147483647) (hx : a1 / (100000) = 3) (hy : irem a1 (100000) = y) : CD b pF pL st tm qt cm ds dr r B sF sB a1 3 y := by
  unfold CD fX3_doScriptCommand fX4_command
  rw [hx, hy, if_neg (show ¬ (3 : Int32) = 1 by decide), if_neg (show ¬ (3 : Int32) = 2 by decide), if_pos (show (3 : Int32) = 3 from rfl), if_neg (show ¬ (3 : Int32) = 1 by decide), if_neg (show ¬ (3 : Int32) = 2 by decide), if_pos (show (3 : Int32) = 3 from rfl)]
  rw [mi_in32, cx_isTicks, ob_some, ob_some, show (1 : Int64).toInt = 1 from rfl, show (60 : Int64).toInt = 60 from rfl, i60]
  by_cases c : 1 ≤ y.toInt ∧ y.toInt ≤ 60
  · rw [decide_eq_true c, if_neg (show ¬ bi true = 0 by decide), if_neg (show ¬ bi true = 0 by decide)]
    obtain ⟨e1, e2⟩ := zN_ofInt (x := y) (by omega)
    have hk : y.toInt.toNat ≤ 60 := by omega
    generalize y.toInt.toNat = k at e1 hk
    subst e1
    obtain ⟨D, b2, tm2, qt2, cm2, ds2, dr2, r2, sF2, sB2, g0, g1, g2, g3⟩ := mv_run h hk hB sF sB
    rw [g1, g2, ob7_some, ob4_some, if_neg (zN_neg (by omega))]
    exact ⟨true, _, _, _, _, _, _, _, _, _, _, rfl, rfl, g3⟩
  · rw [decide_eq_false c, if_pos (show bi false = 0 from rfl), if_pos (show bi false = 0 from rfl)]
    exact ⟨false, _, _, _, _, _, _, _, _, _, _, rfl, rfl, h.mono (by omega)⟩

theorem cd_4 {a1 y : Int32} (h : ZD b pF pL st tm qt cm ds dr r B) (sF sB : Int32) (hx : a1 / (100000) = 4) (hy : irem a1 (100000) = y) (hyy : y / 10000 = (y / 100) / 100) : CD b pF pL st tm qt cm ds dr r B sF sB a1 4 y := by
  unfold CD fX3_doScriptCommand fX4_command
  rw [hx, hy, hyy, if_neg (show ¬ (4 : Int32) = 1 by decide), if_neg (show ¬ (4 : Int32) = 2 by decide), if_neg (show ¬ (4 : Int32) = 3 by decide), if_pos (show (4 : Int32) = 4 from rfl), if_neg (show ¬ (4 : Int32) = 1 by decide), if_neg (show ¬ (4 : Int32) = 2 by decide), if_neg (show ¬ (4 : Int32) = 3 by decide), if_pos (show (4 : Int32) = 4 from rfl)]
  by_cases c : irem y 100 = 0
  · rw [if_pos c, if_pos c]
    obtain ⟨t, e1, e2, e3⟩ := value (y / 100 / 100) (irem (y / 100) 100)
    unfold fX3_setIfAllowed
    rw [e1, e2, ob_some, ob_some]
    cases t
    · rw [if_pos (show bi false = 0 from rfl), if_pos (show bi false = 0 from rfl), ob2_some, if_pos rfl]
      exact ⟨false, _, _, _, _, _, _, _, _, _, _, rfl, rfl, h.mono (by omega)⟩
    · obtain ⟨k, n, z1, z2, z3, z4⟩ := e3 rfl
      rw [z1, z2, if_neg (show ¬ bi true = 0 by decide), if_neg (show ¬ bi true = 0 by decide)]
      obtain ⟨v, r2, l0, l1, l2, l3, l4, l5⟩ := op_lay h z3 z4
      rw [l3, l4, ob_some, ob2_some, ob2_some, if_neg n10, if_neg (zN_neg (by omega))]
      exact ⟨true, _, _, _, _, _, _, _, _, _, _, rfl, rfl, l5.mono (by omega)⟩
  · rw [if_neg c, if_neg c]
    exact ⟨false, _, _, _, _, _, _, _, _, _, _, rfl, rfl, h.mono (by omega)⟩

theorem cd_5 {a1 y : Int32} (h : ZD b pF pL st tm qt cm ds dr r B) (sF sB : Int32) (hx : a1 / (100000) = 5) (hy : irem a1 (100000) = y) : CD b pF pL st tm qt cm ds dr r B sF sB a1 5 y := by
  unfold CD fX3_doScriptCommand fX4_command
  rw [hx, hy, if_neg (show ¬ (5 : Int32) = 1 by decide), if_neg (show ¬ (5 : Int32) = 2 by decide), if_neg (show ¬ (5 : Int32) = 3 by decide), if_neg (show ¬ (5 : Int32) = 4 by decide), if_pos (show (5 : Int32) = 5 from rfl), if_neg (show ¬ (5 : Int32) = 1 by decide), if_neg (show ¬ (5 : Int32) = 2 by decide), if_neg (show ¬ (5 : Int32) = 3 by decide), if_neg (show ¬ (5 : Int32) = 4 by decide), if_pos (show (5 : Int32) = 5 from rfl)]
  by_cases c : y = 0
  · rw [if_pos c, if_pos c]
    obtain ⟨T, t1, rfl, t2, t3, t4, t5⟩ := h
    obtain ⟨b2, M, ds2, dr2, r2, sF2, sB2, a0, a1, a2, a3, a4⟩ := op_flush t4 t5 sF sB t2 t3
    rw [a1, a2, ob5_some, ob4_some, if_neg (zN_neg (by omega))]
    exact ⟨true, _, _, _, _, _, _, _, _, _, _, rfl, rfl, T, by omega, rfl, a3, a4, t4, t5⟩
  · rw [if_neg c, if_neg c]
    exact ⟨false, _, _, _, _, _, _, _, _, _, _, rfl, rfl, h.mono (by omega)⟩

theorem cd_7 {a1 y : Int32} (h : ZD b pF pL st tm qt cm ds dr r B) (sF sB : Int32) (hx : a1 / (100000) = 7) (hy : irem a1 (100000) = y) : CD b pF pL st tm qt cm ds dr r B sF sB a1 7 y := by
  unfold CD fX3_doScriptCommand fX4_command
  rw [hx, hy, if_neg (show ¬ (7 : Int32) = 1 by decide), if_neg (show ¬ (7 : Int32) = 2 by decide), if_neg (show ¬ (7 : Int32) = 3 by decide), if_neg (show ¬ (7 : Int32) = 4 by decide), if_neg (show ¬ (7 : Int32) = 5 by decide), if_neg (show ¬ (7 : Int32) = 6 by decide), if_pos (show (7 : Int32) = 7 from rfl), if_neg (show ¬ (7 : Int32) = 1 by decide), if_neg (show ¬ (7 : Int32) = 2 by decide), if_neg (show ¬ (7 : Int32) = 3 by decide), if_neg (show ¬ (7 : Int32) = 4 by decide), if_neg (show ¬ (7 : Int32) = 5 by decide), if_neg (show ¬ (7 : Int32) = 6 by decide), if_pos (show (7 : Int32) = 7 from rfl)]
  obtain ⟨k, k1, k2, k3⟩ := h.queued
  by_cases c : 1000 ≤ y
  · rw [if_pos c, if_pos c]
    exact ⟨false, _, _, _, _, _, _, _, _, _, _, rfl, rfl, h.mono (by omega)⟩
  · rw [if_neg c, if_neg c, k2, k3, ob_some, ob_some]
    by_cases d : y < Int32.ofNat k
    · rw [if_pos d, if_pos d]
      exact ⟨false, _, _, _, _, _, _, _, _, _, _, rfl, rfl, h.mono (by omega)⟩
    · rw [if_neg d, if_neg d]
      exact ⟨true, _, _, _, _, _, _, _, _, _, _, rfl, rfl, h.mono (by omega)⟩

theorem cd_8 {a1 y : Int32} (h : ZD b pF pL st tm qt cm ds dr r B) (sF sB : Int32) (hx : a1 / (100000) = 8) (hy : irem a1 (100000) = y) : CD b pF pL st tm qt cm ds dr r B sF sB a1 8 y := by
  unfold CD fX3_doScriptCommand fX4_command
  rw [hx, hy, if_neg (show ¬ (8 : Int32) = 1 by decide), if_neg (show ¬ (8 : Int32) = 2 by decide), if_neg (show ¬ (8 : Int32) = 3 by decide), if_neg (show ¬ (8 : Int32) = 4 by decide), if_neg (show ¬ (8 : Int32) = 5 by decide), if_neg (show ¬ (8 : Int32) = 6 by decide), if_neg (show ¬ (8 : Int32) = 7 by decide), if_pos (show (8 : Int32) = 8 from rfl), if_neg (show ¬ (8 : Int32) = 1 by decide), if_neg (show ¬ (8 : Int32) = 2 by decide), if_neg (show ¬ (8 : Int32) = 3 by decide), if_neg (show ¬ (8 : Int32) = 4 by decide), if_neg (show ¬ (8 : Int32) = 5 by decide), if_neg (show ¬ (8 : Int32) = 6 by decide), if_neg (show ¬ (8 : Int32) = 7 by decide), if_pos (show (8 : Int32) = 8 from rfl)]
  obtain ⟨k, k1, k2, k3⟩ := h.rangesN
  by_cases c : 100 ≤ y
  · rw [if_pos c, if_pos c]
    exact ⟨false, _, _, _, _, _, _, _, _, _, _, rfl, rfl, h.mono (by omega)⟩
  · rw [if_neg c, if_neg c, k2, k3, ob_some, ob_some]
    by_cases d : Int32.ofNat k < y
    · rw [if_pos d, if_pos d]
      exact ⟨false, _, _, _, _, _, _, _, _, _, _, rfl, rfl, h.mono (by omega)⟩
    · rw [if_neg d, if_neg d]
      exact ⟨true, _, _, _, _, _, _, _, _, _, _, rfl, rfl, h.mono (by omega)⟩

theorem cd_6 {a1 y : Int32} (h : ZD b pF pL st tm qt cm ds dr r B) (sF sB : Int32) (hx : a1 / (100000) = 6) (hy : irem a1 (100000) = y) : CD b pF pL st tm qt cm ds dr r B sF sB a1 6 y := by
  unfold CD fX3_doScriptCommand fX4_command
  rw [hx, hy, if_neg (show ¬ (6 : Int32) = 1 by decide), if_neg (show ¬ (6 : Int32) = 2 by decide), if_neg (show ¬ (6 : Int32) = 3 by decide), if_neg (show ¬ (6 : Int32) = 4 by decide), if_neg (show ¬ (6 : Int32) = 5 by decide), if_pos (show (6 : Int32) = 6 from rfl), if_neg (show ¬ (6 : Int32) = 1 by decide), if_neg (show ¬ (6 : Int32) = 2 by decide), if_neg (show ¬ (6 : Int32) = 3 by decide), if_neg (show ¬ (6 : Int32) = 4 by decide), if_neg (show ¬ (6 : Int32) = 5 by decide), if_pos (show (6 : Int32) = 6 from rfl)]
  rw [mi_block, cx_isBlock, ob_some, ob_some]
  by_cases c : 0 ≤ (y / 100).toInt ∧ (y / 100).toInt ≤ 255
  · rw [decide_eq_true c, if_neg (show ¬ bi true = 0 by decide), if_neg (show ¬ bi true = 0 by decide)]
    obtain ⟨e1, e2⟩ := zN_ofInt c.1
    have hi : (y / 100).toInt.toNat < 256 := by omega
    generalize (y / 100).toInt.toNat = i at e1 hi
    rw [e1, show (256 : Int32) + Int32.ofNat i = Int32.ofNat (256 + i) from zN_add 256 i, if_neg (zN_in (by omega) (by omega)), zN_cl (by omega)]
    unfold fX0_isHeld
    rw [if_neg (zN_in hi (by omega)), zN_cl (by omega)]
    have hb : RB b r := by
      obtain ⟨T, -, -, q, -⟩ := h
      exact q.1
    have hr : r (256 + i) = if b i = -1 then 0 else 1 := (hb i hi).2.1
    rw [hr]
    by_cases d : b i = -1
    · rw [if_pos d, if_pos d, ob_some, if_pos rfl]
      by_cases e : irem y 100 = 0
      · rw [if_pos e, if_pos e.symm]
        exact ⟨true, _, _, _, _, _, _, _, _, _, _, rfl, rfl, h.mono (by omega)⟩
      · rw [if_neg e, if_neg (fun q => e q.symm)]
        exact ⟨false, _, _, _, _, _, _, _, _, _, _, rfl, rfl, h.mono (by omega)⟩
    · rw [if_neg d, if_neg d, ob_some, if_neg n10]
      by_cases e : irem y 100 = 1
      · rw [if_pos e, if_pos e.symm]
        exact ⟨true, _, _, _, _, _, _, _, _, _, _, rfl, rfl, h.mono (by omega)⟩
      · rw [if_neg e, if_neg (fun q => e q.symm)]
        exact ⟨false, _, _, _, _, _, _, _, _, _, _, rfl, rfl, h.mono (by omega)⟩
  · rw [decide_eq_false c, if_pos (show bi false = 0 from rfl), if_pos (show bi false = 0 from rfl)]
    exact ⟨false, _, _, _, _, _, _, _, _, _, _, rfl, rfl, h.mono (by omega)⟩

theorem cd_9 {a1 y : Int32} (h : ZD b pF pL st tm qt cm ds dr r B) (sF sB : Int32) (hx : a1 / (100000) = 9) (hy : irem a1 (100000) = y) : CD b pF pL st tm qt cm ds dr r B sF sB a1 9 y := by
  unfold CD fX3_doScriptCommand fX4_command
  rw [hx, hy, if_neg (show ¬ (9 : Int32) = 1 by decide), if_neg (show ¬ (9 : Int32) = 2 by decide), if_neg (show ¬ (9 : Int32) = 3 by decide), if_neg (show ¬ (9 : Int32) = 4 by decide), if_neg (show ¬ (9 : Int32) = 5 by decide), if_neg (show ¬ (9 : Int32) = 6 by decide), if_neg (show ¬ (9 : Int32) = 7 by decide), if_neg (show ¬ (9 : Int32) = 8 by decide), if_pos (show (9 : Int32) = 9 from rfl), if_neg (show ¬ (9 : Int32) = 1 by decide), if_neg (show ¬ (9 : Int32) = 2 by decide), if_neg (show ¬ (9 : Int32) = 3 by decide), if_neg (show ¬ (9 : Int32) = 4 by decide), if_neg (show ¬ (9 : Int32) = 5 by decide), if_neg (show ¬ (9 : Int32) = 6 by decide), if_neg (show ¬ (9 : Int32) = 7 by decide), if_neg (show ¬ (9 : Int32) = 8 by decide), if_pos (show (9 : Int32) = 9 from rfl)]
  rw [mi_block, cx_isBlock, ob_some, ob_some]
  by_cases c : 0 ≤ (y / 100).toInt ∧ (y / 100).toInt ≤ 255
  · rw [decide_eq_true c, if_neg (show ¬ bi true = 0 by decide), if_neg (show ¬ bi true = 0 by decide)]
    obtain ⟨e1, e2⟩ := zN_ofInt c.1
    have hi : (y / 100).toInt.toNat < 256 := by omega
    generalize (y / 100).toInt.toNat = i at e1 hi
    rw [e1, show (0 : Int32) + Int32.ofNat i = Int32.ofNat (0 + i) from zN_add 0 i, if_neg (zN_in (by omega) (by omega)), zN_cl (by omega)]
    unfold fX0_isAlive
    rw [if_neg (zN_in hi (by omega)), zN_cl (by omega)]
    have hb : RB b r := by
      obtain ⟨T, -, -, q, -⟩ := h
      exact q.1
    have hr : r (0 + i) = if b i = -2 then 1 else 0 := (by rw [Nat.zero_add]; exact (hb i hi).1)
    rw [hr]
    by_cases d : b i = -2
    · rw [if_pos d, if_pos d, ob_some, if_neg n10]
      by_cases e : irem y 100 = 1
      · rw [if_pos e, if_pos e.symm]
        exact ⟨true, _, _, _, _, _, _, _, _, _, _, rfl, rfl, h.mono (by omega)⟩
      · rw [if_neg e, if_neg (fun q => e q.symm)]
        exact ⟨false, _, _, _, _, _, _, _, _, _, _, rfl, rfl, h.mono (by omega)⟩
    · rw [if_neg d, if_neg d, ob_some, if_pos rfl]
      by_cases e : irem y 100 = 0
      · rw [if_pos e, if_pos e.symm]
        exact ⟨true, _, _, _, _, _, _, _, _, _, _, rfl, rfl, h.mono (by omega)⟩
      · rw [if_neg e, if_neg (fun q => e q.symm)]
        exact ⟨false, _, _, _, _, _, _, _, _, _, _, rfl, rfl, h.mono (by omega)⟩
  · rw [decide_eq_false c, if_pos (show bi false = 0 from rfl), if_pos (show bi false = 0 from rfl)]
    exact ⟨false, _, _, _, _, _, _, _, _, _, _, rfl, rfl, h.mono (by omega)⟩

theorem cd_0 {x : Int32} {a1 y : Int32} (h : ZD b pF pL st tm qt cm ds dr r B) (sF sB : Int32) (hx : a1 / (100000) = x) (h1 : ¬ x = 1) (h2 : ¬ x = 2) (h3 : ¬ x = 3) (h4 : ¬ x = 4) (h5 : ¬ x = 5) (h6 : ¬ x = 6) (h7 : ¬ x = 7) (h8 : ¬ x = 8) (h9 : ¬ x = 9) : CD b pF pL st tm qt cm ds dr r B sF sB a1 x y := by
  unfold CD fX3_doScriptCommand fX4_command
  rw [hx, if_neg h1, if_neg h2, if_neg h3, if_neg h4, if_neg h5, if_neg h6, if_neg h7, if_neg h8, if_neg h9, if_neg h1, if_neg h2, if_neg h3, if_neg h4, if_neg h5, if_neg h6, if_neg h7, if_neg h8, if_neg h9]
  exact ⟨false, _, _, _, _, _, _, _, _, _, _, rfl, rfl, h.mono (by omega)⟩

theorem cmd_ (h : ZD b pF pL st tm qt cm ds dr r B) (hB : B + 60 < 2147483647) (sF sB : Int32) {c : Nat} (hc : c < 1000000) : CD b pF pL st tm qt cm ds dr r B sF sB (Int32.ofNat c) (Int32.ofNat c / (100000)) (irem (Int32.ofNat c) (100000)) := by
  have d : Int32.ofNat c / (100000) = Int32.ofNat (c / 100000) := zN_div (c := 100000) (by omega) (by omega)
  have m : irem (Int32.ofNat c) (100000) = Int32.ofNat (c % 100000) := zN_rem (c := 100000) (by omega) (by omega)
  have hq : c / 100000 = 0 ∨ c / 100000 = 1 ∨ c / 100000 = 2 ∨ c / 100000 = 3 ∨ c / 100000 = 4 ∨ c / 100000 = 5 ∨ c / 100000 = 6 ∨ c / 100000 = 7 ∨ c / 100000 = 8 ∨ c / 100000 = 9 := by omega
  rcases hq with q | q | q | q | q | q | q | q | q | q
  · rw [q] at d; rw [d]; exact cd_0 h sF sB d (by decide) (by decide) (by decide) (by decide) (by decide) (by decide) (by decide) (by decide) (by decide)
  · rw [q] at d; rw [d]; exact cd_1 h sF sB d rfl
  · rw [q] at d; rw [d]; exact cd_2 h sF sB hB d rfl
  · rw [q] at d; rw [d]; exact cd_3 h sF sB hB d rfl
  · rw [q] at d; rw [d]; refine cd_4 h sF sB d rfl ?_
    rw [m, show Int32.ofNat (c % 100000) / 10000 = _ from zN_div (c := 10000) (by omega) (by omega), show Int32.ofNat (c % 100000) / 100 = _ from zN_div (c := 100) (by omega) (by omega), show Int32.ofNat (c % 100000 / 100) / 100 = _ from zN_div (c := 100) (by omega) (by omega), Nat.div_div_eq_div_mul]
  · rw [q] at d; rw [d]; exact cd_5 h sF sB d rfl
  · rw [q] at d; rw [d]; exact cd_6 h sF sB d rfl
  · rw [q] at d; rw [d]; exact cd_7 h sF sB d rfl
  · rw [q] at d; rw [d]; exact cd_8 h sF sB d rfl
  · rw [q] at d; rw [d]; exact cd_9 h sF sB d rfl
end CMD
/-! scripts -/
theorem yN_toInt {a : Nat} (ha : a < 9223372036854775808) : (Int64.ofNat a).toInt = (a : Int) := Int64.toInt_ofNat_of_lt (by omega)
theorem yN_div {a c : Nat} (ha : a < 9223372036854775808) (hc : c < 9223372036854775808) : Int64.ofNat a / Int64.ofNat c = Int64.ofNat (a / c) := (Int64.ofNat_div (by omega) (by omega)).symm
theorem yN_rem {a c : Nat} (ha : a < 9223372036854775808) (hc : c < 9223372036854775808) : lrem (Int64.ofNat a) (Int64.ofNat c) = Int64.ofNat (a % c) := by
  show Int64.ofNat a - Int64.ofNat a / Int64.ofNat c * Int64.ofNat c = _
  rw [yN_div ha hc, ← Int64.ofNat_mul, ← Int64.ofNat_sub _ _ (Nat.div_mul_le_self a c)]
  congr 1
  have := Nat.div_add_mod a c
  rw [Nat.mul_comm] at this
  omega
theorem yN_inj {a c : Nat} (ha : a < 9223372036854775808) (hc : c < 9223372036854775808) : Int64.ofNat a = Int64.ofNat c ↔ a = c := by
  rw [← Int64.toInt_inj, yN_toInt ha, yN_toInt hc]; omega
theorem zcmp_lt (x : Int64) : lg_cmp x 0 < 0 ↔ x.toInt < 0 := by
  unfold lg_cmp
  simp only [gt_iff_lt, Int64.lt_iff_toInt_lt, ← Int64.toInt_inj, show (0 : Int64).toInt = 0 from rfl]
  by_cases h : 0 < x.toInt
  · rw [if_pos h]; exact ⟨fun q => absurd q (by decide), fun q => by omega⟩
  · rw [if_neg h]
    by_cases h2 : x.toInt = 0
    · rw [if_pos h2]; exact ⟨fun q => absurd q (by decide), fun q => by omega⟩
    · rw [if_neg h2]; exact ⟨fun _ => by omega, fun _ => by decide⟩
theorem zcmp_le (x : Int64) : lg_cmp x 0 ≤ 0 ↔ x.toInt ≤ 0 := by
  unfold lg_cmp
  simp only [gt_iff_lt, Int64.lt_iff_toInt_lt, ← Int64.toInt_inj, show (0 : Int64).toInt = 0 from rfl]
  by_cases h : 0 < x.toInt
  · rw [if_pos h]; exact ⟨fun q => absurd q (by decide), fun q => by omega⟩
  · rw [if_neg h]
    by_cases h2 : x.toInt = 0
    · rw [if_pos h2]; exact ⟨fun _ => by omega, fun _ => by decide⟩
    · rw [if_neg h2]; exact ⟨fun _ => by omega, fun _ => by decide⟩
theorem groups_5 {m : Nat} (hm : m < 1000) : ∀ n v f X, v + n = m → n < f → X < 9223372036854775808 → fX3_groupsFrom_5 f (Int32.ofNat m) (Int64.ofNat X) (Int32.ofNat v) = some (Int64.ofNat (X / 1000000 ^ n)) := by
  intro n
  induction n with
  | zero =>
    intro v f X hv hf hX
    obtain ⟨f, rfl⟩ := zfuel hf
    rw [fX3_groupsFrom_5, if_pos ((zN_le (by omega) (by omega)).mpr (by omega)), Nat.pow_zero, Nat.div_one]
  | succ n ih =>
    intro v f X hv hf hX
    obtain ⟨f, rfl⟩ := zfuel hf
    rw [fX3_groupsFrom_5, if_neg (fun q => by have := (zN_le (by omega) (by omega)).mp q; omega), show Int64.ofNat X / 1000000 = Int64.ofNat (X / 1000000) from yN_div (c := 1000000) hX (by omega), zN_1]
    rw [ih (v + 1) f (X / 1000000) (by omega) (by omega) (by omega), Nat.div_div_eq_div_mul, Nat.pow_succ, Nat.mul_comm]
theorem groups {m X : Nat} (hm : m < 1000) (hX : X < 9223372036854775808) : fX3_groupsFrom (Int64.ofNat X) (Int32.ofNat m) = some (Int64.ofNat (X / 1000000 ^ m)) := groups_5 hm m 0 1000 X (by omega) (by omega) hX
theorem p6 {m : Nat} (hm : m ≤ 3) : 1000000 ^ m < 9223372036854775808 := by
  rcases (show m = 0 ∨ m = 1 ∨ m = 2 ∨ m = 3 by omega) with rfl | rfl | rfl | rfl <;> decide
/-- the commands of a script, in both words -/
theorem script_ {k X : Nat} (hk : k ≤ 3) (hX : X < 9223372036854775808) : ∀ (n j f g : Nat) (b pF pL st : Nat → Int32) (tm qt cm ds dr : Int32) (r : Nat → Int32) (rf sF sB : Int32) (B : Nat), j + n = k → n < f → n < g → ZD b pF pL st tm qt cm ds dr r B → B + 60 * n + 100 < 2147483647 →
    ∃ (a : Int32) (b2 st2 : Nat → Int32) (tm2 qt2 cm2 ds2 dr2 : Int32) (r2 : Nat → Int32) (sF2 sB2 : Int32), fX3_runScript_62 f (Int32.ofNat k) (Int64.ofNat X) (Int32.ofNat j) b pF pL st tm qt cm ds dr = some (0, a, b2, pF, pL, st2, tm2, qt2, cm2, ds2, dr2) ∧ fX4_runScript_86 g (Int32.ofNat k) (Int64.ofNat X) (Int64.ofNat (1000000 ^ n)) (Int32.ofNat j) rf sF sB r = some (a, rf, sF2, sB2, r2) := by
  intro n
  induction n with
  | zero =>
    intro j f g b pF pL st tm qt cm ds dr r rf sF sB B h1 hf hg h hB
    obtain ⟨f, rfl⟩ := zfuel hf
    obtain ⟨g, rfl⟩ := zfuel hg
    unfold fX3_runScript_62 fX4_runScript_86
    rw [if_pos ((zN_le (by omega) (by omega)).mpr (by omega)), if_pos ((zN_le (by omega) (by omega)).mpr (by omega))]
    exact ⟨_, _, _, _, _, _, _, _, _, _, _, rfl, rfl⟩
  | succ n ih =>
    intro j f g b pF pL st tm qt cm ds dr r rf sF sB B h1 hf hg h hB
    obtain ⟨f, rfl⟩ := zfuel hf
    obtain ⟨g, rfl⟩ := zfuel hg
    have nl : ¬ Int32.ofNat k ≤ Int32.ofNat j := fun q => by have := (zN_le (by omega) (by omega)).mp q; omega
    have hp := p6 (m := n + 1) (by omega)
    have hp2 := p6 (m := n) (by omega)
    have e1 : Int64.ofNat (1000000 ^ (n + 1)) / 1000000 = Int64.ofNat (1000000 ^ n) := by
      rw [show Int64.ofNat (1000000 ^ (n + 1)) / 1000000 = _ from yN_div (c := 1000000) hp (by omega), Nat.pow_succ, Nat.mul_div_cancel _ (by omega)]
    have e2 : ¬ Int64.ofNat (1000000 ^ n) = 0 := fun q => by
      have := (yN_inj (c := 0) hp2 (by omega)).mp q
      have := Nat.pow_pos (n := n) (show 0 < 1000000 by omega)
      omega
    have e3 : Int32.ofNat k - 1 - Int32.ofNat j = Int32.ofNat n := by
      rw [show Int32.ofNat k - 1 = Int32.ofNat (k - 1) from zN_sub (c := 1) (by omega), zN_sub (by omega), show k - 1 - j = n by omega]
    have hg : X / 1000000 ^ n < 9223372036854775808 := Nat.lt_of_le_of_lt (Nat.div_le_self _ _) hX
    have e4 : (lrem (Int64.ofNat (X / 1000000 ^ n)) 1000000).toInt32 = Int32.ofNat (X / 1000000 ^ n % 1000000) := by
      rw [show lrem (Int64.ofNat (X / 1000000 ^ n)) 1000000 = _ from yN_rem (c := 1000000) hg (by omega), Int64.toInt32_ofNat']
    unfold fX3_runScript_62 fX4_runScript_86
    rw [if_neg nl, if_neg nl, e1, if_neg e2, yN_div hX hp2, e4, e3, groups (by omega) hX, ob_some, e4]
    obtain ⟨t, b2, st2, tm2, qt2, cm2, ds2, dr2, r2, sF2, sB2, g1, g2, g3⟩ := cmd_ h (by omega) sF sB (c := X / 1000000 ^ n % 1000000) (by omega)
    rw [g1, g2, ob8_some, ob4_some]
    cases t
    · rw [if_pos (show bi false = 0 from rfl), if_pos (show bi false = 0 from rfl)]
      exact ⟨_, _, _, _, _, _, _, _, _, _, _, rfl, rfl⟩
    · rw [if_neg (show ¬ bi true = 0 by decide), if_neg (show ¬ bi true = 0 by decide), zN_1]
      exact ih (j + 1) f g b2 pF pL st2 tm2 qt2 cm2 ds2 dr2 r2 rf sF2 sB2 (B + 60) (by omega) (by omega) (by omega) g3 (by omega)
theorem rs_step (nw : Nat → Int32) (n : Nat) (v1 : Int32) (v2 v4 : Int64) (v6 rf sF sB : Int32) (tr : Nat → Int32) (h1 : ¬ v1 ≤ v6) (h2 : ¬ 3 ≤ v6) : fX4_runScript_6 nw (n + 1) v1 v2 v4 v6 rf sF sB tr = fX4_runScript_6 nw n v1 v2 (v4 * 1000000) (v6 + 1) rf sF sB tr := by
  conv => lhs; unfold fX4_runScript_6
  rw [if_neg h1, if_neg h2]
theorem rs_bad (nw : Nat → Int32) (n : Nat) (v1 : Int32) (v2 v4 : Int64) (v6 rf sF sB : Int32) (tr : Nat → Int32) (h1 : v1 ≤ v6 ∨ 3 ≤ v6) (h2 : ¬ (1 ≤ v1.toInt ∧ v1.toInt ≤ 3)) : fX4_runScript_6 nw (n + 1) v1 v2 v4 v6 rf sF sB tr = some (0, 1, sF, sB, tr) := by
  unfold fX4_runScript_6
  rw [mi_in32, show (1 : Int64).toInt = 1 from rfl, show (3 : Int64).toInt = 3 from rfl, decide_eq_false h2, ob_some, if_pos (show bi false = 0 from rfl), ref1, ob2_some, if_neg n10]
  by_cases c : v1 ≤ v6
  · rw [if_pos c]
  · rw [if_neg c, if_pos (h1.resolve_left c)]
theorem rs_good (nw : Nat → Int32) (n : Nat) (v1 : Int32) (v2 v4 : Int64) (v6 rf sF sB : Int32) (tr : Nat → Int32) (h1 : v1 ≤ v6) (h2 : 1 ≤ v1.toInt ∧ v1.toInt ≤ 3) : fX4_runScript_6 nw (n + 1) v1 v2 v4 v6 rf sF sB tr = if 0 ≤ v2.toInt ∧ v2.toInt ≤ (v4 - 1).toInt then fX4_runScript_86 1000 v1 v2 v4 0 0 sF sB (zCopy nw tr 0 0) else some (0, 1, sF, sB, tr) := by
  unfold fX4_runScript_6
  rw [if_pos h1, mi_in32, mi_in, show (1 : Int64).toInt = 1 from rfl, show (3 : Int64).toInt = 3 from rfl, show (0 : Int64).toInt = 0 from rfl, decide_eq_true h2, ob_some, if_neg (show ¬ bi true = 0 by decide), ob_some]
  by_cases c : 0 ≤ v2.toInt ∧ v2.toInt ≤ (v4 - 1).toInt
  · rw [decide_eq_true c, if_neg (show ¬ bi true = 0 by decide), if_pos c, ref0, ob2_some, if_pos rfl, mcopy0, ob_some]
  · rw [decide_eq_false c, if_pos (show bi false = 0 from rfl), if_neg c, ref1, ob2_some, if_neg n10]
theorem rs_all (nw : Nat → Int32) (v1 : Int32) (v2 : Int64) (rf sF sB : Int32) (tr : Nat → Int32) : ∀ f, 10 < f → (¬ (1 ≤ v1.toInt ∧ v1.toInt ≤ 3) → fX4_runScript_6 nw f v1 v2 1 0 rf sF sB tr = some (0, 1, sF, sB, tr)) ∧ (∀ k : Nat, v1 = Int32.ofNat k → 1 ≤ k → k ≤ 3 → fX4_runScript_6 nw f v1 v2 1 0 rf sF sB tr = if 0 ≤ v2.toInt ∧ v2.toInt < ((1000000 ^ k : Nat) : Int) then fX4_runScript_86 1000 v1 v2 (Int64.ofNat (1000000 ^ k)) 0 0 sF sB (zCopy nw tr 0 0) else some (0, 1, sF, sB, tr)) := by
  intro f hf
  obtain ⟨f, rfl⟩ : ∃ g, f = g + 1 + 1 + 1 + 1 := ⟨f - 4, by omega⟩
  have m1 : (1 : Int64) * 1000000 = Int64.ofNat (1000000 ^ 1) := by decide
  have m2 : Int64.ofNat (1000000 ^ 1) * 1000000 = Int64.ofNat (1000000 ^ 2) := by decide
  have m3 : Int64.ofNat (1000000 ^ 2) * 1000000 = Int64.ofNat (1000000 ^ 3) := by decide
  have s1 : (Int64.ofNat (1000000 ^ 1) - 1).toInt = 1000000 ^ 1 - 1 := by decide
  have s2 : (Int64.ofNat (1000000 ^ 2) - 1).toInt = 1000000 ^ 2 - 1 := by decide
  have s3 : (Int64.ofNat (1000000 ^ 3) - 1).toInt = 1000000 ^ 3 - 1 := by decide
  refine ⟨fun hb => ?_, fun k hv h1 h3 => ?_⟩
  · by_cases c : v1 ≤ 0
    · exact rs_bad nw _ v1 v2 1 0 rf sF sB tr (Or.inl c) hb
    · have h3 : 3 < v1.toInt := by
        have := int_lt.mp (zNot_le.mp c)
        rw [i0] at this
        omega
      have nle : ∀ x : Int32, x.toInt ≤ 3 → ¬ v1 ≤ x := fun x hx q => by have := int_le.mp q; omega
      rw [rs_step nw _ v1 v2 1 0 rf sF sB tr c (by decide), rs_step nw _ v1 v2 _ _ rf sF sB tr (nle _ (by decide)) (by decide), rs_step nw _ v1 v2 _ _ rf sF sB tr (nle _ (by decide)) (by decide)]
      exact rs_bad nw _ v1 v2 _ _ rf sF sB tr (Or.inr (by decide)) hb
  · rcases (show k = 1 ∨ k = 2 ∨ k = 3 by omega) with rfl | rfl | rfl
    · subst hv
      rw [rs_step nw _ _ v2 1 0 rf sF sB tr (by decide) (by decide), m1, rs_good nw _ _ v2 _ _ rf sF sB tr (by decide) (by decide), s1]
      by_cases c : 0 ≤ v2.toInt ∧ v2.toInt < ((1000000 ^ 1 : Nat) : Int)
      · rw [if_pos c, if_pos ⟨c.1, by have := c.2; omega⟩]
      · rw [if_neg c, if_neg (fun q => c ⟨q.1, by have := q.2; omega⟩)]
    · subst hv
      rw [rs_step nw _ _ v2 1 0 rf sF sB tr (by decide) (by decide), m1, rs_step nw _ _ v2 _ _ rf sF sB tr (by decide) (by decide), m2, rs_good nw _ _ v2 _ _ rf sF sB tr (by decide) (by decide), s2]
      by_cases c : 0 ≤ v2.toInt ∧ v2.toInt < ((1000000 ^ 2 : Nat) : Int)
      · rw [if_pos c, if_pos ⟨c.1, by have := c.2; omega⟩]
      · rw [if_neg c, if_neg (fun q => c ⟨q.1, by have := q.2; omega⟩)]
    · subst hv
      rw [rs_step nw _ _ v2 1 0 rf sF sB tr (by decide) (by decide), m1, rs_step nw _ _ v2 _ _ rf sF sB tr (by decide) (by decide), m2, rs_step nw _ _ v2 _ _ rf sF sB tr (by decide) (by decide), m3, rs_good nw _ _ v2 _ _ rf sF sB tr (by decide) (by decide), s3]
      by_cases c : 0 ≤ v2.toInt ∧ v2.toInt < ((1000000 ^ 3 : Nat) : Int)
      · rw [if_pos c, if_pos ⟨c.1, by have := c.2; omega⟩]
      · rw [if_neg c, if_neg (fun q => c ⟨q.1, by have := q.2; omega⟩)]
/-! runScript -/
theorem yN_ofInt {x : Int64} (h : 0 ≤ x.toInt) : x = Int64.ofNat x.toInt.toNat ∧ x.toInt.toNat < 9223372036854775808 := by
  have h2 := Int64.toInt_lt x
  have h3 : x.toInt.toNat < 9223372036854775808 := by omega
  refine ⟨?_, h3⟩
  rw [← Int64.toInt_inj, yN_toInt h3]
  omega
theorem st_runScript {b pF pL st : Nat → Int32} {tm qt cm ds dr : Int32} {nw : Nat → Int32} {B : Nat} (h : ZD b pF pL st tm qt cm ds dr nw B) (hB : B + 4000 < 2147483647) (bC pFC pLC stC : Nat → Int32) (tmC qtC cmC dsC drC : Int32) (rf sF sB : Int32) (tr : Nat → Int32) (a1 : Int32) (a2 : Int64) :
    ∃ (w w' : Nat) (a a' : Int32) (bC2 pFC2 pLC2 stC2 : Nat → Int32) (tmC2 qtC2 cmC2 dsC2 drC2 : Int32) (sF2 sB2 : Int32) (tr2 : Nat → Int32), fX3_runScript b pF pL st tm qt cm ds dr bC pFC pLC stC tmC qtC cmC dsC drC a1 a2 = some (Int32.ofNat w, a, bC2, pFC2, pLC2, stC2, tmC2, qtC2, cmC2, dsC2, drC2) ∧ fX4_runScript rf sF sB nw tr a1 a2 = some (a', Int32.ofNat w', sF2, sB2, tr2) ∧ (w = 0 ∧ w' = 0 ∧ a = a' ∨ w = 2 ∧ w' = 1) := by
  obtain ⟨r1, r2⟩ := rs_all nw a1 a2 rf sF sB tr 1000 (by omega)
  have bad : fX4_runScript rf sF sB nw tr a1 a2 = some (0, 1, sF, sB, tr) → fX3_runScript b pF pL st tm qt cm ds dr bC pFC pLC stC tmC qtC cmC dsC drC a1 a2 = some (2, 0, bC, pFC, pLC, stC, tmC, qtC, cmC, dsC, drC) → _ := fun q1 q2 =>
    (⟨2, 1, _, _, _, _, _, _, _, _, _, _, _, _, _, _, q2, q1, Or.inr ⟨rfl, rfl⟩⟩ : ∃ (w w' : Nat) (a a' : Int32) (bC2 pFC2 pLC2 stC2 : Nat → Int32) (tmC2 qtC2 cmC2 dsC2 drC2 : Int32) (sF2 sB2 : Int32) (tr2 : Nat → Int32), fX3_runScript b pF pL st tm qt cm ds dr bC pFC pLC stC tmC qtC cmC dsC drC a1 a2 = some (Int32.ofNat w, a, bC2, pFC2, pLC2, stC2, tmC2, qtC2, cmC2, dsC2, drC2) ∧ fX4_runScript rf sF sB nw tr a1 a2 = some (a', Int32.ofNat w', sF2, sB2, tr2) ∧ (w = 0 ∧ w' = 0 ∧ a = a' ∨ w = 2 ∧ w' = 1))
  by_cases c : 1 ≤ a1.toInt ∧ a1.toInt ≤ 3
  · obtain ⟨e1, e2⟩ := zN_ofInt (x := a1) (by omega)
    have hk : a1.toInt.toNat ≤ 3 ∧ 1 ≤ a1.toInt.toNat := by omega
    generalize a1.toInt.toNat = k at e1 hk e2
    subst e1
    replace r2 := r2 k rfl hk.2 hk.1
    have n1 : ¬ Int32.ofNat k < 1 := fun q => by have := (zN_lt (c := 1) (by omega) (by omega)).mp q; omega
    have n3 : Int32.ofNat k ≤ 3 := (zN_le (c := 3) (by omega) (by omega)).mpr (by omega)
    have hp := p6 hk.1
    by_cases d : 0 ≤ a2.toInt
    · obtain ⟨x1, x2⟩ := yN_ofInt d
      have x3 : a2.toInt = (a2.toInt.toNat : Int) := by omega
      rw [x3] at r2
      generalize a2.toInt.toNat = X at x1 x2 x3 r2
      subst x1
      have q0 : ¬ lg_cmp (Int64.ofNat X) 0 < 0 := fun q => by have := (zcmp_lt _).mp q; omega
      have hg : X / 1000000 ^ k < 9223372036854775808 := Nat.lt_of_le_of_lt (Nat.div_le_self _ _) x2
      have pk : 0 < 1000000 ^ k := Nat.pow_pos (by omega)
      by_cases e : X < 1000000 ^ k
      · have q1 : lg_cmp (Int64.ofNat (X / 1000000 ^ k)) 0 ≤ 0 := (zcmp_le _).mpr (by rw [Nat.div_eq_of_lt e]; decide)
        rw [if_pos ⟨by omega, by omega⟩] at r2
        have hZ := ZD.congr (h.copied bC pFC pLC stC) (fun x hx => zCopy0 nw tr hx)
        obtain ⟨a, b2, st2, tm2, qt2, cm2, ds2, dr2, rr2, sF2, sB2, g1, g2⟩ := script_ hk.1 x2 k 0 1000 1000 _ _ _ _ _ _ _ _ _ _ 0 sF sB B (by omega) (by omega) (by omega) hZ (by omega)
        refine ⟨0, 0, a, a, b2, va_cpy pF pFC 0 0 3, va_cpy pL pLC 0 0 3, st2, tm2, qt2, cm2, ds2, dr2, sF2, sB2, rr2, ?_, ?_, Or.inl ⟨rfl, rfl, rfl⟩⟩
        · unfold fX3_runScript fX0_copyFrom
          rw [if_neg n1, if_pos n3, if_neg q0, groups (by omega) x2, ob_some, if_pos q1, ob9_some]
          rw [show Int32.ofNat 0 = 0 from rfl] at g1 ⊢
          rw [g1]
        · unfold fX4_runScript
          rw [r2]
          rw [show Int32.ofNat 0 = 0 from rfl] at g2 ⊢
          rw [g2]
      · have q1 : ¬ lg_cmp (Int64.ofNat (X / 1000000 ^ k)) 0 ≤ 0 := fun q => by
          have := (zcmp_le _).mp q
          rw [yN_toInt hg] at this
          have h0 : X / 1000000 ^ k = 0 := Nat.le_zero.mp (Int.ofNat_le.mp (show ((X / 1000000 ^ k : Nat) : Int) ≤ ((0 : Nat) : Int) from this))
          have := (Nat.div_eq_zero_iff).mp h0
          omega
        rw [if_neg (fun q => e (by omega))] at r2
        refine bad (by unfold fX4_runScript; exact r2) ?_
        unfold fX3_runScript
        rw [if_neg n1, if_pos n3, if_neg q0, groups (by omega) x2, ob_some, if_neg q1]
    · rw [if_neg (fun q => d q.1)] at r2
      refine bad (by unfold fX4_runScript; exact r2) ?_
      unfold fX3_runScript
      rw [if_neg n1, if_pos n3, if_pos ((zcmp_lt _).mpr (by omega))]
  · refine bad (by unfold fX4_runScript; exact r1 c) ?_
    unfold fX3_runScript
    by_cases d : a1 < 1
    · rw [if_pos d]
    · rw [if_neg d, if_neg (show ¬ a1 ≤ 3 from fun q => by
        have h1 := int_le.mp q
        rw [i3] at h1
        have h2 := int_le.mp (zNot_lt.mp d)
        rw [i1] at h2
        exact c ⟨h2, h1⟩)]
