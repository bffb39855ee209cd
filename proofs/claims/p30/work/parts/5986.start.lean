/-! what holds at the law's start, out of the tables -/
theorem zs_pos {w : Cond} (i : Nat) (h : lw_tbl[i]? = some w) : w ∈ lw_tbl := List.mem_of_getElem? h
theorem zs_int {args : Array Value} {s : State} (h : (Cond.arrayClass .int).before args s = true) : ∃ cA, ArrOfT s cA .int ∧ va_RA s cA .int := by
  obtain ⟨cA, k, comp, h1, h2, h3⟩ := Cond.arrayClass_spec h
  exact ⟨cA, fun n z => ⟨fun k h => (by cases h), k, h2, comp, h3⟩, h1⟩
theorem zs_char {args : Array Value} {s : State} (h : (Cond.arrayClass .char).before args s = true) : ∃ cA, ArrOfT s cA .char ∧ va_RA s cA .char := by
  obtain ⟨cA, k, comp, h1, h2, h3⟩ := Cond.arrayClass_spec h
  exact ⟨cA, fun n z => ⟨fun k h => (by cases h), k, h2, comp, h3⟩, h1⟩
theorem zs_bool {args : Array Value} {s : State} (h : (Cond.arrayClass .boolean).before args s = true) : ∃ cA, ArrOfT s cA .boolean ∧ va_RA s cA .boolean := by
  obtain ⟨cA, k, comp, h1, h2, h3⟩ := Cond.arrayClass_spec h
  exact ⟨cA, fun n z => ⟨fun k h => (by cases h), k, h2, comp, h3⟩, h1⟩
theorem zs_long {args : Array Value} {s : State} (h : (Cond.arrayClass .long).before args s = true) : ∃ cA, ArrOfT s cA .long ∧ va_RA s cA .long := by
  obtain ⟨cA, k, comp, h1, h2, h3⟩ := Cond.arrayClass_spec h
  exact ⟨cA, fun n z => ⟨fun k h => (by cases h), k, h2, comp, h3⟩, h1⟩
theorem zs_obj {args : Array Value} {s : State} {C : String} (h : (Cond.arrayOver (.object C)).before args s = true) : ∃ cA, ArrOfT s cA (.object C) ∧ va_RA s cA (.object C) := by
  obtain ⟨comp, cA, k, h1, h2, h3, h4, h5⟩ := Cond.arrayOver_spec h
  exact ⟨cA, fun n z => ⟨fun k h => (by cases h), k, h3, comp, h4⟩, k, comp, h3, h4, h1, h5⟩
theorem zK_start {args : Array Value} {s : State} (hts : ∀ w ∈ lw_tbl, w.before args s = true) : ∃ g : zG, zK g s := by
  obtain ⟨c0, i0, k0⟩ := u_known (C := RX0) (T := TX0) (N := 9) (n := 9) hts zin_X0 (hts _ (zs_pos 66 (by decide +kernel)))
  obtain ⟨c1, i1, k1⟩ := u_known (C := RX1) (T := TX1) (N := 3) (n := 3) hts zin_X1 (hts _ (zs_pos 112 (by decide +kernel)))
  obtain ⟨c2, i2, k2⟩ := u_known (C := RX2) (T := TX2) (N := 5) (n := 5) hts zin_X2 (hts _ (zs_pos 42 (by decide +kernel)))
  obtain ⟨c3, i3, k3⟩ := u_known (C := RX3) (T := TX3) (N := 6) (n := 6) hts zin_X3 (hts _ (zs_pos 34 (by decide +kernel)))
  obtain ⟨aI, pI⟩ := zs_int (hts _ (zs_pos 64 (by decide +kernel)))
  obtain ⟨aC, pC⟩ := zs_char (hts _ (zs_pos 63 (by decide +kernel)))
  obtain ⟨aZ, pZ⟩ := zs_bool (hts _ (zs_pos 149 (by decide +kernel)))
  obtain ⟨aO, pO⟩ := zs_obj (C := RX0) (hts _ (zs_pos 118 (by decide +kernel)))
  obtain ⟨aJ, pJ⟩ := zs_int (hts _ (zs_pos 64 (by decide +kernel)))
  refine ⟨((fun k => if k = 0 then c0 else if k = 1 then c1 else if k = 2 then c2 else c3, fun k => if k = 0 then i0 else if k = 1 then i1 else if k = 2 then i2 else i3), (aI, aC, aZ, aO, aJ)), fun k q hq => ?_, fun k q hq => ?_⟩
  · rcases k with _ | _ | _ | _ | k
    · cases hq; exact k0
    · cases hq; exact k1
    · cases hq; exact k2
    · cases hq; exact k3
    · have := (List.getElem?_eq_some_iff.mp hq).1
      exact absurd this (by show ¬ (k + 1 + 1 + 1 + 1 < 4); omega)
  · rcases k with _ | _ | _ | _ | _ | k
    · cases hq; exact pI
    · cases hq; exact pC
    · cases hq; exact pZ
    · cases hq; exact pO
    · cases hq; exact pJ
    · have := (List.getElem?_eq_some_iff.mp hq).1
      exact absurd this (by show ¬ (k + 1 + 1 + 1 + 1 + 1 < 5); omega)
theorem zs_strT : ∀ q ∈ zStr, Cond.stringRef RX3 q.1 q.2 ∈ lw_tbl := by decide +kernel
theorem zs_strN : ∀ q ∈ zStr, Cond.exactly (.string RX3 q.1) "java/lang/String" ∈ flatC (Jvm.Cond.and given_1 narrow_1) := by decide +kernel
theorem zs_cast : ∀ X ∈ zExc, Cond.castable X X ∈ lw_tbl := by decide +kernel
theorem zs_decl : ∀ y ∈ zDec, Cond.declares y ∈ lw_tbl := by decide +kernel
def zs_L : List Cond := [Cond.arrayOf (.static "IdleDiscards" "FIRST_SETTINGS" "[I") .int, Cond.eq (.length (.static "IdleDiscards" "FIRST_SETTINGS" "[I")) (.int 6), Cond.eq (.elem (.static "IdleDiscards" "FIRST_SETTINGS" "[I") (.int 0)) (.int 2), Cond.eq (.elem (.static "IdleDiscards" "FIRST_SETTINGS" "[I") (.int 1)) (.int 2), Cond.eq (.elem (.static "IdleDiscards" "FIRST_SETTINGS" "[I") (.int 2)) (.int 8), Cond.eq (.elem (.static "IdleDiscards" "FIRST_SETTINGS" "[I") (.int 3)) (.int 3), Cond.eq (.elem (.static "IdleDiscards" "FIRST_SETTINGS" "[I") (.int 4)) (.int 2), Cond.eq (.elem (.static "IdleDiscards" "FIRST_SETTINGS" "[I") (.int 5)) (.int 0),
    Cond.arrayOf (.static "IdleDiscards" "GREATEST_SETTINGS" "[I") .int, Cond.eq (.length (.static "IdleDiscards" "GREATEST_SETTINGS" "[I")) (.int 6), Cond.eq (.elem (.static "IdleDiscards" "GREATEST_SETTINGS" "[I") (.int 0)) (.int 4), Cond.eq (.elem (.static "IdleDiscards" "GREATEST_SETTINGS" "[I") (.int 1)) (.int 20), Cond.eq (.elem (.static "IdleDiscards" "GREATEST_SETTINGS" "[I") (.int 2)) (.int 40), Cond.eq (.elem (.static "IdleDiscards" "GREATEST_SETTINGS" "[I") (.int 3)) (.int 50), Cond.eq (.elem (.static "IdleDiscards" "GREATEST_SETTINGS" "[I") (.int 4)) (.int 9), Cond.eq (.elem (.static "IdleDiscards" "GREATEST_SETTINGS" "[I") (.int 5)) (.int 2),
    Cond.isRef (.static Bundle.tN "UNASSIGNED_STACK" Bundle.steD), Cond.isRef (.static Bundle.tN "SUPPRESSED_SENTINEL" Bundle.listD), Cond.not (.castable (zE 2) (zE 1)), Cond.not (.castable (zE 3) (zE 1)), Cond.not (.castable (zE 3) (zE 2))]
theorem zs_nar : ∀ w ∈ zs_L, w ∈ flatC (Jvm.Cond.and given_1 narrow_1) := by decide +kernel
section ZST
variable {args : Array Value} {s : State}
theorem zNc_start (hgv : (Jvm.Cond.and given_1 narrow_1).before args s = true) : zNc s := by
  have hs := flat_of_before _ hgv
  exact ⟨va_Nc.of (hs _ (zs_nar _ (List.mem_of_getElem? (i := 18) rfl))), va_Nc.of (hs _ (zs_nar _ (List.mem_of_getElem? (i := 19) rfl))), va_Nc.of (hs _ (zs_nar _ (List.mem_of_getElem? (i := 20) rfl)))⟩
theorem zAm_start (hts : ∀ w ∈ lw_tbl, w.before args s = true) (hgv : (Jvm.Cond.and given_1 narrow_1).before args s = true) : zAm (fun q => s.heap.size ≤ q) s s.heap := by
  have hs := flat_of_before _ hgv
  have hA : ∀ a : Nat, a < s.heap.size → ¬ s.heap.size ≤ a := fun a h => Nat.not_le.mpr h
  have n : ∀ {w : Cond} (i : Nat), zs_L[i]? = some w → w.before args s = true := fun {w} i h => hs w (zs_nar w (List.mem_of_getElem? (i := i) h))
  have fi := hts _ (zs_pos (w := Cond.initialized "IdleDiscards") 20 (by decide +kernel))
  have ti := hts _ (zs_pos (w := Cond.initialized Bundle.tN) 26 (by decide +kernel))
  obtain ⟨t1, e1, p1⟩ := va_Tof (s := s) (args := args) (tm := .static "IdleDiscards" "FIRST_SETTINGS" "[I") (ty := .int) (N := 6) (f := fun j => .int (zFs j)) (A := fun q => s.heap.size ≤ q) (by decide) (n 0 rfl) (va_eqt (n 1 rfl)) (fun j hj => by
    rcases (show j = 0 ∨ j = 1 ∨ j = 2 ∨ j = 3 ∨ j = 4 ∨ j = 5 by omega) with rfl | rfl | rfl | rfl | rfl | rfl
    · exact va_eqt (n 2 rfl)
    · exact va_eqt (n 3 rfl)
    · exact va_eqt (n 4 rfl)
    · exact va_eqt (n 5 rfl)
    · exact va_eqt (n 6 rfl)
    · exact va_eqt (n 7 rfl)) hA
  obtain ⟨t2, e2, p2⟩ := va_Tof (s := s) (args := args) (tm := .static "IdleDiscards" "GREATEST_SETTINGS" "[I") (ty := .int) (N := 6) (f := fun j => .int (zGs j)) (A := fun q => s.heap.size ≤ q) (by decide) (n 8 rfl) (va_eqt (n 9 rfl)) (fun j hj => by
    rcases (show j = 0 ∨ j = 1 ∨ j = 2 ∨ j = 3 ∨ j = 4 ∨ j = 5 by omega) with rfl | rfl | rfl | rfl | rfl | rfl
    · exact va_eqt (n 10 rfl)
    · exact va_eqt (n 11 rfl)
    · exact va_eqt (n 12 rfl)
    · exact va_eqt (n 13 rfl)
    · exact va_eqt (n 14 rfl)
    · exact va_eqt (n 15 rfl)) hA
  refine ⟨⟨t1, va_Zof (hts _ (zs_pos 79 (by decide +kernel))) fi e1 hA, p1⟩, ⟨t2, va_Zof (hts _ (zs_pos 408 (by decide +kernel))) fi e2 hA, p2⟩, vx_Zqof (hts _ (zs_pos 189 (by decide +kernel))) ti (n 16 rfl) hA, vx_Zqof (hts _ (zs_pos 191 (by decide +kernel))) ti (n 17 rfl) hA, fun q hq => ?_, ⟨fun X hX => va_Nw.of rfl (hts _ (zs_cast X hX)), fun y hy => va_Nw.of rfl (hts _ (zs_decl y hy))⟩, va_Nw.of rfl (hts _ (zs_pos 78 (by decide +kernel))), va_Nw.of rfl (hts _ (zs_pos 43 (by decide +kernel)))⟩
  obtain ⟨a, c, cell, k, h1, -⟩ := Cond.exactly_spec (hs _ (zs_strN q hq))
  exact ⟨a, vk_R.of (hts _ (zs_strT q hq)) h1⟩
end ZST
