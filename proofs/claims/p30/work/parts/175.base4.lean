def ob10 {α β β2 β3 β4 β5 β6 β7 β8 β9 γ : Type} (o : Option (α × β × β2 × β3 × β4 × β5 × β6 × β7 × β8 × β9)) (k : α → β → β2 → β3 → β4 → β5 → β6 → β7 → β8 → β9 → Option γ) : Option γ := match o with
  | none => none
  | some x => k x.1 x.2.1 x.2.2.1 x.2.2.2.1 x.2.2.2.2.1 x.2.2.2.2.2.1 x.2.2.2.2.2.2.1 x.2.2.2.2.2.2.2.1 x.2.2.2.2.2.2.2.2.1 x.2.2.2.2.2.2.2.2.2
theorem zb10 {α β β2 β3 β4 β5 β6 β7 β8 β9 γ : Type} {o : Option (α × β × β2 × β3 × β4 × β5 × β6 × β7 × β8 × β9)} {k : α → β → β2 → β3 → β4 → β5 → β6 → β7 → β8 → β9 → Option γ} {r : γ} (h : ob10 o k = some r) : ∃ x0 x1 x2 x3 x4 x5 x6 x7 x8 x9, o = some (x0, x1, x2, x3, x4, x5, x6, x7, x8, x9) ∧ k x0 x1 x2 x3 x4 x5 x6 x7 x8 x9 = some r := by
  cases o with
  | none => exact zn h
  | some x => exact ⟨x.1, x.2.1, x.2.2.1, x.2.2.2.1, x.2.2.2.2.1, x.2.2.2.2.2.1, x.2.2.2.2.2.2.1, x.2.2.2.2.2.2.2.1, x.2.2.2.2.2.2.2.2.1, x.2.2.2.2.2.2.2.2.2, rfl, h⟩
/-! own base, fourth part: calls that take the caller's whole world -/
section ZWA
variable {p : Program} {l : Launch} {e : Env} {R : Room} {s : State} {m : MethodId} {args : Array Value} {below : List Frame} {meth : Method} {c : Code} {H : Heap} {locs : List Loc} {cells slots : Nat} {Q : State → Prop} {g : zG} {cc : ByteArray} {pc : Nat} {ls : Array Slot} {rest st : List Value} {A : Nat → Prop} {a : Nat} {w : va_W}
  {y : MethodName} {bytes : ByteArray} {maxL nL n index : Nat} {ret : Option FieldType} {ws : List Cond} {rm : Room} {Ts : List Cond} {own C : String} {b : Addr} {As : List Value} {mc ms : Nat}
theorem zfreeA (hD : va_D A w) (hS : va_S A s.heap H locs) (hA : ∀ q, s.heap.size ≤ q → A q) : ∀ q, va_A w H.size q → A q := by
  intro q h
  rcases h with ⟨k, e, h⟩ | h
  · exact hD.2 k _ h
  · exact hA q (Nat.le_trans hS.1 h)
theorem zw_backA {Qa : State → Outcome → State → Prop} {v0 : Option Value} {wq : va_W} (hq : ∀ st₀ o t, Qa st₀ o t → o = .returned v0 ∧ zP g wq t.heap ∧ va_F (va_A w H.size) st₀ t) (hr : va_Run p l e R s m args below meth c H locs cells slots 0 0 (F0 m pc ls st) rest Qa (va_A w H.size))
    (hD : va_D A w) (hS : va_S A s.heap H locs) (hA : ∀ q, s.heap.size ≤ q → A q) (he : wq.map Prod.fst = w.map Prod.fst)
    (kk : ∀ (H1 : Heap) (locs1 : List Loc), zP g wq H1 → va_D A wq → va_S A s.heap H1 locs1 → W p l e R s m args below meth c H1 locs1 cells slots Q (F0 m (pc + 3) ls (v0.toList ++ rest))) : W p l e R s m args below meth c H locs cells slots Q (F0 m pc ls st) := by
  have hfree := zfreeA hD hS hA
  intro T hT X
  obtain ⟨v, st₀, t, T', L, h0, X', hL, e1, e2, hqa, st⟩ := hr T hT X
  obtain ⟨hv, hPq, hz, hk⟩ := hq _ _ _ hqa
  cases hv
  rw [h0] at hz hk
  have hS2 : va_S A s.heap T'.heap (locs ++ L) := ⟨Nat.le_trans hS.1 (by rw [e1]; exact hz), fun q h1 h2 => by rw [e1, hk q (Nat.lt_of_lt_of_le h1 hS.1) (fun z => h2 (hfree q z))]; exact hS.2.1 q h1 h2, fun q hq => by
      rcases List.mem_append.mp hq with h | h
      · exact hS.2.2 q h
      · exact hfree _ (hL q h)⟩
  obtain ⟨t2, a1, b1⟩ := kk T'.heap (locs ++ L) (by rw [e1]; exact hPq) (zD_fst hD he) hS2 T' rfl X'
  exact ⟨t2, st t2 a1, b1⟩
theorem zVA {Qy : Array Value → State → Outcome → State → Prop} {v0 : Option Value} (hQ : ∀ a st₀ o t, Qy a st₀ o t → o = .returned v0 ∧ t.heap = st₀.heap) (S : CallFix p m c cc nL s args Ts own) (hM : Mr l g y ws rm (.ref b :: As) w Qy) (cw : CallW R s args own C index y bytes maxL ret ws rm 0 0 n) (hK : zK g s) (hP : zP g w H) (q0 : Nat) {ci : Nat} {fs : List Value} {T : u_T} {N : Nat} (he : w[q0]? = some (b, .inr (ci, fs))) (hc : vwCl[ci]? = some (C, T, N)) (hn : As.length = n) (hsize : ls.size = nL) (hst : st = As.reverse ++ .ref b :: rest) (hW : (rest.map fun v => v.category).sum ≤ 8) (hf : cells ≤ R.cells ∧ slots ≤ R.slots) (hdg : decode cc pc = .ok (.invokevirtual index, 3))
    (kk : W p l e R s m args below meth c H locs cells slots Q (F0 m (pc + 3) ls (v0.toList ++ rest))) : W p l e R s m args below meth c H locs cells slots Q (F0 m pc ls st) :=
  zr_back (hQ _) (va_runV (As := As) (rest := rest) S hM cw ⟨zblind g _ w, va_recv hK hP (ci := ci) (q0 := q0) hc he, fun U hU hW' => ⟨rfl, by rw [hU]; exact hP, va_K.moved hW'.alike hK⟩⟩ rfl hn hsize hst (lv_room hW) hdg hf) rfl rfl kk
theorem zVwA {Qy : (Nat → Prop) → Array Value → State → Outcome → State → Prop} {v0 : Option Value} {wq : va_W} (hQ : ∀ A a st₀ o t, Qy A a st₀ o t → o = .returned v0 ∧ zP g wq t.heap ∧ va_F A st₀ t) (S : CallFix p m c cc nL s args Ts own) (hM : Mw l g y ws rm (.ref b :: As) w Qy) (cw : CallW R s args own C index y bytes maxL ret ws rm 0 0 n) (hK : zK g s) (hP : zP g w H) (hD : va_D A w) (hS : va_S A s.heap H locs) (hA : ∀ q, s.heap.size ≤ q → A q) (he1 : wq.map Prod.fst = w.map Prod.fst) (q0 : Nat) {ci : Nat} {fs : List Value} {T : u_T} {N : Nat} (he : w[q0]? = some (b, .inr (ci, fs))) (hc : vwCl[ci]? = some (C, T, N)) (hn : As.length = n) (hsize : ls.size = nL) (hst : st = As.reverse ++ .ref b :: rest) (hW : (rest.map fun v => v.category).sum ≤ 8) (hf : cells ≤ R.cells ∧ slots ≤ R.slots) (hdg : decode cc pc = .ok (.invokevirtual index, 3))
    (kk : ∀ (H1 : Heap) (locs1 : List Loc), zP g wq H1 → va_D A wq → va_S A s.heap H1 locs1 → W p l e R s m args below meth c H1 locs1 cells slots Q (F0 m (pc + 3) ls (v0.toList ++ rest))) : W p l e R s m args below meth c H locs cells slots Q (F0 m pc ls st) :=
  zw_backA (hQ _ _) (va_runV (As := As) (rest := rest) S (hM H.size) cw ⟨zblindW g _ w H.size, va_recv hK hP (ci := ci) (q0 := q0) hc he, fun U hU hW' => ⟨rfl, by rw [hU], by rw [hU]; exact hP, va_K.moved hW'.alike hK, hD.weaken (fun _ _ _ _ => trivial)⟩⟩ rfl hn hsize hst (lv_room hW) hdg hf) hD hS hA he1 kk
theorem zVaA {Qy : (Nat → Prop) → Array Value → State → Outcome → State → Prop} {v0 : Option Value} {wq : va_W} (hQ : ∀ A a st₀ o t, Qy A a st₀ o t → o = .returned v0 ∧ zP g wq t.heap ∧ va_F A st₀ t) (S : CallFix p m c cc nL s args Ts own) (hM : Ma l g y ws rm (.ref b :: As) w Qy) (cw : CallW R s args own C index y bytes maxL ret ws rm 0 0 n) (hK : zK g s) (hP : zP g w H) (hD : va_D A w) (hS : va_S A s.heap H locs) (hA : ∀ q, s.heap.size ≤ q → A q) (hAm : zAm A s s.heap) (he1 : wq.map Prod.fst = w.map Prod.fst) (q0 : Nat) {ci : Nat} {fs : List Value} {T : u_T} {N : Nat} (he : w[q0]? = some (b, .inr (ci, fs))) (hc : vwCl[ci]? = some (C, T, N)) (hn : As.length = n) (hsize : ls.size = nL) (hst : st = As.reverse ++ .ref b :: rest) (hW : (rest.map fun v => v.category).sum ≤ 8) (hf : cells ≤ R.cells ∧ slots ≤ R.slots) (hdg : decode cc pc = .ok (.invokevirtual index, 3))
    (kk : ∀ (H1 : Heap) (locs1 : List Loc), zP g wq H1 → va_D A wq → va_S A s.heap H1 locs1 → W p l e R s m args below meth c H1 locs1 cells slots Q (F0 m (pc + 3) ls (v0.toList ++ rest))) : W p l e R s m args below meth c H locs cells slots Q (F0 m pc ls st) :=
  zw_backA (hQ _ _) (va_runV (As := As) (rest := rest) S (hM H.size) cw ⟨zblindM g _ w H.size, va_recv hK hP (ci := ci) (q0 := q0) hc he, fun U hU hW' => ⟨rfl, by rw [hU], by rw [hU]; exact hP, va_K.moved hW'.alike hK, hD.weaken (fun _ _ _ _ => trivial), hAm.call hS hU hW' (zfreeA hD hS hA)⟩⟩ rfl hn hsize hst (lv_room hW) hdg hf) hD hS hA he1 kk
end ZWA
