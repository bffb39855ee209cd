def R_law : String := "IdleDiscardsLaw"
def lw_P (b : Addr) (xs : List Int32) (args : Array Value) (s : State) : Prop := args = #[.ref b] ∧ s.IntsAt b xs ∧ xs.length ≤ 260 ∧ (Jvm.Cond.and given_1 narrow_1).before args s = true
def lw_Q (_ : Array Value) (s : State) (o : Outcome) (t : State) : Prop := o = .returned (some (.int 1)) ∧ Framed s o t [] 600130 7301080
def lw_Z (below : List Frame) (a : Array Value) (s : State) : State → Prop := fun t => ∃ o, t.status = .running ∧ Ended t below o ∧ lw_Q a s o t
/-- the law's own end, with 1 on the stack, nothing written that was there before, its room as the claim has it -/
theorem lw_ret {p : Program} {l : Launch} {e : Env} {s : State} {m : MethodId} {below : List Frame} {meth : Method} {c : Code} {b : Nat} (hx : p.tables.exec = Jvm.exec) (hb : c.code = code) (hr : meth.sig.returnType = ret) (hlocks : meth.locks = false) {pc : Nat} {H : Heap} {ls : Array Slot} (hdg : decode code pc = .ok (.ireturn, 1)) : W p l e room_1 s m #[Value.ref b] below meth c H [] 600130 7301080 (lw_Z below #[Value.ref b] s) (F0 m pc ls [.int 1]) := by
  intro T hT X
  obtain ⟨fs, hret, hrun, hended, hW, hframe⟩ := X.leave (v := some (.int 1)) (hlocks := hlocks) (fun h => by rw [hr] at h; cases h)
  have hmeth' : T.vm.method? m = some meth := X.method'
  refine ⟨T.setFrames fs, ?_, .returned (some (.int 1)), hrun, hended, rfl, ⟨_, rfl⟩, hW, hframe⟩
  jvm_step X.here [X.here.top, hx, hb, hdg, hmeth', hr, ret, narrow_b1]
  (try refine ⟨rfl, ?_⟩); (try refine ⟨rfl, ?_⟩)
  first | (intro acts; rw [hret _ acts rfl rfl rfl]) | rw [hret _ _ rfl rfl rfl]
  exact Steps.refl _
/-- what holds at the law's entry: the machine, the code, the tables' words (any of lw_tbl by 'hts w (by decide +kernel)'), the script of L ints xs at the cell b, what the Statement gives of the start (any of its parts by flat_of_before) -/
def lw_At (p : Program) (s : State) (m : MethodId) (meth : Method) (c : Code) (b L : Nat) (xs : Nat → Int32) : Prop :=
  p.tables.exec = Jvm.exec ∧ c.code = code ∧ meth.sig.returnType = ret ∧ c.maxLocals = 16 ∧ s.vm.findClass R_law = some m.cls ∧ (∀ w ∈ lw_tbl, w.before #[Value.ref b] s = true) ∧ va_X b L xs s s.heap ∧ b < s.heap.size ∧ meth.locks = false ∧ (Jvm.Cond.and given_1 narrow_1).before #[Value.ref b] s = true
/-! the start of the law's body -/
theorem hdI_X3_init : yX3_init.cls ≠ "java/lang/invoke/MethodHandle" ∧ yX3_init.cls ≠ "java/lang/invoke/VarHandle" ∧ (parseMethodDescriptor yX3_init.desc).map (fun d => d.parameters.length) = some 0 := by decide +kernel
/-- a new device has no range -/
theorem new_16 {b : Nat → Int32} (h : ∀ i, i < 256 → b i = -1) : R16 b := by
  have : ∀ n, n ≤ 256 → cn (bg (zq b)) n = 0 := fun n => by
    induction n with
    | zero => intro _; rfl
    | succ n ih =>
      intro hn
      have hq : zq b n = false := zq_f (by rw [h n (by omega)]; exact m1_neg)
      have : bg (zq b) n = false := by rw [bg_pv, hq]; rfl
      rw [cn_f this]
      exact ih (by omega)
  unfold R16
  rw [this 256 (Nat.le_refl _)]
  omega
set_option maxRecDepth 100000 in
set_option maxHeartbeats 4000000 in
theorem whole_start {p : Program} {e : Env} {s : State} {m : MethodId} {below : List Frame} {meth : Method} {c : Code} (l : Launch) (hflags : l.flags = flags0) {b L : Nat} {xs : Nat → Int32} (hL : L ≤ 260) (C0 : lw_At p s m meth c b L xs) : W p l e room_1 s m #[Value.ref b] below meth c s.heap [] 0 0 (lw_Z below #[Value.ref b] s) (entryFrame m ([Value.ref b] : List Value).toArray 16) := by
  obtain ⟨hx, hb, hr, hml, hown, htl, hX, hbl, hlocks, hgv⟩ := C0
  have hown2 : s.vm.findClass RL = some m.cls := hown
  have hts : ∀ w ∈ wsL_law, w.before #[Value.ref b] s = true := fun w h => htl w (zin_law w h)
  obtain ⟨g, hK⟩ := zK_start htl
  have hAm := zAm_start htl hgv
  have hN := zNc_start hgv
  have hO : va_AO RX0 s := va_AO.of (htl _ (zs_pos 118 (by decide +kernel)))
  have htr : l.stackTraces = false := by
    unfold Launch.stackTraces
    rw [hflags]
    decide +kernel
  have hA : ∀ q : Nat, s.heap.size ≤ q → s.heap.size ≤ q := fun q h => h
  obtain ⟨b2, pF2, pL2, st2, r2, hm, hbg, hZD⟩ := op_new (fun _ => 0) (fun _ => 0) (fun _ => 0) (fun _ => 0) (fun _ => 0)
  have hl := lv_entry [Value.ref b] (n := 16) (Nat.le_of_ble_eq_true rfl)
  rw [lg_entry_eq]
  generalize ((lg_sl [Value.ref b] ++ List.replicate (16 - (lg_sl [Value.ref b]).length) Slot.unset).toArray) = ls at hl ⊢
  replace hl : lv_has ls 16 [(0, .ref b)] := hl
  have hP : zP g [] s.heap := zP_mem.mpr (fun q hq => absurd hq List.not_mem_nil)
  have hD : va_D (fun q => s.heap.size ≤ q) [] := zD_mem.mpr ⟨List.nodup_nil, fun q hq => absurd hq List.not_mem_nil⟩
  have hS : va_S (fun q => s.heap.size ≤ q) s.heap s.heap [] := va_S.rf
  refine va_new (ci := 3) (fs := [.null, .null, .null, .null, .null, .null]) (C := RX3) (T := TX3) (N := 6) hx hb htl zin_X3 tyX3 tyX3_ok hown2 (htl _ (zs_pos 33 (by decide +kernel))) (htl _ (zs_pos 34 (by decide +kernel))) (htl _ (zs_pos 20 (by decide +kernel))) hK hP hD hS hA rfl (fun j hj => by rcases (show j = 0 ∨ j = 1 ∨ j = 2 ∨ j = 3 ∨ j = 4 ∨ j = 5 by omega) with rfl | rfl | rfl | rfl | rfl | rfl <;> rfl) (Nat.le_of_ble_eq_true rfl) (Nat.le_of_ble_eq_true rfl) dL_law_0 (fun q1 H hP hD hS => ?_)
  refine lv_dup hx hb dL_law_3 rfl ?_
  refine zIc (w := []) (As := []) (rest := [.ref q1]) ⟨hx, hb, hml, hown2, hts⟩ (kX3_init l g q1 (d := (b2, pF2, pL2, st2, 0, 0, 0, 0, 0)) hm) (cwI 0 hts gL_law_X3_init rfl rfl rfl (htl _ (zs_pos 20 (by decide +kernel))) (htl _ (zs_pos 35 (by decide +kernel))) (htl _ (zs_pos 36 (by decide +kernel))) rfl hdI_X3_init ⟨Nat.le_of_ble_eq_true rfl, Nat.le_of_ble_eq_true rfl⟩) hK hP hD hS hA hAm hO rfl hl.1 rfl (Nat.le_of_ble_eq_true rfl) ⟨Nat.le_of_ble_eq_true rfl, Nat.le_of_ble_eq_true rfl⟩ dL_law_4 (fun u H locs _ hP hD hS => ?_)
  refine lv_astore_n hx hb dL_law_7 rfl hl (by decide) rfl (fun ls hl => ?_)
  replace hl : lv_has ls 16 [(1, .ref q1), (0, .ref b)] := hl
  replace hP : zP g (zXW g q1 u (fun _ => 0, fun _ => 0, 0, 0, 0, (b2, pF2, pL2, st2, 0, 0, 0, 0, 0), (b2, pF2, pL2, st2, 0, 0, 0, 0, 0), 0, 0, fun _ => (b2, pF2, pL2, st2, 0, 0, 0, 0, 0), fun _ => 0, (b2, pF2, pL2, st2, 0, 0, 0, 0, 0), (b2, pF2, pL2, st2, 0, 0, 0, 0, 0))) H := hP
  replace hD : va_D (fun q => s.heap.size ≤ q) (zXW g q1 u (fun _ => 0, fun _ => 0, 0, 0, 0, (b2, pF2, pL2, st2, 0, 0, 0, 0, 0), (b2, pF2, pL2, st2, 0, 0, 0, 0, 0), 0, 0, fun _ => (b2, pF2, pL2, st2, 0, 0, 0, 0, 0), fun _ => 0, (b2, pF2, pL2, st2, 0, 0, 0, 0, 0), (b2, pF2, pL2, st2, 0, 0, 0, 0, 0))) := hD
  refine va_new (ci := 3) (fs := [.null, .null, .null, .null, .null, .null]) (C := RX3) (T := TX3) (N := 6) hx hb htl zin_X3 tyX3 tyX3_ok hown2 (htl _ (zs_pos 33 (by decide +kernel))) (htl _ (zs_pos 34 (by decide +kernel))) (htl _ (zs_pos 20 (by decide +kernel))) hK hP hD hS hA rfl (fun j hj => by rcases (show j = 0 ∨ j = 1 ∨ j = 2 ∨ j = 3 ∨ j = 4 ∨ j = 5 by omega) with rfl | rfl | rfl | rfl | rfl | rfl <;> rfl) (Nat.le_of_ble_eq_true rfl) (Nat.le_of_ble_eq_true rfl) dL_law_8 (fun q2 H hP hD hS => ?_)
  refine lv_dup hx hb dL_law_11 rfl ?_
  refine zIc (As := []) (rest := [.ref q2]) ⟨hx, hb, hml, hown2, hts⟩ (kX3_init l g q2 (d := (b2, pF2, pL2, st2, 0, 0, 0, 0, 0)) hm) (cwI 0 hts gL_law_X3_init rfl rfl rfl (htl _ (zs_pos 20 (by decide +kernel))) (htl _ (zs_pos 35 (by decide +kernel))) (htl _ (zs_pos 36 (by decide +kernel))) rfl hdI_X3_init ⟨Nat.le_of_ble_eq_true rfl, Nat.le_of_ble_eq_true rfl⟩) hK hP hD hS hA hAm hO rfl hl.1 rfl (Nat.le_of_ble_eq_true rfl) ⟨Nat.le_of_ble_eq_true rfl, Nat.le_of_ble_eq_true rfl⟩ dL_law_12 (fun uq H locs _ hP hD hS => ?_)
  refine lv_astore_n hx hb dL_law_15 rfl hl (by decide) rfl (fun ls hl => ?_)
  replace hl : lv_has ls 16 [(2, .ref q2), (1, .ref q1), (0, .ref b)] := hl
  replace hP : zP g (zXW g q1 u (fun _ => 0, fun _ => 0, 0, 0, 0, (b2, pF2, pL2, st2, 0, 0, 0, 0, 0), (b2, pF2, pL2, st2, 0, 0, 0, 0, 0), 0, 0, fun _ => (b2, pF2, pL2, st2, 0, 0, 0, 0, 0), fun _ => 0, (b2, pF2, pL2, st2, 0, 0, 0, 0, 0), (b2, pF2, pL2, st2, 0, 0, 0, 0, 0)) ++ zXW g q2 uq (fun _ => 0, fun _ => 0, 0, 0, 0, (b2, pF2, pL2, st2, 0, 0, 0, 0, 0), (b2, pF2, pL2, st2, 0, 0, 0, 0, 0), 0, 0, fun _ => (b2, pF2, pL2, st2, 0, 0, 0, 0, 0), fun _ => 0, (b2, pF2, pL2, st2, 0, 0, 0, 0, 0), (b2, pF2, pL2, st2, 0, 0, 0, 0, 0))) H := hP
  replace hD : va_D (fun q => s.heap.size ≤ q) (zXW g q1 u (fun _ => 0, fun _ => 0, 0, 0, 0, (b2, pF2, pL2, st2, 0, 0, 0, 0, 0), (b2, pF2, pL2, st2, 0, 0, 0, 0, 0), 0, 0, fun _ => (b2, pF2, pL2, st2, 0, 0, 0, 0, 0), fun _ => 0, (b2, pF2, pL2, st2, 0, 0, 0, 0, 0), (b2, pF2, pL2, st2, 0, 0, 0, 0, 0)) ++ zXW g q2 uq (fun _ => 0, fun _ => 0, 0, 0, 0, (b2, pF2, pL2, st2, 0, 0, 0, 0, 0), (b2, pF2, pL2, st2, 0, 0, 0, 0, 0), 0, 0, fun _ => (b2, pF2, pL2, st2, 0, 0, 0, 0, 0), fun _ => 0, (b2, pF2, pL2, st2, 0, 0, 0, 0, 0), (b2, pF2, pL2, st2, 0, 0, 0, 0, 0))) := hD
  have hP2 := zP_perm hP List.perm_append_comm
  have hD2 := zD_perm hD List.perm_append_comm
  have hnb : R16 b2 := by
    obtain ⟨b3, pF3, pL3, st3, hm3, e1, -⟩ := znew_ (fun _ => 0) (fun _ => 0) (fun _ => 0) (fun _ => 0)
    rw [hm] at hm3
    cases hm3
    exact new_16 e1
  have fin : ∀ (H : Heap) (locs : List Loc) (ls : Array Slot) (cells slots : Nat), va_S (fun q => s.heap.size ≤ q) s.heap H locs → cells ≤ 600130 → slots ≤ 7301080 → W p l e room_1 s m #[.ref b] below meth c H locs cells slots (lw_Z below #[Value.ref b] s) (F0 m 510 ls [.int 1]) := by
    intro H locs ls cells slots hS hc hs
    exact va_forget (fun q hq => hS.2.2 q hq) (W.widen hc hs (lw_ret hx hb hr hlocks dL_law_510))
  have hLK : LK (fun _ => 0, fun _ => 0, 0, 0, 0, (b2, pF2, pL2, st2, 0, 0, 0, 0, 0), (b2, pF2, pL2, st2, 0, 0, 0, 0, 0), 0, 0, fun _ => (b2, pF2, pL2, st2, 0, 0, 0, 0, 0), fun _ => 0, (b2, pF2, pL2, st2, 0, 0, 0, 0, 0), (b2, pF2, pL2, st2, 0, 0, 0, 0, 0)) (0, fun _ => 0, r2, 0, fun _ => 0, fun _ => 0, fun _ => 0) 0 := ⟨⟨⟨0, by omega, rfl, rfl, fun i hi => absurd hi (Nat.not_lt_zero _)⟩, ⟨hZD, 0, 0, by omega, by omega, rfl, rfl, rfl, fun k hk => absurd hk (Nat.not_lt_zero _)⟩, rfl, rfl, fun q => absurd rfl q, fun q => absurd rfl q⟩, hnb, fun _ => hnb, hnb, hnb⟩
  obtain ⟨vo2, vq2, hlaw⟩ := law_ok (xs := xs) hL hLK hLK
  exact kL_law (g := g) (h0 := q1) (hq := q2) (u := u) (uq := uq) (A := fun q => s.heap.size ≤ q) hx hb hml hown2 hts hK hN hA hAm hX hbl (Nat.not_le.mpr hbl) htr fin _ _ hlaw _ _ (by exact Nat.le_of_ble_eq_true rfl) (by exact Nat.le_of_ble_eq_true rfl) H locs hP2 hD2 hS ls (lv_sub hl [2, 1, 0] rfl)
