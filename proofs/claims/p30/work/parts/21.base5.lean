/-! own base, fifth part: makers of objects -/
abbrev zPc (g : zG) (av : List Value) (w : va_W) (sz : Nat) : Array Value → State → Prop := va_Pc av (fun U => U.heap.size = sz ∧ zP g w U.heap ∧ zK g U ∧ va_D (fun _ => True) w ∧ zAm (va_A w sz) U U.heap ∧ va_AO RX0 U)
theorem zblindC (g : zG) (av : List Value) (w : va_W) (sz : Nat) : FrameBlind (zPc g av w sz) := fun a U f mk q => ⟨q.1, q.2.1, q.2.2.1, va_K.moved (u := U) (U := U.calling f mk a) (Vm.Alike.refl U.vm) q.2.2.2.1, q.2.2.2.2.1, zAm.frame q.2.2.2.2.2.1, va_AO.moved (u := U) (U := U.calling f mk a) (Vm.Alike.refl U.vm) q.2.2.2.2.2.2⟩
/-- a maker's end: the cells of its object, and those that it made, hold what B says -/
def zQc {α : Type} (g : zG) (post : α → Prop) (B : α → va_W) (A : Nat → Prop) : Array Value → State → Outcome → State → Prop := fun _ st o t => o = .returned none ∧ (∃ u : α, post u ∧ zP g (B u) t.heap ∧ va_D A (B u)) ∧ va_F A st t
def Mc (l : Launch) (g : zG) (y : MethodName) (ws : List Cond) (rm : Room) (av : List Value) (w : va_W) (Q : (Nat → Prop) → Array Value → State → Outcome → State → Prop) (mc ms : Nat) : Prop :=
  ∀ sz : Nat, Met l y ws rm (zPc g av w sz) (Q (va_A w sz)) mc ms (va_A w sz)
theorem zc_in {l : Launch} {g : zG} {y : MethodName} {ws ws' : List Cond} {rm : Room} {av : List Value} {w : va_W} {Q : (Nat → Prop) → Array Value → State → Outcome → State → Prop} {mc ms : Nat} {cc : ByteArray} {maxL : Nat} {ret : Option FieldType}
    (hy : plainName y.cls = true) (hw : ws = Cond.code y cc maxL ret :: ws') (hlen : (lg_sl av).length ≤ maxL)
    (k : ∀ (p : Program) (e : Env) (s : State) (m : MethodId) (below : List Frame) (meth : Method) (c : Code), p.tables.exec = Jvm.exec → c.code = cc → meth.sig.returnType = ret → c.maxLocals = maxL → (∀ w ∈ ws, w.before av.toArray s = true) → s.vm.findClass y.cls = some m.cls → meth.locks = false → meth.name = y.name → zK g s →
      ∀ (A : Nat → Prop), (∀ q : Nat, s.heap.size ≤ q → A q) → zP g w s.heap → va_D A w → va_S A s.heap s.heap [] → zAm A s s.heap → va_AO RX0 s →
      ∀ ls : Array Slot, lv_has ls maxL (lv_args 0 av) → W p l e rm s m av.toArray below meth c s.heap [] 0 0 (MQ below (Q A) av.toArray s mc ms A) (F0 m 0 ls [])) : Mc l g y ws rm av w Q mc ms := by
  intro sz
  refine Met.ofW (cc := cc) (maxL := maxL) (ret := ret) hy hw ?_
  intro p e s m args below meth c s₁ B hml hv
  obtain ⟨rfl, hsz, hP, hK, hD0, hAm, hO⟩ := hv
  subst hsz
  have hl := lv_entry av (n := maxL) hlen
  rw [lg_entry_eq]
  exact k p e s m below meth c B.exec B.bytes B.returns hml (atoms_spec (ws := ws) B.pre) (findClass_of_methodNamed B.named) B.notSynchronized (name_of_methodNamed B.named B.method).1 hK (va_A w s.heap.size) (fun q h => Or.inr h) hP hD0.self va_S.rf hAm hO _ hl
/-- worlds by what they have, and in any order -/
theorem zP_mem {g : zG} {w : va_W} {H : Heap} : zP g w H ↔ ∀ q ∈ w, va_at g.1 vwCl q H := by
  refine ⟨fun h q hq => ?_, fun h k q hk => h q (List.mem_of_getElem? hk)⟩
  obtain ⟨k, hk⟩ := List.getElem?_of_mem hq
  exact h k q hk
theorem zD_mem {A : Nat → Prop} {w : va_W} : va_D A w ↔ (w.map Prod.fst).Nodup ∧ ∀ q ∈ w, A q.1 := by
  constructor
  · intro h
    refine ⟨List.pairwise_iff_getElem.mpr fun i j hi hj hij e => ?_, fun q hq => ?_⟩
    · rw [List.length_map] at hi hj
      rw [List.getElem_map, List.getElem_map] at e
      have := h.1 i j _ _ (List.getElem?_eq_getElem hi) (List.getElem?_eq_getElem hj) e
      omega
    · obtain ⟨k, hk⟩ := List.getElem?_of_mem hq
      exact h.2 k q hk
  · intro h
    refine ⟨fun i j x y hi hj hxy => ?_, fun k q hk => h.2 q (List.mem_of_getElem? hk)⟩
    obtain ⟨hil, hix⟩ := List.getElem?_eq_some_iff.mp hi
    obtain ⟨hjl, hjx⟩ := List.getElem?_eq_some_iff.mp hj
    have h1 := List.pairwise_iff_getElem.mp h.1
    rcases Nat.lt_trichotomy i j with q | q | q
    · have := h1 i j (by rw [List.length_map]; exact hil) (by rw [List.length_map]; exact hjl) q
      rw [List.getElem_map, List.getElem_map, hix, hjx] at this
      exact absurd hxy this
    · exact q
    · have := h1 j i (by rw [List.length_map]; exact hjl) (by rw [List.length_map]; exact hil) q
      rw [List.getElem_map, List.getElem_map, hix, hjx] at this
      exact absurd hxy.symm this
theorem zP_perm {g : zG} {w w2 : va_W} {H : Heap} (h : zP g w H) (e : w.Perm w2) : zP g w2 H := zP_mem.mpr fun q hq => zP_mem.mp h q (e.mem_iff.mpr hq)
theorem zD_perm {A : Nat → Prop} {w w2 : va_W} (h : va_D A w) (e : w.Perm w2) : va_D A w2 := by
  obtain ⟨h1, h2⟩ := zD_mem.mp h
  exact zD_mem.mpr ⟨(e.map Prod.fst).nodup_iff.mp h1, fun q hq => h2 q (e.mem_iff.mpr hq)⟩
section ZCC
variable {p : Program} {l : Launch} {e : Env} {R : Room} {s : State} {m : MethodId} {args : Array Value} {below : List Frame} {meth : Method} {c : Code} {H : Heap} {locs : List Loc} {cells slots : Nat} {Q : State → Prop} {g : zG} {cc : ByteArray} {pc : Nat} {ls : Array Slot} {rest st : List Value} {A : Nat → Prop} {a : Nat} {w : va_W} {H0 : Heap}
  {y : MethodName} {bytes : ByteArray} {maxL nL n index : Nat} {ret : Option FieldType} {ws : List Cond} {rm : Room} {Ts : List Cond} {own C : String} {b : Addr} {As : List Value} {mc ms : Nat}
theorem zc_v {α : Type} {post : α → Prop} {B : α → va_W} (u : α) (hx : p.tables.exec = Jvm.exec) (hb : c.code = cc) (hr : meth.sig.returnType = none) (hlocks : meth.locks = false) (hu : post u) (hP : zP g (B u) H) (hD : va_D A (B u)) (hS : va_S A s.heap H locs) (hdg : decode cc pc = .ok (.return_, 1)) : W p l e R s m args below meth c H locs cells slots (MQ below (zQc g post B A) args s cells slots A) (F0 m pc ls []) :=
  W.vret hx hb hr (fun _ ht _ => ⟨rfl, ⟨u, hu, by rw [ht]; exact hP, hD⟩, hS.F ht⟩) hS.2.2 hdg hlocks
/-- new arrays: of the one class that the tables have for them -/
theorem za_newI (hx : p.tables.exec = Jvm.exec) (hb : c.code = cc) (harr : (Cond.arrayClass .int).before args s = true) (hK : zK g s) (hP : zP g w H) (hD : va_D A w) (hS : va_S A H0 H locs) (hA : ∀ q, H0.size ≤ q → A q) {n : Int32} (N : Nat) (hn : ¬ n < 0) (hN : n.toNatClampNeg = N) (hbytes : N * componentBytes .int ≤ 536870912) (hcells : cells + 1 ≤ R.cells) (hslots : slots + N ≤ R.slots) (hdg : decode cc pc = .ok (.newarray .int, 2))
    (kk : ∀ (q : Nat) (H1 : Heap), zP g (w ++ [(q, .inl (g.2.1, N, .inl (fun _ => 0)))]) H1 → va_D A (w ++ [(q, .inl (g.2.1, N, .inl (fun _ => 0)))]) → va_S A H0 H1 locs → W p l e R s m args below meth c H1 locs (cells + 1) (slots + N) Q (F0 m (pc + 2) ls (.ref q :: rest))) : W p l e R s m args below meth c H locs cells slots Q (F0 m pc ls (.int n :: rest)) :=
  va_newa (atype := .int) hx hb harr rfl hK hP hD hS hA (a0 := (N, .inl (fun _ => 0))) (fun _ => rfl) hn hN hbytes hcells hslots hdg (fun q cA H1 hK1 hP1 hD1 hS1 => by
    have h1 := (hK.2 0 _ rfl).2
    have h2 := (hK1.2 5 (cA, .int) rfl).2
    have e : cA = g.2.1 := Option.some.inj ((show s.vm.findClass _ = some cA from h2).symm.trans (show s.vm.findClass _ = some g.2.1 from h1))
    subst e
    exact kk q H1 hP1 hD1 hS1)
theorem za_newC (hx : p.tables.exec = Jvm.exec) (hb : c.code = cc) (harr : (Cond.arrayClass .char).before args s = true) (hK : zK g s) (hP : zP g w H) (hD : va_D A w) (hS : va_S A H0 H locs) (hA : ∀ q, H0.size ≤ q → A q) {n : Int32} (N : Nat) (hn : ¬ n < 0) (hN : n.toNatClampNeg = N) (hbytes : N * componentBytes .char ≤ 536870912) (hcells : cells + 1 ≤ R.cells) (hslots : slots + N ≤ R.slots) (hdg : decode cc pc = .ok (.newarray .char, 2))
    (kk : ∀ (q : Nat) (H1 : Heap), zP g (w ++ [(q, .inl (g.2.2.1, N, .inl (fun _ => 0)))]) H1 → va_D A (w ++ [(q, .inl (g.2.2.1, N, .inl (fun _ => 0)))]) → va_S A H0 H1 locs → W p l e R s m args below meth c H1 locs (cells + 1) (slots + N) Q (F0 m (pc + 2) ls (.ref q :: rest))) : W p l e R s m args below meth c H locs cells slots Q (F0 m pc ls (.int n :: rest)) :=
  va_newa (atype := .char) hx hb harr rfl hK hP hD hS hA (a0 := (N, .inl (fun _ => 0))) (fun _ => rfl) hn hN hbytes hcells hslots hdg (fun q cA H1 hK1 hP1 hD1 hS1 => by
    have h1 := (hK.2 1 _ rfl).2
    have h2 := (hK1.2 5 (cA, .char) rfl).2
    have e : cA = g.2.2.1 := Option.some.inj ((show s.vm.findClass _ = some cA from h2).symm.trans (show s.vm.findClass _ = some g.2.2.1 from h1))
    subst e
    exact kk q H1 hP1 hD1 hS1)
theorem za_newZ (hx : p.tables.exec = Jvm.exec) (hb : c.code = cc) (harr : (Cond.arrayClass .boolean).before args s = true) (hK : zK g s) (hP : zP g w H) (hD : va_D A w) (hS : va_S A H0 H locs) (hA : ∀ q, H0.size ≤ q → A q) {n : Int32} (N : Nat) (hn : ¬ n < 0) (hN : n.toNatClampNeg = N) (hbytes : N * componentBytes .boolean ≤ 536870912) (hcells : cells + 1 ≤ R.cells) (hslots : slots + N ≤ R.slots) (hdg : decode cc pc = .ok (.newarray .boolean, 2))
    (kk : ∀ (q : Nat) (H1 : Heap), zP g (w ++ [(q, .inl (g.2.2.2.1, N, .inl (fun _ => 0)))]) H1 → va_D A (w ++ [(q, .inl (g.2.2.2.1, N, .inl (fun _ => 0)))]) → va_S A H0 H1 locs → W p l e R s m args below meth c H1 locs (cells + 1) (slots + N) Q (F0 m (pc + 2) ls (.ref q :: rest))) : W p l e R s m args below meth c H locs cells slots Q (F0 m pc ls (.int n :: rest)) :=
  va_newa (atype := .boolean) hx hb harr rfl hK hP hD hS hA (a0 := (N, .inl (fun _ => 0))) (fun _ => rfl) hn hN hbytes hcells hslots hdg (fun q cA H1 hK1 hP1 hD1 hS1 => by
    have h1 := (hK.2 2 _ rfl).2
    have h2 := (hK1.2 5 (cA, .boolean) rfl).2
    have e : cA = g.2.2.2.1 := Option.some.inj ((show s.vm.findClass _ = some cA from h2).symm.trans (show s.vm.findClass _ = some g.2.2.2.1 from h1))
    subst e
    exact kk q H1 hP1 hD1 hS1)
theorem za_newD (hx : p.tables.exec = Jvm.exec) (hb : c.code = cc) {own : String} {index : Nat} (hown : s.vm.findClass own = some m.cls) (hcl : (Cond.classLink own index RX0).before args s = true) (hO : va_AO RX0 s) (hK : zK g s) (hP : zP g w H) (hD : va_D A w) (hS : va_S A H0 H locs) (hA : ∀ q, H0.size ≤ q → A q) {n : Int32} (N : Nat) (hn : ¬ n < 0) (hN : n.toNatClampNeg = N) (hbytes : N * 4 ≤ 536870912) (hcells : cells + 1 ≤ R.cells) (hslots : slots + N ≤ R.slots) (hdg : decode cc pc = .ok (.anewarray index, 3))
    (kk : ∀ (q : Nat) (H1 : Heap), zP g (w ++ [(q, .inl (g.2.2.2.2.1, N, .inr (.inr (.inr (.inr (fun _ => none))))))]) H1 → va_D A (w ++ [(q, .inl (g.2.2.2.2.1, N, .inr (.inr (.inr (.inr (fun _ => none))))))]) → va_S A H0 H1 locs → W p l e R s m args below meth c H1 locs (cells + 1) (slots + N) Q (F0 m (pc + 3) ls (.ref q :: rest))) : W p l e R s m args below meth c H locs cells slots Q (F0 m pc ls (.int n :: rest)) :=
  va_newq hx hb hown hcl hO hK hP hD hS hA hn hN hbytes hcells hslots hdg (fun q cA H1 hK1 hP1 hD1 hS1 => by
    obtain ⟨-, -, -, -, -, h1⟩ := (hK.2 3 _ rfl).2
    obtain ⟨-, -, -, -, -, h2⟩ := (hK1.2 5 (cA, .object RX0) rfl).2
    have e : cA = g.2.2.2.2.1 := Option.some.inj (h2.symm.trans h1)
    subst e
    exact kk q H1 hP1 hD1 hS1)
theorem zlast_C {w : va_W} {x : Nat × va_E} : [w.length].map (fun i => (w ++ [x])[i]?) = [x].map some := by
  simp
theorem zlast_R {w : va_W} {x : Nat × va_E} : (List.range w.length).map (fun i => (w ++ [x])[i]?) = w.map some := by
  apply List.ext_getElem?
  intro k
  rw [List.getElem?_map, List.getElem?_map]
  by_cases h : k < w.length
  · rw [List.getElem?_range h]
    show some ((w ++ [x])[k]?) = _
    rw [List.getElem?_append_left h, List.getElem?_eq_getElem h]; rfl
  · rw [List.getElem?_eq_none (by rw [List.length_range]; omega), List.getElem?_eq_none (by omega)]; rfl
theorem znd_range : ∀ n, va_nd (List.range n) = true := by
  have key : ∀ l : List Nat, l.Nodup → va_nd l = true := by
    intro l
    induction l with
    | nil => intro _; rfl
    | cons x l ih =>
      intro h
      obtain ⟨h1, h2⟩ := List.nodup_cons.mp h
      rw [va_nd, decide_eq_true h1, ih h2]; rfl
  exact fun n => key _ List.nodup_range
/-- behind a maker that was called for the world's last cell -/
theorem zc_back {α : Type} {post : α → Prop} {B : α → va_W} {q : Nat} {x : va_E} (hr : va_Run p l e R s m args below meth c H locs cells slots mc ms (F0 m pc ls st) rest (zQc g post B (va_A [(q, x)] H.size) (Value.ref q :: As).toArray) (va_A [(q, x)] H.size))
    (hP : zP g (w ++ [(q, x)]) H) (hD : va_D A (w ++ [(q, x)])) (hS : va_S A s.heap H locs) (hA : ∀ q, s.heap.size ≤ q → A q)
    (kk : ∀ (u : α) (H1 : Heap) (locs1 : List Loc), post u → zP g (w ++ B u) H1 → va_D A (w ++ B u) → va_S A s.heap H1 locs1 → W p l e R s m args below meth c H1 locs1 (cells + mc) (slots + ms) Q (F0 m (pc + 3) ls rest)) : W p l e R s m args below meth c H locs cells slots Q (F0 m pc ls st) := by
  have hfree : ∀ z, va_A [(q, x)] H.size z → A z := va_free hD hS hA [w.length] zlast_C
  intro T hT X
  obtain ⟨v, st₀, t, T', L, h0, X', hL, e1, e2, ⟨hv, ⟨u, hu, hPq, hDq⟩, hz, hk⟩, st⟩ := hr T hT X
  cases hv
  rw [h0] at hz hk
  obtain ⟨hP2, hD2⟩ := va_join (wr := w) (w1 := B u) (wc := [(q, x)]) hP hD [w.length] (List.range w.length) zlast_C zlast_R (znd_range _) (fun i hi => by rw [List.mem_range] at hi; simp; omega) hk hfree hPq hDq
  have hS2 : va_S A s.heap T'.heap (locs ++ L) := ⟨Nat.le_trans hS.1 (by rw [e1]; exact hz), fun z h1 h2 => by rw [e1, hk z (Nat.lt_of_lt_of_le h1 hS.1) (fun y => h2 (hfree z y))]; exact hS.2.1 z h1 h2, fun z hz => by
      rcases List.mem_append.mp hz with h | h
      · exact hS.2.2 z h
      · exact hfree _ (hL z h)⟩
  obtain ⟨t2, a1, b1⟩ := kk u T'.heap (locs ++ L) hu (by rw [e1]; exact hP2) hD2 hS2 T' rfl X'
  exact ⟨t2, st t2 a1, b1⟩
theorem zPreC {q : Nat} {x : va_E} (hK : zK g s) (hP : zP g (w ++ [(q, x)]) H) (hD : va_D A (w ++ [(q, x)])) (hS : va_S A s.heap H locs) (hA : ∀ q, s.heap.size ≤ q → A q) (hAm : zAm A s s.heap) (hO : va_AO RX0 s) : ∀ U : State, U.heap = H → s.WarmedH U.vm → U.heap.size = H.size ∧ zP g [(q, x)] U.heap ∧ zK g U ∧ va_D (fun _ => True) [(q, x)] ∧ zAm (va_A [(q, x)] H.size) U U.heap ∧ va_AO RX0 U := by
  intro U hU hW
  obtain ⟨h1, h2⟩ := zPre hK hP [w.length] (zlast_C (x := (q, x))) U hU hW
  exact ⟨by rw [hU], h1, h2, zDre hD [w.length] rfl zlast_C, hAm.call hS hU hW (va_free hD hS hA [w.length] zlast_C), va_AO.moved hW.alike hO⟩
theorem zIc {α : Type} {post : α → Prop} {B : α → va_W} {q : Nat} {x : va_E} (S : CallFix p m c cc nL s args Ts own) (hM : Mc l g y ws rm (.ref q :: As) [(q, x)] (zQc g post B) mc ms) (cw : CallB R s args own index y bytes maxL none ws rm mc ms n ∧ y.name = "<init>" ∧ (Cond.instanceMethod y).before args s = true) (hK : zK g s)
    (hP : zP g (w ++ [(q, x)]) H) (hD : va_D A (w ++ [(q, x)])) (hS : va_S A s.heap H locs) (hA : ∀ q, s.heap.size ≤ q → A q) (hAm : zAm A s s.heap) (hO : va_AO RX0 s) (hn : As.length = n) (hsize : ls.size = nL) (hst : st = As.reverse ++ .ref q :: rest) (hW : (rest.map fun v => v.category).sum ≤ 8) (hf : cells + mc ≤ R.cells ∧ slots + ms ≤ R.slots) (hdg : decode cc pc = .ok (.invokespecial index, 3))
    (kk : ∀ (u : α) (H1 : Heap) (locs1 : List Loc), post u → zP g (w ++ B u) H1 → va_D A (w ++ B u) → va_S A s.heap H1 locs1 → W p l e R s m args below meth c H1 locs1 (cells + mc) (slots + ms) Q (F0 m (pc + 3) ls rest)) : W p l e R s m args below meth c H locs cells slots Q (F0 m pc ls st) :=
  zc_back (As := As) (va_runI (As := As) (rest := rest) S (hM H.size) cw ⟨zblindC g _ _ H.size, fun U hU hW' => ⟨rfl, zPreC hK hP hD hS hA hAm hO U hU hW'⟩⟩ rfl hn hsize hst (lv_room hW) hdg hf) hP hD hS hA kk
theorem zINc {α : Type} {post : α → Prop} {B : α → va_W} {q : Nat} {x : va_E} {host : String} (S : CallFix p m c cc nL s args Ts own) (hM : Mc l g y ws rm (.ref q :: As) [(q, x)] (zQc g post B) mc ms) (cw : va_CN R s args own index y host bytes maxL none ws rm mc ms n ∧ y.name = "<init>" ∧ (Cond.instanceMethod y).before args s = true) (hK : zK g s)
    (hP : zP g (w ++ [(q, x)]) H) (hD : va_D A (w ++ [(q, x)])) (hS : va_S A s.heap H locs) (hA : ∀ q, s.heap.size ≤ q → A q) (hAm : zAm A s s.heap) (hO : va_AO RX0 s) (hn : As.length = n) (hsize : ls.size = nL) (hst : st = As.reverse ++ .ref q :: rest) (hW : (rest.map fun v => v.category).sum ≤ 8) (hf : cells + mc ≤ R.cells ∧ slots + ms ≤ R.slots) (hdg : decode cc pc = .ok (.invokespecial index, 3))
    (kk : ∀ (u : α) (H1 : Heap) (locs1 : List Loc), post u → zP g (w ++ B u) H1 → va_D A (w ++ B u) → va_S A s.heap H1 locs1 → W p l e R s m args below meth c H1 locs1 (cells + mc) (slots + ms) Q (F0 m (pc + 3) ls rest)) : W p l e R s m args below meth c H locs cells slots Q (F0 m pc ls st) :=
  zc_back (As := As) (va_runIN (As := As) (rest := rest) S (hM H.size) cw ⟨zblindC g _ _ H.size, fun U hU hW' => ⟨rfl, zPreC hK hP hD hS hA hAm hO U hU hW'⟩⟩ rfl hn hsize hst (lv_room hW) hdg hf) hP hD hS hA kk
end ZCC
