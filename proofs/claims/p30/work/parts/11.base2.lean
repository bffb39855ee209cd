/-! own base, second part: copies, what is given of statics and texts, methods that may throw -/
section ZC
variable {p : Program} {l : Launch} {e : Env} {R : Room} {s : State} {m : MethodId} {args : Array Value} {below : List Frame} {meth : Method} {c : Code} {H : Heap} {locs : List Loc} {cells slots : Nat} {Q : State → Prop} {g : zG} {cc : ByteArray} {pc : Nat} {ls : Array Slot} {rest st : List Value} {A : Nat → Prop} {a : Nat} {w : va_W} {H0 : Heap}
theorem za_cpy (hx : p.tables.exec = Jvm.exec) (hb : c.code = cc) (hml : c.maxLocals = ls.size) {own : String} {index : Nat} (hown : s.vm.findClass own = some m.cls) (hlink : (Cond.methodLink own index arraycopyName).before args s = true) (hnat : (Cond.native arraycopyName).before args s = true) (hstat : (Cond.static arraycopyName).before args s = true) (hini : (Cond.initialized "java/lang/System").before args s = true)
    (hK : zK g s) (hP : zP g w H) (hD : va_D A w) (hS : va_S A H0 H locs) (q0 q1 : Nat) {a0 n0 n1 : Nat} {f f1 : Nat → Int32} (ha0 : w[q0]? = some (a0, .inl (g.2.1, n0, .inl f))) (ha1 : w[q1]? = some (a, .inl (g.2.1, n1, .inl f1)))
    {sp dp n : Int32} (h1 : ¬ sp < 0) (h2 : ¬ dp < 0) (h3 : ¬ n < 0) (sp' dp' n' : Nat) (e1 : sp.toNatClampNeg = sp') (e2 : dp.toNatClampNeg = dp') (e3 : n.toNatClampNeg = n') (h4 : sp' + n' ≤ n0) (h5 : dp' + n' ≤ n1)
    (hframes : 1 ≤ R.frames) (hlocals : (rest.map fun v => v.category).sum + (nativeFrameWords "java/lang/System" "arraycopy" 5 + 11) ≤ R.locals) (hdg : decode cc pc = .ok (.invokestatic index, 3))
    (kk : ∀ (H1 : Heap) (locs1 : List Loc), zP g (w.set q1 (a, .inl (g.2.1, n1, .inl (va_cpy f f1 sp' dp' n')))) H1 → va_D A (w.set q1 (a, .inl (g.2.1, n1, .inl (va_cpy f f1 sp' dp' n')))) → va_S A H0 H1 locs1 → W p l e R s m args below meth c H1 locs1 cells slots Q (F0 m (pc + 3) ls rest)) : W p l e R s m args below meth c H locs cells slots Q (F0 m pc ls (.int n :: .int dp :: .ref a :: .int sp :: .ref a0 :: rest)) := by
  subst e1; subst e2; subst e3
  exact va_copyi hx hb hml hown hlink hnat hstat hini hK hP hD hS q0 q1 0 0 (ty := .int) ha0 ha1 rfl rfl rfl h1 h2 h3 h4 h5 (fun _ _ => rfl) hframes hlocals hdg kk
theorem za_alen (hx : p.tables.exec = Jvm.exec) (hb : c.code = cc) (hK : zK g s) (hP : zP g w H) (q0 : Nat) {n : Nat} {f : Nat → Int32} (ha : w[q0]? = some (a, .inl (g.2.1, n, .inl f))) (hdg : decode cc pc = .ok (.arraylength, 1))
    (kk : W p l e R s m args below meth c H locs cells slots Q (F0 m (pc + 1) ls (.int (Int32.ofNat n) :: rest))) : W p l e R s m args below meth c H locs cells slots Q (F0 m pc ls (.ref a :: rest)) :=
  va_alen hx hb hK hP q0 0 ha rfl rfl hdg kk
end ZC
/-- the two static arrays -/
def zFs : Nat → Int32 := fun j => if j = 0 then 2 else if j = 1 then 2 else if j = 2 then 8 else if j = 3 then 3 else if j = 4 then 2 else 0
def zGs : Nat → Int32 := fun j => if j = 0 then 4 else if j = 1 then 20 else if j = 2 then 40 else if j = 3 then 50 else if j = 4 then 9 else 2
def zStr : List (Nat × String) := [(136, "no such number"), (156, "no such number of a block"), (160, "no such range"), (182, "no such number of a range"), (187, "no such number of a pin"), (201, "no such setting"), (224, "the pin has no span"), (235, "no such setting or value"), (243, "no state is remembered"), (248, "no such number of a command"), (271, "no such number of ticks to come"), (277, "no such number of commands"), (283, "the script has too many digits"), (297, "no such number of turns"), (309, "nothing is saved in the slot"), (314, "no such block"), (316, "no such length"), (321, "the span goes beyond the last block"), (326, "no such pin"), (328, "no such number of ticks"), (330, "no such save slot"), (43, "no such character"), (54, "the text is full"), (68, "the text is not a log")]
def zExc : List String := ["java/lang/IndexOutOfBoundsException", "java/lang/IllegalArgumentException", "java/lang/IllegalStateException"]
def zDec : List MethodName := [Bundle.initS "java/lang/RuntimeException", Bundle.initS "java/lang/Exception", Bundle.initS Bundle.tN]
def zAm (A : Nat → Prop) (U : State) (H : Heap) : Prop :=
  (∃ t, va_Z "IdleDiscards" "FIRST_SETTINGS" "[I" (.ref t) A U H ∧ va_T .int t 6 (fun j => .int (zFs j)) A U H) ∧
  (∃ t, va_Z "IdleDiscards" "GREATEST_SETTINGS" "[I" (.ref t) A U H ∧ va_T .int t 6 (fun j => .int (zGs j)) A U H) ∧
  vx_Zq Bundle.tN "UNASSIGNED_STACK" Bundle.steD A U H ∧ vx_Zq Bundle.tN "SUPPRESSED_SENTINEL" Bundle.listD A U H ∧
  (∀ q ∈ zStr, ∃ sa, vk_R RX3 q.1 q.2 sa U) ∧ ((∀ X ∈ zExc, va_Nw (.castable X X) U) ∧ ∀ y ∈ zDec, va_Nw (.declares y) U) ∧
  va_Nw (.fieldLinkNest RX0 33 "IdleDiscards" "FIRST_SETTINGS" "[I" "IdleDiscards") U ∧ va_Nw (.methodLinkNest RX3 9 yX2_init "IdleDiscards") U
theorem zAm.kept {A : Nat → Prop} {U : State} {H H1 : Heap} (h : zAm A U H) (hq : ∀ a : Nat, a < H.size → ¬ A a → H1[a]? = H[a]?) : zAm A U H1 := by
  obtain ⟨⟨t1, a1, a2⟩, ⟨t2, b1, b2⟩, c1, d1, e1, f1⟩ := h
  exact ⟨⟨t1, a1.kept hq, a2.kept hq⟩, ⟨t2, b1.kept hq, b2.kept hq⟩, c1.kept hq, d1.kept hq, e1, f1⟩
theorem zAm.narrow {A B : Nat → Prop} {U : State} {H : Heap} (h : zAm A U H) (hAB : ∀ q, B q → A q) : zAm B U H := by
  obtain ⟨⟨t1, a1, a2⟩, ⟨t2, b1, b2⟩, c1, d1, e1, f1⟩ := h
  exact ⟨⟨t1, a1.narrow hAB, a2.narrow hAB⟩, ⟨t2, b1.narrow hAB, b2.narrow hAB⟩, c1.narrow hAB, d1.narrow hAB, e1, f1⟩
theorem zcast_moved {X : String} {u U : State} (hvm : u.vm.Alike U.vm) (h : va_Nw (.castable X X) u) : va_Nw (.castable X X) U := by
  have h1 : (Cond.castable X X).before #[] (u.setVm U.vm) = true := by rw [Cond.castable_setVm hvm]; exact h
  have e := Cond.onTables_vm (A := #[]) (A' := #[]) (U := u) (U' := U) U.vm (Cond.castable X X) rfl
  have hU : U.setVm U.vm = U := rfl
  rw [hU] at e
  show (Cond.castable X X).before #[] U = true
  rw [← e]
  exact h1
theorem zdecl_moved {y : MethodName} {u U : State} (hvm : u.vm.Alike U.vm) (h : va_Nw (.declares y) u) : va_Nw (.declares y) U := by
  have h1 : (Cond.declares y).before #[] (u.setVm U.vm) = true := by rw [Cond.declares_setVm hvm]; exact h
  have e := Cond.onTables_vm (A := #[]) (A' := #[]) (U := u) (U' := U) U.vm (Cond.declares y) rfl
  have hU : U.setVm U.vm = U := rfl
  rw [hU] at e
  show (Cond.declares y).before #[] U = true
  rw [← e]
  exact h1
theorem zAm.warm {A : Nat → Prop} {s U : State} {H : Heap} (hW : s.WarmedH U.vm) (h : zAm A s H) : zAm A U H := by
  obtain ⟨⟨t1, a1, a2⟩, ⟨t2, b1, b2⟩, c1, d1, e1, f1⟩ := h
  refine ⟨⟨t1, va_Z.moved hW.alike a1, va_T.moved hW.alike a2⟩, ⟨t2, va_Z.moved hW.alike b1, va_T.moved hW.alike b2⟩, vx_Zq.moved hW.alike c1, vx_Zq.moved hW.alike d1, fun q hq => ?_, ⟨fun X hX => zcast_moved hW.alike (f1.1.1 X hX), fun y hy => zdecl_moved hW.alike (f1.1.2 y hy)⟩, va_Nw.warmF hW f1.2.1, va_Nw.warmM hW f1.2.2⟩
  obtain ⟨sa, h⟩ := e1 q hq
  exact ⟨sa, vk_R.warm hW h⟩
theorem zAm.call {A B : Nat → Prop} {s U : State} {H : Heap} {locs : List Loc} (h : zAm A s s.heap) (hS : va_S A s.heap H locs) (hU : U.heap = H) (hW : s.WarmedH U.vm) (hAB : ∀ q, B q → A q) : zAm B U U.heap := by
  rw [hU]
  exact ((h.kept hS.2.1).narrow hAB).warm hW
theorem zAm.frame {A : Nat → Prop} {U : State} {f : JFrame} {mk : MethodId} {a : Array Value} (h : zAm A U U.heap) : zAm A (U.calling f mk a) (U.calling f mk a).heap := by
  obtain ⟨⟨t1, a1, a2⟩, ⟨t2, b1, b2⟩, c1, d1, e1, f1⟩ := h
  have hv : U.vm.Alike (U.calling f mk a).vm := Vm.Alike.refl U.vm
  refine ⟨⟨t1, va_Z.moved (u := U) (U := U.calling f mk a) hv a1, va_T.moved (u := U) (U := U.calling f mk a) hv a2⟩, ⟨t2, va_Z.moved (u := U) (U := U.calling f mk a) hv b1, va_T.moved (u := U) (U := U.calling f mk a) hv b2⟩, vx_Zq.moved (u := U) (U := U.calling f mk a) hv c1, vx_Zq.moved (u := U) (U := U.calling f mk a) hv d1, fun q hq => ?_, ⟨fun X hX => zcast_moved (u := U) (U := U.calling f mk a) hv (f1.1.1 X hX), fun y hy => zdecl_moved (u := U) (U := U.calling f mk a) hv (f1.1.2 y hy)⟩, va_Nw.same (u := U) (U := U.calling f mk a) rfl rfl f1.2.1, va_Nw.same (u := U) (U := U.calling f mk a) rfl rfl f1.2.2⟩
  obtain ⟨sa, h⟩ := e1 q hq
  exact ⟨sa, vk_R.same (u := U) (U := U.calling f mk a) rfl h⟩
/-- the exception's name, by its number -/
def zE (k : Int32) : String := if k = 1 then "java/lang/IndexOutOfBoundsException" else if k = 2 then "java/lang/IllegalArgumentException" else "java/lang/IllegalStateException"
abbrev zPm (g : zG) (av : List Value) (w : va_W) (sz : Nat) : Array Value → State → Prop := va_Pc av (fun U => U.heap.size = sz ∧ zP g w U.heap ∧ zK g U ∧ va_D (fun _ => True) w ∧ zAm (va_A w sz) U U.heap)
theorem zblindM (g : zG) (av : List Value) (w : va_W) (sz : Nat) : FrameBlind (zPm g av w sz) := fun a U f mk q => ⟨q.1, q.2.1, q.2.2.1, va_K.moved (u := U) (U := U.calling f mk a) (Vm.Alike.refl U.vm) q.2.2.2.1, q.2.2.2.2.1, zAm.frame q.2.2.2.2.2⟩
/-- a method that never throws, over statics -/
def Ma (l : Launch) (g : zG) (y : MethodName) (ws : List Cond) (rm : Room) (av : List Value) (w : va_W) (Q : (Nat → Prop) → Array Value → State → Outcome → State → Prop) : Prop :=
  ∀ sz : Nat, Met l y ws rm (zPm g av w sz) (Q (va_A w sz)) 0 0 (va_A w sz)
/-- a method that answers (k = 0) or throws the exception of number k, the cells of its world holding w2 then -/
def zXi (g : zG) (w2 : va_W) (k r : Int32) (A : Nat → Prop) : Array Value → State → Outcome → State → Prop := fun _ st o t => k = 0 ∧ o = .returned (some (.int r)) ∧ zP g w2 t.heap ∧ va_F A st t
def zXv (g : zG) (w2 : va_W) (k : Int32) (A : Nat → Prop) : Array Value → State → Outcome → State → Prop := fun _ st o t => k = 0 ∧ o = .returned none ∧ zP g w2 t.heap ∧ va_F A st t
def zXx (g : zG) (w2 : va_W) (k : Int32) (A : Nat → Prop) : String → State → State → Prop := fun E st t => ¬ k = 0 ∧ E = zE k ∧ zP g w2 t.heap ∧ va_F A st t
def Mx (l : Launch) (g : zG) (y : MethodName) (ws : List Cond) (rm : Room) (av : List Value) (w : va_W) (Q : (Nat → Prop) → Array Value → State → Outcome → State → Prop) (X : (Nat → Prop) → String → State → State → Prop) (mc ms : Nat) : Prop :=
  ∀ sz : Nat, vx_Met l y ws rm (zPm g av w sz) (Q (va_A w sz)) (X (va_A w sz)) mc ms (va_A w sz)
theorem zm_in {l : Launch} {g : zG} {y : MethodName} {ws ws' : List Cond} {rm : Room} {av : List Value} {w : va_W} {Q : (Nat → Prop) → Array Value → State → Outcome → State → Prop} {cc : ByteArray} {maxL : Nat} {ret : Option FieldType}
    (hy : plainName y.cls = true) (hw : ws = Cond.code y cc maxL ret :: ws') (hlen : (lg_sl av).length ≤ maxL)
    (k : ∀ (p : Program) (e : Env) (s : State) (m : MethodId) (below : List Frame) (meth : Method) (c : Code), p.tables.exec = Jvm.exec → c.code = cc → meth.sig.returnType = ret → c.maxLocals = maxL → (∀ w ∈ ws, w.before av.toArray s = true) → s.vm.findClass y.cls = some m.cls → meth.locks = false → zK g s →
      ∀ (A : Nat → Prop), (∀ q : Nat, s.heap.size ≤ q → A q) → zP g w s.heap → va_D A w → va_S A s.heap s.heap [] → zAm A s s.heap →
      ∀ ls : Array Slot, lv_has ls maxL (lv_args 0 av) → W p l e rm s m av.toArray below meth c s.heap [] 0 0 (MQ below (Q A) av.toArray s 0 0 A) (F0 m 0 ls [])) : Ma l g y ws rm av w Q := by
  intro sz
  refine Met.ofW (cc := cc) (maxL := maxL) (ret := ret) hy hw ?_
  intro p e s m args below meth c s₁ B hml hv
  obtain ⟨rfl, hsz, hP, hK, hD0, hAm⟩ := hv
  subst hsz
  have hl := lv_entry av (n := maxL) hlen
  rw [lg_entry_eq]
  exact k p e s m below meth c B.exec B.bytes B.returns hml (atoms_spec (ws := ws) B.pre) (findClass_of_methodNamed B.named) B.notSynchronized hK (va_A w s.heap.size) (fun q h => Or.inr h) hP hD0.self va_S.rf hAm _ hl
theorem zx_in {l : Launch} {g : zG} {y : MethodName} {ws ws' : List Cond} {rm : Room} {av : List Value} {w : va_W} {Q : (Nat → Prop) → Array Value → State → Outcome → State → Prop} {X : (Nat → Prop) → String → State → State → Prop} {mc ms : Nat} {cc : ByteArray} {maxL : Nat} {ret : Option FieldType}
    (hy : plainName y.cls = true) (hw : ws = Cond.code y cc maxL ret :: ws') (hlen : (lg_sl av).length ≤ maxL)
    (k : ∀ (p : Program) (e : Env) (s : State) (m : MethodId) (below : List Frame) (meth : Method) (c : Code), p.tables.exec = Jvm.exec → c.code = cc → meth.sig.returnType = ret → c.maxLocals = maxL → (∀ w ∈ ws, w.before av.toArray s = true) → s.vm.findClass y.cls = some m.cls → meth.locks = false → zK g s → (∀ x ∈ c.exceptionTable.toList, False) →
      ∀ (A : Nat → Prop), (∀ q : Nat, s.heap.size ≤ q → A q) → zP g w s.heap → va_D A w → va_S A s.heap s.heap [] → zAm A s s.heap →
      ∀ ls : Array Slot, lv_has ls maxL (lv_args 0 av) → W p l e rm s m av.toArray below meth c s.heap [] 0 0 (vx_MQ below (Q A) (X A) av.toArray s mc ms A) (F0 m 0 ls [])) : Mx l g y ws rm av w Q X mc ms := by
  intro sz
  refine vx_ofW (cc := cc) (maxL := maxL) (ret := ret) hy hw ?_
  intro p e s m args below meth c s₁ B hml ht hv
  obtain ⟨rfl, hsz, hP, hK, hD0, hAm⟩ := hv
  subst hsz
  have hl := lv_entry av (n := maxL) hlen
  rw [lg_entry_eq]
  exact k p e s m below meth c B.exec B.bytes B.returns hml (atoms_spec (ws := ws) B.pre) (findClass_of_methodNamed B.named) B.notSynchronized hK ht (va_A w s.heap.size) (fun q h => Or.inr h) hP hD0.self va_S.rf hAm _ hl
section ZX
variable {p : Program} {l : Launch} {e : Env} {R : Room} {s : State} {m : MethodId} {args : Array Value} {below : List Frame} {meth : Method} {c : Code} {H : Heap} {locs : List Loc} {cells slots : Nat} {Q : State → Prop} {g : zG} {cc : ByteArray} {pc : Nat} {ls : Array Slot} {rest st : List Value} {A : Nat → Prop} {a : Nat} {w : va_W} {mc ms : Nat}
/-- ends of a body that may throw -/
theorem zx_i {r : Int32} {w2 : va_W} {XC : (Nat → Prop) → String → State → State → Prop} (hx : p.tables.exec = Jvm.exec) (hb : c.code = cc) (hr : meth.sig.returnType = some .int) (hlocks : meth.locks = false) (hP : zP g w2 H) (hS : va_S A s.heap H locs) (h1 : cells ≤ mc) (h2 : slots ≤ ms) (hdg : decode cc pc = .ok (.ireturn, 1)) : W p l e R s m args below meth c H locs cells slots (vx_MQ below (zXi g w2 0 r A) (XC A) args s mc ms A) (F0 m pc ls [.int r]) :=
  W.widen h1 h2 (vx_ret (W.iret hx hb hr (fun _ ht _ => ⟨rfl, rfl, by rw [ht]; exact hP, hS.F ht⟩) hS.2.2 hdg hlocks))
theorem zx_v {w2 : va_W} {XC : (Nat → Prop) → String → State → State → Prop} (hx : p.tables.exec = Jvm.exec) (hb : c.code = cc) (hr : meth.sig.returnType = none) (hlocks : meth.locks = false) (hP : zP g w2 H) (hS : va_S A s.heap H locs) (h1 : cells ≤ mc) (h2 : slots ≤ ms) (hdg : decode cc pc = .ok (.return_, 1)) : W p l e R s m args below meth c H locs cells slots (vx_MQ below (zXv g w2 0 A) (XC A) args s mc ms A) (F0 m pc ls []) :=
  W.widen h1 h2 (vx_ret (W.vret hx hb hr (fun _ ht _ => ⟨rfl, rfl, by rw [ht]; exact hP, hS.F ht⟩) hS.2.2 hdg hlocks))
/-- not caught here -/
theorem zx_out {Qc : Array Value → State → Outcome → State → Prop} {w2 : va_W} {k : Int32} {q : Addr} {ce : Cell} (ht : ∀ x ∈ c.exceptionTable.toList, False) (hlocks : meth.locks = false) (hk : ¬ k = 0) (hP : zP g w2 H) (hS : va_S A s.heap H locs) (hcell : H[q]? = some ce) (hv : ce.vm = .none) (hcl : s.vm.findClass (zE k) = some ce.cls) (h1 : cells ≤ mc) (h2 : slots ≤ ms) :
    vx_W p l e R s m args below meth c H locs cells slots (vx_MQ below Qc (zXx g w2 k A) args s mc ms A) (F0 m pc ls rest) q :=
  vx_out (fun x hx => (ht x hx).elim) hlocks hcell hv hcl (fun t hh _ => ⟨hk, rfl, by rw [hh]; exact hP, hS.F hh⟩) hS.2.2 h1 h2
/-- throw new E(text) -/
theorem zx_throw {Qc : Array Value → State → Outcome → State → Prop} {w2 : va_W} {k : Int32} {ik is ic : Nat} {text : String} {Ts : List Cond} (hx : p.tables.exec = Jvm.exec) (hb : c.code = cc) (hl : l.stackTraces = false) (hown : s.vm.findClass RX3 = some m.cls) (hts : ∀ w ∈ Ts, w.before args s = true) (hk0 : ¬ k = 0) (hE : zE k ∈ zExc)
    (hk : Cond.classLink RX3 ik (zE k) ∈ Ts) (hini : Cond.initialized (zE k) ∈ Ts) (hat : ∀ w ∈ (vx_atS RX3 ic (zE k) ["java/lang/RuntimeException", "java/lang/Exception"]).filter goodWord, w ∈ Ts) (hbad : ∀ w ∈ (vx_atS RX3 ic (zE k) ["java/lang/RuntimeException", "java/lang/Exception"]).filter (fun w => !goodWord w), w ∈ Cond.castable (zE k) (zE k) :: zDec.map Cond.declares)
    (hgood : ∀ w ∈ Cond.classLink RX3 ik (zE k) :: Cond.initialized (zE k) :: vx_atS RX3 ic (zE k) ["java/lang/RuntimeException", "java/lang/Exception"], vx_ot w = true) (hfit : Bundle.fit (zE k) = true) (hnames : ∀ n ∈ ["java/lang/RuntimeException", "java/lang/Exception"], Bundle.fit n = true)
    (hstr : (is, text) ∈ zStr) (hAm : zAm A s s.heap) (hP : zP g w2 H) (hS : va_S A s.heap H locs) (hsize : ls.size = c.maxLocals)
    (d0 : decode cc pc = .ok (.new ik, 3)) (d3 : decode cc (pc + 3) = .ok (.dup, 1)) (d4 : decode cc (pc + 4) = .ok (.ldc is, 2)) (d6 : decode cc (pc + 6) = .ok (.invokespecial ic, 3)) (d9 : decode cc (pc + 9) = .ok (.athrow, 1))
    (ht : ∀ x ∈ c.exceptionTable.toList, False) (hRf : 5 < R.frames) (hRl : (rest.map fun v => v.category).sum + 82 ≤ R.locals) (hRc : cells + 1 ≤ R.cells) (hRs : slots + 6 ≤ R.slots) (hlocks : meth.locks = false) (hc : cells + 1 ≤ mc) (hs : slots + 6 ≤ ms) :
    W p l e R s m args below meth c H locs cells slots (vx_MQ below Qc (zXx g w2 k A) args s mc ms A) (F0 m pc ls rest) := by
  obtain ⟨-, -, hU, hN, hst, hca, -⟩ := id hAm
  obtain ⟨sa, hsa⟩ := hst _ hstr
  refine vx_throwS (names := ["java/lang/RuntimeException", "java/lang/Exception"]) hx hb hl hown hfit hnames (hts _ hk) (hts _ hini) hsa (vx_hat (fun w hw => hts w (hat w hw)) hbad (fun w hw => ?_)) hgood hU hN hS hsize d0 d3 d4 d6 d9 (fun x hx => (ht x hx).elim) hRf hRl hRc hRs hlocks (fun t hal hsz hq => ⟨hk0, rfl, ?_, ?_⟩) hS.2.2 hc hs
  · rcases List.mem_cons.mp hw with rfl | hw
    · exact va_Nw.use rfl (hca.1 _ hE)
    · obtain ⟨y, hy, rfl⟩ := List.mem_map.mp hw
      exact va_Nw.use rfl (hca.2 y hy)
  · exact hP.kept (fun j q hj => hq q.1 (hP j q hj).lt)
  · exact ⟨Nat.le_trans hS.1 hsz, fun q h1 h2 => (hq q (Nat.lt_of_lt_of_le h1 hS.1)).trans (hS.2.1 q h1 h2)⟩
theorem zx_throwW {Qc : Array Value → State → Outcome → State → Prop} {w2 : va_W} {k : Int32} {ik is ic : Nat} {text : String} {Ts : List Cond} (hx : p.tables.exec = Jvm.exec) (hb : c.code = cc) (hl : l.stackTraces = false) (hown : s.vm.findClass RX3 = some m.cls) (hts : ∀ w ∈ Ts, w.before args s = true) (hk0 : ¬ k = 0) (hE : zE k ∈ zExc)
    (hk : Cond.classLink RX3 ik (zE k) ∈ Ts) (hini : Cond.initialized (zE k) ∈ Ts) (hat : ∀ w ∈ (vx_atS RX3 ic (zE k) ["java/lang/RuntimeException", "java/lang/Exception"]).filter goodWord, w ∈ Ts) (hbad : ∀ w ∈ (vx_atS RX3 ic (zE k) ["java/lang/RuntimeException", "java/lang/Exception"]).filter (fun w => !goodWord w), w ∈ Cond.castable (zE k) (zE k) :: zDec.map Cond.declares)
    (hgood : ∀ w ∈ Cond.classLink RX3 ik (zE k) :: Cond.initialized (zE k) :: vx_atS RX3 ic (zE k) ["java/lang/RuntimeException", "java/lang/Exception"], vx_ot w = true) (hfit : Bundle.fit (zE k) = true) (hnames : ∀ n ∈ ["java/lang/RuntimeException", "java/lang/Exception"], Bundle.fit n = true)
    (hstr : (is, text) ∈ zStr) (hAm : zAm A s s.heap) (hP : zP g w2 H) (hS : va_S A s.heap H locs) (hsize : ls.size = c.maxLocals)
    (d0 : decode cc pc = .ok (.new ik, 3)) (d3 : decode cc (pc + 3) = .ok (.dup, 1)) (d4 : decode cc (pc + 4) = .ok (.ldc_w is, 3)) (d7 : decode cc (pc + 7) = .ok (.invokespecial ic, 3)) (d10 : decode cc (pc + 10) = .ok (.athrow, 1))
    (ht : ∀ x ∈ c.exceptionTable.toList, False) (hRf : 5 < R.frames) (hRl : (rest.map fun v => v.category).sum + 82 ≤ R.locals) (hRc : cells + 1 ≤ R.cells) (hRs : slots + 6 ≤ R.slots) (hlocks : meth.locks = false) (hc : cells + 1 ≤ mc) (hs : slots + 6 ≤ ms) :
    W p l e R s m args below meth c H locs cells slots (vx_MQ below Qc (zXx g w2 k A) args s mc ms A) (F0 m pc ls rest) := by
  obtain ⟨-, -, hU, hN, hst, hca, -⟩ := id hAm
  obtain ⟨sa, hsa⟩ := hst _ hstr
  refine vx_throwSW (names := ["java/lang/RuntimeException", "java/lang/Exception"]) hx hb hl hown hfit hnames (hts _ hk) (hts _ hini) hsa (vx_hat (fun w hw => hts w (hat w hw)) hbad (fun w hw => ?_)) hgood hU hN hS hsize d0 d3 d4 d7 d10 (fun x hx => (ht x hx).elim) hRf hRl hRc hRs hlocks (fun t hal hsz hq => ⟨hk0, rfl, ?_, ?_⟩) hS.2.2 hc hs
  · rcases List.mem_cons.mp hw with rfl | hw
    · exact va_Nw.use rfl (hca.1 _ hE)
    · obtain ⟨y, hy, rfl⟩ := List.mem_map.mp hw
      exact va_Nw.use rfl (hca.2 y hy)
  · exact hP.kept (fun j q hj => hq q.1 (hP j q hj).lt)
  · exact ⟨Nat.le_trans hS.1 hsz, fun q h1 h2 => (hq q (Nat.lt_of_lt_of_le h1 hS.1)).trans (hS.2.1 q h1 h2)⟩
end ZX
section ZXC
variable {p : Program} {l : Launch} {e : Env} {R : Room} {s : State} {m : MethodId} {args : Array Value} {below : List Frame} {meth : Method} {c : Code} {H : Heap} {locs : List Loc} {cells slots : Nat} {Q : State → Prop} {g : zG} {cc : ByteArray} {pc : Nat} {ls : Array Slot} {rest st : List Value} {A : Nat → Prop} {a : Nat} {w : va_W}
  {y : MethodName} {bytes : ByteArray} {maxL nL n index : Nat} {ret : Option FieldType} {ws : List Cond} {rm : Room} {Ts : List Cond} {own C : String} {b : Addr} {As : List Value} {wc : va_W} {mc ms : Nat}
theorem zPreM (hK : zK g s) (hP : zP g w H) (hD : va_D A w) (hS : va_S A s.heap H locs) (hA : ∀ q, s.heap.size ≤ q → A q) (hAm : zAm A s s.heap) (is : List Nat) (hnd : va_nd is = true) (hC : is.map (fun i => w[i]?) = wc.map some) : ∀ U : State, U.heap = H → s.WarmedH U.vm → U.heap.size = H.size ∧ zP g wc U.heap ∧ zK g U ∧ va_D (fun _ => True) wc ∧ zAm (va_A wc H.size) U U.heap :=
  fun U hU hW => ⟨by rw [hU], (zPre hK hP is hC U hU hW).1, (zPre hK hP is hC U hU hW).2, zDre hD is hnd hC, hAm.call hS hU hW (va_free hD hS hA is hC)⟩
/-- a static call of a method over statics that never throws -/
theorem zSa {Qy : (Nat → Prop) → Array Value → State → Outcome → State → Prop} {v0 : Option Value} {wq : va_W} (hQ : ∀ A a st₀ o t, Qy A a st₀ o t → o = .returned v0 ∧ zP g wq t.heap ∧ va_F A st₀ t) (S : CallFix p m c cc nL s args Ts own) (hM : Ma l g y ws rm As wc Qy) (cw : CallB R s args own index y bytes maxL ret ws rm 0 0 n ∧ (Cond.static y).before args s = true) (hK : zK g s) (hP : zP g w H) (hD : va_D A w) (hS : va_S A s.heap H locs) (hA : ∀ q, s.heap.size ≤ q → A q) (hAm : zAm A s s.heap) (is : List Nat) (hnd : va_nd is = true) (hC : is.map (fun i => w[i]?) = wc.map some) (he1 : wq.map Prod.fst = wc.map Prod.fst) (hn : As.length = n) (hsize : ls.size = nL) (hst : st = As.reverse ++ rest) (hW : (rest.map fun v => v.category).sum ≤ 8) (hf : cells ≤ R.cells ∧ slots ≤ R.slots) (hdg : decode cc pc = .ok (.invokestatic index, 3))
    (kk : ∀ (H1 : Heap) (locs1 : List Loc), zP g (zput w is wq) H1 → va_D A (zput w is wq) → va_S A s.heap H1 locs1 → W p l e R s m args below meth c H1 locs1 cells slots Q (F0 m (pc + 3) ls (v0.toList ++ rest))) : W p l e R s m args below meth c H locs cells slots Q (F0 m pc ls st) :=
  zw_back (wc := wc) (hQ _ _) (va_runS (As := As) (rest := rest) S (hM H.size) cw ⟨zblindM g _ wc H.size, fun U hU hW' => ⟨rfl, zPreM hK hP hD hS hA hAm is hnd hC U hU hW'⟩⟩ rfl hn hsize hst (lv_room hW) hdg hf) rfl rfl hP hD hS hA is hC he1 kk
theorem zVa {Qy : (Nat → Prop) → Array Value → State → Outcome → State → Prop} {v0 : Option Value} {wq : va_W} (hQ : ∀ A a st₀ o t, Qy A a st₀ o t → o = .returned v0 ∧ zP g wq t.heap ∧ va_F A st₀ t) (S : CallFix p m c cc nL s args Ts own) (hM : Ma l g y ws rm (.ref b :: As) wc Qy) (cw : CallW R s args own C index y bytes maxL ret ws rm 0 0 n) (hK : zK g s) (hP : zP g w H) (hD : va_D A w) (hS : va_S A s.heap H locs) (hA : ∀ q, s.heap.size ≤ q → A q) (hAm : zAm A s s.heap) (is : List Nat) (hnd : va_nd is = true) (hC : is.map (fun i => w[i]?) = wc.map some) (he1 : wq.map Prod.fst = wc.map Prod.fst) (q0 : Nat) {ci : Nat} {fs : List Value} {T : u_T} {N : Nat} (he : w[q0]? = some (b, .inr (ci, fs))) (hc : vwCl[ci]? = some (C, T, N)) (hn : As.length = n) (hsize : ls.size = nL) (hst : st = As.reverse ++ .ref b :: rest) (hW : (rest.map fun v => v.category).sum ≤ 8) (hf : cells ≤ R.cells ∧ slots ≤ R.slots) (hdg : decode cc pc = .ok (.invokevirtual index, 3))
    (kk : ∀ (H1 : Heap) (locs1 : List Loc), zP g (zput w is wq) H1 → va_D A (zput w is wq) → va_S A s.heap H1 locs1 → W p l e R s m args below meth c H1 locs1 cells slots Q (F0 m (pc + 3) ls (v0.toList ++ rest))) : W p l e R s m args below meth c H locs cells slots Q (F0 m pc ls st) :=
  zw_back (wc := wc) (hQ _ _) (va_runV (As := As) (rest := rest) S (hM H.size) cw ⟨zblindM g _ wc H.size, va_recv hK hP (ci := ci) (q0 := q0) hc he, fun U hU hW' => ⟨rfl, zPreM hK hP hD hS hA hAm is hnd hC U hU hW'⟩⟩ rfl hn hsize hst (lv_room hW) hdg hf) rfl rfl hP hD hS hA is hC he1 kk
/-- behind a call that may throw -/
theorem zx_back {Qa : State → Outcome → State → Prop} {XC : String → State → State → Prop} {v0 : Option Value} {wq : va_W} {k : Int32} (hq : ∀ st₀ o t, Qa st₀ o t → k = 0 ∧ o = .returned v0 ∧ zP g wq t.heap ∧ va_F (va_A wc H.size) st₀ t) (hqx : ∀ E st₀ t, XC E st₀ t → ¬ k = 0 ∧ E = zE k ∧ zP g wq t.heap ∧ va_F (va_A wc H.size) st₀ t)
    (hr : vx_Run p l e R s m args below meth c H locs cells slots mc ms (F0 m pc ls st) rest Qa XC (va_A wc H.size))
    (hP : zP g w H) (hD : va_D A w) (hS : va_S A s.heap H locs) (hA : ∀ q, s.heap.size ≤ q → A q) (is : List Nat) (hC : is.map (fun i => w[i]?) = wc.map some) (he : wq.map Prod.fst = wc.map Prod.fst)
    (kx : ¬ k = 0 → ∀ (H1 : Heap) (locs1 : List Loc) (q : Addr) (ce : Cell), zP g (zput w is wq) H1 → va_D A (zput w is wq) → va_S A s.heap H1 locs1 → H1[q]? = some ce → ce.vm = .none → s.vm.findClass (zE k) = some ce.cls → vx_W p l e R s m args below meth c H1 locs1 (cells + mc) (slots + ms) Q (F0 m pc ls rest) q)
    (kk : k = 0 → ∀ (H1 : Heap) (locs1 : List Loc), zP g (zput w is wq) H1 → va_D A (zput w is wq) → va_S A s.heap H1 locs1 → W p l e R s m args below meth c H1 locs1 (cells + mc) (slots + ms) Q (F0 m (pc + 3) ls (v0.toList ++ rest))) : W p l e R s m args below meth c H locs cells slots Q (F0 m pc ls st) := by
  intro T hT X
  have hfree := va_free hD hS hA is hC
  have key : ∀ (st₀ t T' : State) (L : List Loc), st₀.heap = H → T'.heap = t.heap → (∀ q ∈ L, va_A wc H.size q.base) → zP g wq t.heap → va_F (va_A wc H.size) st₀ t → (zP g (zput w is wq) T'.heap ∧ va_D A (zput w is wq)) ∧ va_S A s.heap T'.heap (locs ++ L) := by
    intro st₀ t T' L h0 e1 hL hPq hF
    obtain ⟨hz, hk⟩ := hF
    rw [h0] at hz hk
    obtain ⟨hP2, hD2⟩ := zjoin hP hD is hC he hk hPq
    refine ⟨⟨by rw [e1]; exact hP2, hD2⟩, Nat.le_trans hS.1 (by rw [e1]; exact hz), fun q h1 h2 => by rw [e1, hk q (Nat.lt_of_lt_of_le h1 hS.1) (fun z => h2 (hfree q z))]; exact hS.2.1 q h1 h2, fun q hq => ?_⟩
    rcases List.mem_append.mp hq with h | h
    · exact hS.2.2 q h
    · exact hfree _ (hL q h)
  rcases hr T hT X with ⟨v, st₀, t, T', L, h0, X', hL, e1, e2, hqa, st⟩ | ⟨q, st₀, t, T', L, E, ce, h0, X', hL, e1, e2, hxa, hce, hcv, hcl, st⟩
  · obtain ⟨hk0, hv, hPq, hF⟩ := hq _ _ _ hqa
    cases hv
    obtain ⟨⟨hP2, hD2⟩, hS2⟩ := key st₀ t T' L h0 e1 hL hPq hF
    obtain ⟨t2, a1, b1⟩ := kk hk0 T'.heap (locs ++ L) hP2 hD2 hS2 T' rfl X'
    exact ⟨t2, st t2 a1, b1⟩
  · obtain ⟨hk0, hE, hPq, hF⟩ := hqx _ _ _ hxa
    subst hE
    obtain ⟨⟨hP2, hD2⟩, hS2⟩ := key st₀ t T' L h0 e1 hL hPq hF
    obtain ⟨t2, a1, b1⟩ := kx hk0 T'.heap (locs ++ L) q ce hP2 hD2 hS2 (by rw [e1]; exact hce) hcv hcl T' rfl X'
    exact ⟨t2, st.trans a1, b1⟩
theorem zSx {Qy : (Nat → Prop) → Array Value → State → Outcome → State → Prop} {Xy : (Nat → Prop) → String → State → State → Prop} {v0 : Option Value} {wq : va_W} {k : Int32} (hQ : ∀ A a st₀ o t, Qy A a st₀ o t → k = 0 ∧ o = .returned v0 ∧ zP g wq t.heap ∧ va_F A st₀ t) (hX : ∀ A E st₀ t, Xy A E st₀ t → ¬ k = 0 ∧ E = zE k ∧ zP g wq t.heap ∧ va_F A st₀ t) (S : CallFix p m c cc nL s args Ts own) (hM : Mx l g y ws rm As wc Qy Xy mc ms) (cw : CallB R s args own index y bytes maxL ret ws rm mc ms n ∧ (Cond.static y).before args s = true) (hK : zK g s) (hP : zP g w H) (hD : va_D A w) (hS : va_S A s.heap H locs) (hA : ∀ q, s.heap.size ≤ q → A q) (hAm : zAm A s s.heap) (is : List Nat) (hnd : va_nd is = true) (hC : is.map (fun i => w[i]?) = wc.map some) (he1 : wq.map Prod.fst = wc.map Prod.fst) (hn : As.length = n) (hsize : ls.size = nL) (hst : st = As.reverse ++ rest) (hW : (rest.map fun v => v.category).sum ≤ 8) (hf : cells + mc ≤ R.cells ∧ slots + ms ≤ R.slots) (hdg : decode cc pc = .ok (.invokestatic index, 3))
    (kx : ¬ k = 0 → ∀ (H1 : Heap) (locs1 : List Loc) (q : Addr) (ce : Cell), zP g (zput w is wq) H1 → va_D A (zput w is wq) → va_S A s.heap H1 locs1 → H1[q]? = some ce → ce.vm = .none → s.vm.findClass (zE k) = some ce.cls → vx_W p l e R s m args below meth c H1 locs1 (cells + mc) (slots + ms) Q (F0 m pc ls rest) q)
    (kk : k = 0 → ∀ (H1 : Heap) (locs1 : List Loc), zP g (zput w is wq) H1 → va_D A (zput w is wq) → va_S A s.heap H1 locs1 → W p l e R s m args below meth c H1 locs1 (cells + mc) (slots + ms) Q (F0 m (pc + 3) ls (v0.toList ++ rest))) : W p l e R s m args below meth c H locs cells slots Q (F0 m pc ls st) :=
  zx_back (wc := wc) (hQ _ _) (hX _) (vx_runS (As := As) (rest := rest) S (hM H.size) cw ⟨zblindM g _ wc H.size, fun U hU hW' => ⟨rfl, zPreM hK hP hD hS hA hAm is hnd hC U hU hW'⟩⟩ rfl hn hsize hst (lv_room hW) hdg hf) hP hD hS hA is hC he1 kx kk
theorem zVx {Qy : (Nat → Prop) → Array Value → State → Outcome → State → Prop} {Xy : (Nat → Prop) → String → State → State → Prop} {v0 : Option Value} {wq : va_W} {k : Int32} (hQ : ∀ A a st₀ o t, Qy A a st₀ o t → k = 0 ∧ o = .returned v0 ∧ zP g wq t.heap ∧ va_F A st₀ t) (hX : ∀ A E st₀ t, Xy A E st₀ t → ¬ k = 0 ∧ E = zE k ∧ zP g wq t.heap ∧ va_F A st₀ t) (S : CallFix p m c cc nL s args Ts own) (hM : Mx l g y ws rm (.ref b :: As) wc Qy Xy mc ms) (cw : CallW R s args own C index y bytes maxL ret ws rm mc ms n) (hK : zK g s) (hP : zP g w H) (hD : va_D A w) (hS : va_S A s.heap H locs) (hA : ∀ q, s.heap.size ≤ q → A q) (hAm : zAm A s s.heap) (is : List Nat) (hnd : va_nd is = true) (hC : is.map (fun i => w[i]?) = wc.map some) (he1 : wq.map Prod.fst = wc.map Prod.fst) (q0 : Nat) {ci : Nat} {fs : List Value} {T : u_T} {N : Nat} (he : w[q0]? = some (b, .inr (ci, fs))) (hc : vwCl[ci]? = some (C, T, N)) (hn : As.length = n) (hsize : ls.size = nL) (hst : st = As.reverse ++ .ref b :: rest) (hW : (rest.map fun v => v.category).sum ≤ 8) (hf : cells + mc ≤ R.cells ∧ slots + ms ≤ R.slots) (hdg : decode cc pc = .ok (.invokevirtual index, 3))
    (kx : ¬ k = 0 → ∀ (H1 : Heap) (locs1 : List Loc) (q : Addr) (ce : Cell), zP g (zput w is wq) H1 → va_D A (zput w is wq) → va_S A s.heap H1 locs1 → H1[q]? = some ce → ce.vm = .none → s.vm.findClass (zE k) = some ce.cls → vx_W p l e R s m args below meth c H1 locs1 (cells + mc) (slots + ms) Q (F0 m pc ls rest) q)
    (kk : k = 0 → ∀ (H1 : Heap) (locs1 : List Loc), zP g (zput w is wq) H1 → va_D A (zput w is wq) → va_S A s.heap H1 locs1 → W p l e R s m args below meth c H1 locs1 (cells + mc) (slots + ms) Q (F0 m (pc + 3) ls (v0.toList ++ rest))) : W p l e R s m args below meth c H locs cells slots Q (F0 m pc ls st) :=
  zx_back (wc := wc) (hQ _ _) (hX _) (vx_runV (As := As) (rest := rest) S (hM H.size) cw ⟨zblindM g _ wc H.size, va_recv hK hP (ci := ci) (q0 := q0) hc he, fun U hU hW' => ⟨rfl, zPreM hK hP hD hS hA hAm is hnd hC U hU hW'⟩⟩ rfl hn hsize hst (lv_room hW) hdg hf) hP hD hS hA is hC he1 kx kk
theorem zXi_q (g : zG) (w2 : va_W) (k r : Int32) : ∀ A a st₀ o t, zXi g w2 k r A a st₀ o t → k = 0 ∧ o = .returned (some (.int r)) ∧ zP g w2 t.heap ∧ va_F A st₀ t := fun _ _ _ _ _ h => h
theorem zXv_q (g : zG) (w2 : va_W) (k : Int32) : ∀ A a st₀ o t, zXv g w2 k A a st₀ o t → k = 0 ∧ o = .returned none ∧ zP g w2 t.heap ∧ va_F A st₀ t := fun _ _ _ _ _ h => h
theorem zXx_q (g : zG) (w2 : va_W) (k : Int32) : ∀ A E st₀ t, zXx g w2 k A E st₀ t → ¬ k = 0 ∧ E = zE k ∧ zP g w2 t.heap ∧ va_F A st₀ t := fun _ _ _ _ h => h
end ZXC
