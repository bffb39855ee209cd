/-! own base: options that are looked into, read-only and writing contracts, their bodies and their calls -/
theorem zn {α : Type} {r : α} {P : Prop} (h : (none : Option α) = some r) : P := nomatch h
theorem zi {P : Prop} [Decidable P] {α : Type} {A : Option α} {r : α} (h : (if P then none else A) = some r) : ¬ P ∧ A = some r := by
  by_cases q : P
  · rw [if_pos q] at h; cases h
  · rw [if_neg q] at h; exact ⟨q, h⟩
theorem zt {P : Prop} [Decidable P] {α : Type} {A B : Option α} {r : α} (c : P) (h : (if P then A else B) = some r) : A = some r := by
  rw [if_pos c] at h; exact h
theorem zf {P : Prop} [Decidable P] {α : Type} {A B : Option α} {r : α} (c : ¬ P) (h : (if P then A else B) = some r) : B = some r := by
  rw [if_neg c] at h; exact h
def ob {α γ : Type} (o : Option α) (k : α → Option γ) : Option γ := match o with
  | none => none
  | some x => k x
def ob2 {α β γ : Type} (o : Option (α × β)) (k : α → β → Option γ) : Option γ := match o with
  | none => none
  | some x => k x.1 x.2
def ob3 {α β β2 γ : Type} (o : Option (α × β × β2)) (k : α → β → β2 → Option γ) : Option γ := match o with
  | none => none
  | some x => k x.1 x.2.1 x.2.2
def ob4 {α β β2 β3 γ : Type} (o : Option (α × β × β2 × β3)) (k : α → β → β2 → β3 → Option γ) : Option γ := match o with
  | none => none
  | some x => k x.1 x.2.1 x.2.2.1 x.2.2.2
def ob5 {α β β2 β3 β4 γ : Type} (o : Option (α × β × β2 × β3 × β4)) (k : α → β → β2 → β3 → β4 → Option γ) : Option γ := match o with
  | none => none
  | some x => k x.1 x.2.1 x.2.2.1 x.2.2.2.1 x.2.2.2.2
def ob6 {α β β2 β3 β4 β5 γ : Type} (o : Option (α × β × β2 × β3 × β4 × β5)) (k : α → β → β2 → β3 → β4 → β5 → Option γ) : Option γ := match o with
  | none => none
  | some x => k x.1 x.2.1 x.2.2.1 x.2.2.2.1 x.2.2.2.2.1 x.2.2.2.2.2
def ob7 {α β β2 β3 β4 β5 β6 γ : Type} (o : Option (α × β × β2 × β3 × β4 × β5 × β6)) (k : α → β → β2 → β3 → β4 → β5 → β6 → Option γ) : Option γ := match o with
  | none => none
  | some x => k x.1 x.2.1 x.2.2.1 x.2.2.2.1 x.2.2.2.2.1 x.2.2.2.2.2.1 x.2.2.2.2.2.2
def ob8 {α β β2 β3 β4 β5 β6 β7 γ : Type} (o : Option (α × β × β2 × β3 × β4 × β5 × β6 × β7)) (k : α → β → β2 → β3 → β4 → β5 → β6 → β7 → Option γ) : Option γ := match o with
  | none => none
  | some x => k x.1 x.2.1 x.2.2.1 x.2.2.2.1 x.2.2.2.2.1 x.2.2.2.2.2.1 x.2.2.2.2.2.2.1 x.2.2.2.2.2.2.2
def ob9 {α β β2 β3 β4 β5 β6 β7 β8 γ : Type} (o : Option (α × β × β2 × β3 × β4 × β5 × β6 × β7 × β8)) (k : α → β → β2 → β3 → β4 → β5 → β6 → β7 → β8 → Option γ) : Option γ := match o with
  | none => none
  | some x => k x.1 x.2.1 x.2.2.1 x.2.2.2.1 x.2.2.2.2.1 x.2.2.2.2.2.1 x.2.2.2.2.2.2.1 x.2.2.2.2.2.2.2.1 x.2.2.2.2.2.2.2.2
theorem zb {α γ : Type} {o : Option α} {k : α → Option γ} {r : γ} (h : ob o k = some r) : ∃ a, o = some a ∧ k a = some r := by
  cases o with
  | none => exact zn h
  | some x => exact ⟨x, rfl, h⟩
theorem zb2 {α β γ : Type} {o : Option (α × β)} {k : α → β → Option γ} {r : γ} (h : ob2 o k = some r) : ∃ a b, o = some (a, b) ∧ k a b = some r := by
  cases o with
  | none => exact zn h
  | some x => exact ⟨x.1, x.2, rfl, h⟩
theorem zb3 {α β β2 γ : Type} {o : Option (α × β × β2)} {k : α → β → β2 → Option γ} {r : γ} (h : ob3 o k = some r) : ∃ a b b2, o = some (a, b, b2) ∧ k a b b2 = some r := by
  cases o with
  | none => exact zn h
  | some x => exact ⟨x.1, x.2.1, x.2.2, rfl, h⟩
theorem zb4 {α β β2 β3 γ : Type} {o : Option (α × β × β2 × β3)} {k : α → β → β2 → β3 → Option γ} {r : γ} (h : ob4 o k = some r) : ∃ a b b2 b3, o = some (a, b, b2, b3) ∧ k a b b2 b3 = some r := by
  cases o with
  | none => exact zn h
  | some x => exact ⟨x.1, x.2.1, x.2.2.1, x.2.2.2, rfl, h⟩
theorem zb5 {α β β2 β3 β4 γ : Type} {o : Option (α × β × β2 × β3 × β4)} {k : α → β → β2 → β3 → β4 → Option γ} {r : γ} (h : ob5 o k = some r) : ∃ a b b2 b3 b4, o = some (a, b, b2, b3, b4) ∧ k a b b2 b3 b4 = some r := by
  cases o with
  | none => exact zn h
  | some x => exact ⟨x.1, x.2.1, x.2.2.1, x.2.2.2.1, x.2.2.2.2, rfl, h⟩
theorem zb6 {α β β2 β3 β4 β5 γ : Type} {o : Option (α × β × β2 × β3 × β4 × β5)} {k : α → β → β2 → β3 → β4 → β5 → Option γ} {r : γ} (h : ob6 o k = some r) : ∃ a b b2 b3 b4 b5, o = some (a, b, b2, b3, b4, b5) ∧ k a b b2 b3 b4 b5 = some r := by
  cases o with
  | none => exact zn h
  | some x => exact ⟨x.1, x.2.1, x.2.2.1, x.2.2.2.1, x.2.2.2.2.1, x.2.2.2.2.2, rfl, h⟩
theorem zb7 {α β β2 β3 β4 β5 β6 γ : Type} {o : Option (α × β × β2 × β3 × β4 × β5 × β6)} {k : α → β → β2 → β3 → β4 → β5 → β6 → Option γ} {r : γ} (h : ob7 o k = some r) : ∃ a b b2 b3 b4 b5 b6, o = some (a, b, b2, b3, b4, b5, b6) ∧ k a b b2 b3 b4 b5 b6 = some r := by
  cases o with
  | none => exact zn h
  | some x => exact ⟨x.1, x.2.1, x.2.2.1, x.2.2.2.1, x.2.2.2.2.1, x.2.2.2.2.2.1, x.2.2.2.2.2.2, rfl, h⟩
theorem zb8 {α β β2 β3 β4 β5 β6 β7 γ : Type} {o : Option (α × β × β2 × β3 × β4 × β5 × β6 × β7)} {k : α → β → β2 → β3 → β4 → β5 → β6 → β7 → Option γ} {r : γ} (h : ob8 o k = some r) : ∃ a b b2 b3 b4 b5 b6 b7, o = some (a, b, b2, b3, b4, b5, b6, b7) ∧ k a b b2 b3 b4 b5 b6 b7 = some r := by
  cases o with
  | none => exact zn h
  | some x => exact ⟨x.1, x.2.1, x.2.2.1, x.2.2.2.1, x.2.2.2.2.1, x.2.2.2.2.2.1, x.2.2.2.2.2.2.1, x.2.2.2.2.2.2.2, rfl, h⟩
theorem zb9 {α β β2 β3 β4 β5 β6 β7 β8 γ : Type} {o : Option (α × β × β2 × β3 × β4 × β5 × β6 × β7 × β8)} {k : α → β → β2 → β3 → β4 → β5 → β6 → β7 → β8 → Option γ} {r : γ} (h : ob9 o k = some r) : ∃ a b b2 b3 b4 b5 b6 b7 b8, o = some (a, b, b2, b3, b4, b5, b6, b7, b8) ∧ k a b b2 b3 b4 b5 b6 b7 b8 = some r := by
  cases o with
  | none => exact zn h
  | some x => exact ⟨x.1, x.2.1, x.2.2.1, x.2.2.2.1, x.2.2.2.2.1, x.2.2.2.2.2.1, x.2.2.2.2.2.2.1, x.2.2.2.2.2.2.2.1, x.2.2.2.2.2.2.2.2, rfl, h⟩
abbrev irem (x y : Int32) : Int32 := x - x / y * y
abbrev lrem (x y : Int64) : Int64 := x - x / y * y
/-- what the worlds take from the tables: the classes' numbers and slots; the array classes of int, char, boolean, of devices, of long -/
abbrev zG : Type := va_G × (ClassId × ClassId × ClassId × ClassId × ClassId)
abbrev zT (g : zG) : List (ClassId × FieldType) := [(g.2.1, .int), (g.2.2.1, .char), (g.2.2.2.1, .boolean), (g.2.2.2.2.1, .object RX0), (g.2.2.2.2.2, .int)]
abbrev zK (g : zG) (U : State) : Prop := va_K g.1 vwCl (zT g) U
abbrev zP (g : zG) (w : va_W) (H : Heap) : Prop := va_P g.1 vwCl w H
/-- answers of a method that changes no cell -/
def zQi (r : Int32) : Array Value → State → Outcome → State → Prop := fun _ st o t => o = .returned (some (.int r)) ∧ t.heap = st.heap
def zQl (r : Int64) : Array Value → State → Outcome → State → Prop := fun _ st o t => o = .returned (some (.long r)) ∧ t.heap = st.heap
def zQv : Array Value → State → Outcome → State → Prop := fun _ st o t => o = .returned none ∧ t.heap = st.heap
/-- answers of a method that changes the cells of its world: the same places, other contents -/
def zWi (g : zG) (w2 : va_W) (r : Int32) (A : Nat → Prop) : Array Value → State → Outcome → State → Prop := fun _ st o t => o = .returned (some (.int r)) ∧ zP g w2 t.heap ∧ va_F A st t
def zWv (g : zG) (w2 : va_W) (A : Nat → Prop) : Array Value → State → Outcome → State → Prop := fun _ st o t => o = .returned none ∧ zP g w2 t.heap ∧ va_F A st t
def Mr (l : Launch) (g : zG) (y : MethodName) (ws : List Cond) (rm : Room) (av : List Value) (w : va_W) (Q : Array Value → State → Outcome → State → Prop) : Prop :=
  Met l y ws rm (va_Pc av (fun U => zP g w U.heap ∧ zK g U)) Q 0 0 (fun _ => False)
def Mw (l : Launch) (g : zG) (y : MethodName) (ws : List Cond) (rm : Room) (av : List Value) (w : va_W) (Q : (Nat → Prop) → Array Value → State → Outcome → State → Prop) : Prop :=
  ∀ sz : Nat, Met l y ws rm (va_Pc av (fun U => U.heap.size = sz ∧ zP g w U.heap ∧ zK g U ∧ va_D (fun _ => True) w)) (Q (va_A w sz)) 0 0 (va_A w sz)
theorem zr_in {l : Launch} {g : zG} {y : MethodName} {ws ws' : List Cond} {rm : Room} {av : List Value} {w : va_W} {Q : Array Value → State → Outcome → State → Prop} {cc : ByteArray} {maxL : Nat} {ret : Option FieldType}
    (hy : plainName y.cls = true) (hw : ws = Cond.code y cc maxL ret :: ws') (hlen : (lg_sl av).length ≤ maxL)
    (k : ∀ (p : Program) (e : Env) (s : State) (m : MethodId) (below : List Frame) (meth : Method) (c : Code), p.tables.exec = Jvm.exec → c.code = cc → meth.sig.returnType = ret → c.maxLocals = maxL → (∀ w ∈ ws, w.before av.toArray s = true) → s.vm.findClass y.cls = some m.cls → meth.locks = false → zP g w s.heap → zK g s →
      ∀ ls : Array Slot, lv_has ls maxL (lv_args 0 av) → W p l e rm s m av.toArray below meth c s.heap [] 0 0 (MQ below Q av.toArray s 0 0 (fun _ => False)) (F0 m 0 ls [])) : Mr l g y ws rm av w Q := by
  refine Met.ofW (cc := cc) (maxL := maxL) (ret := ret) hy hw ?_
  intro p e s m args below meth c s₁ B hml hv
  obtain ⟨rfl, hP, hK⟩ := hv
  have hl := lv_entry av (n := maxL) hlen
  rw [lg_entry_eq]
  exact k p e s m below meth c B.exec B.bytes B.returns hml (atoms_spec (ws := ws) B.pre) (findClass_of_methodNamed B.named) B.notSynchronized hP hK _ hl
theorem zw_in {l : Launch} {g : zG} {y : MethodName} {ws ws' : List Cond} {rm : Room} {av : List Value} {w : va_W} {Q : (Nat → Prop) → Array Value → State → Outcome → State → Prop} {cc : ByteArray} {maxL : Nat} {ret : Option FieldType}
    (hy : plainName y.cls = true) (hw : ws = Cond.code y cc maxL ret :: ws') (hlen : (lg_sl av).length ≤ maxL)
    (k : ∀ (p : Program) (e : Env) (s : State) (m : MethodId) (below : List Frame) (meth : Method) (c : Code), p.tables.exec = Jvm.exec → c.code = cc → meth.sig.returnType = ret → c.maxLocals = maxL → (∀ w ∈ ws, w.before av.toArray s = true) → s.vm.findClass y.cls = some m.cls → meth.locks = false → zK g s →
      ∀ (A : Nat → Prop), (∀ q : Nat, s.heap.size ≤ q → A q) → zP g w s.heap → va_D A w → va_S A s.heap s.heap [] →
      ∀ ls : Array Slot, lv_has ls maxL (lv_args 0 av) → W p l e rm s m av.toArray below meth c s.heap [] 0 0 (MQ below (Q A) av.toArray s 0 0 A) (F0 m 0 ls [])) : Mw l g y ws rm av w Q := by
  intro sz
  refine Met.ofW (cc := cc) (maxL := maxL) (ret := ret) hy hw ?_
  intro p e s m args below meth c s₁ B hml hv
  obtain ⟨rfl, hsz, hP, hK, hD0⟩ := hv
  subst hsz
  have hl := lv_entry av (n := maxL) hlen
  rw [lg_entry_eq]
  exact k p e s m below meth c B.exec B.bytes B.returns hml (atoms_spec (ws := ws) B.pre) (findClass_of_methodNamed B.named) B.notSynchronized hK (va_A w s.heap.size) (fun q h => Or.inr h) hP hD0.self va_S.rf _ hl
section ZR
variable {p : Program} {l : Launch} {e : Env} {R : Room} {s : State} {m : MethodId} {args : Array Value} {below : List Frame} {meth : Method} {c : Code} {H : Heap} {locs : List Loc} {cells slots : Nat} {Q : State → Prop} {g : zG} {cc : ByteArray} {pc : Nat} {ls : Array Slot} {rest st : List Value} {A : Nat → Prop} {a : Nat} {w : va_W} {H0 : Heap}
/-- ends of a read-only body -/
theorem zr_i {r : Int32} (hx : p.tables.exec = Jvm.exec) (hb : c.code = cc) (hr : meth.sig.returnType = some .int) (hlocks : meth.locks = false) (hdg : decode cc pc = .ok (.ireturn, 1)) : W p l e R s m args below meth c s.heap [] cells slots (MQ below (zQi r) args s cells slots (fun _ => False)) (F0 m pc ls [.int r]) :=
  W.iret hx hb hr (fun _ ht _ => ⟨rfl, ht⟩) (fun _ h => by cases h) hdg hlocks
theorem zr_z {r : Int32} (hx : p.tables.exec = Jvm.exec) (hb : c.code = cc) (hr : meth.sig.returnType = some .boolean) (hlocks : meth.locks = false) (hn : r &&& 1 = r) (hdg : decode cc pc = .ok (.ireturn, 1)) : W p l e R s m args below meth c s.heap [] cells slots (MQ below (zQi r) args s cells slots (fun _ => False)) (F0 m pc ls [.int r]) :=
  W.zret hx hb hr (by show Value.int (r &&& 1) = .int r; rw [hn]) (fun _ ht _ => ⟨rfl, ht⟩) (fun _ h => by cases h) hdg hlocks
theorem zr_l {r : Int64} (hx : p.tables.exec = Jvm.exec) (hb : c.code = cc) (hr : meth.sig.returnType = some .long) (hlocks : meth.locks = false) (hdg : decode cc pc = .ok (.lreturn, 1)) : W p l e R s m args below meth c s.heap [] cells slots (MQ below (zQl r) args s cells slots (fun _ => False)) (F0 m pc ls [.long r]) :=
  W.lret hx hb hr (fun _ ht _ => ⟨rfl, ht⟩) (fun _ h => by cases h) hdg hlocks
theorem zr_v (hx : p.tables.exec = Jvm.exec) (hb : c.code = cc) (hr : meth.sig.returnType = none) (hlocks : meth.locks = false) (hdg : decode cc pc = .ok (.return_, 1)) : W p l e R s m args below meth c s.heap [] cells slots (MQ below zQv args s cells slots (fun _ => False)) (F0 m pc ls []) :=
  W.vret hx hb hr (fun _ ht _ => ⟨rfl, ht⟩) (fun _ h => by cases h) hdg hlocks
/-- ends of a writing body -/
theorem zw_i {r : Int32} {w2 : va_W} (hx : p.tables.exec = Jvm.exec) (hb : c.code = cc) (hr : meth.sig.returnType = some .int) (hlocks : meth.locks = false) (hP : zP g w2 H) (hS : va_S A s.heap H locs) (hdg : decode cc pc = .ok (.ireturn, 1)) : W p l e R s m args below meth c H locs cells slots (MQ below (zWi g w2 r A) args s cells slots A) (F0 m pc ls [.int r]) :=
  W.iret hx hb hr (fun _ ht _ => ⟨rfl, by rw [ht]; exact hP, hS.F ht⟩) hS.2.2 hdg hlocks
theorem zw_z {r : Int32} {w2 : va_W} (hx : p.tables.exec = Jvm.exec) (hb : c.code = cc) (hr : meth.sig.returnType = some .boolean) (hlocks : meth.locks = false) (hn : r &&& 1 = r) (hP : zP g w2 H) (hS : va_S A s.heap H locs) (hdg : decode cc pc = .ok (.ireturn, 1)) : W p l e R s m args below meth c H locs cells slots (MQ below (zWi g w2 r A) args s cells slots A) (F0 m pc ls [.int r]) :=
  W.zret hx hb hr (by show Value.int (r &&& 1) = .int r; rw [hn]) (fun _ ht _ => ⟨rfl, by rw [ht]; exact hP, hS.F ht⟩) hS.2.2 hdg hlocks
theorem zw_v {w2 : va_W} (hx : p.tables.exec = Jvm.exec) (hb : c.code = cc) (hr : meth.sig.returnType = none) (hlocks : meth.locks = false) (hP : zP g w2 H) (hS : va_S A s.heap H locs) (hdg : decode cc pc = .ok (.return_, 1)) : W p l e R s m args below meth c H locs cells slots (MQ below (zWv g w2 A) args s cells slots A) (F0 m pc ls []) :=
  W.vret hx hb hr (fun _ ht _ => ⟨rfl, by rw [ht]; exact hP, hS.F ht⟩) hS.2.2 hdg hlocks
/-- array rows, the place by a number of its own -/
theorem za_ild (hx : p.tables.exec = Jvm.exec) (hb : c.code = cc) (hK : zK g s) (hP : zP g w H) (q0 : Nat) {n : Nat} {f : Nat → Int32} (ha : w[q0]? = some (a, .inl (g.2.1, n, .inl f))) {i : Int32} (j : Nat) (hj : i.toNatClampNeg = j) (hin : ¬ (i < 0 ∨ n ≤ j)) (hdg : decode cc pc = .ok (.iaload, 1))
    (kk : W p l e R s m args below meth c H locs cells slots Q (F0 m (pc + 1) ls (.int (f j) :: rest))) : W p l e R s m args below meth c H locs cells slots Q (F0 m pc ls (.int i :: .ref a :: rest)) := by
  subst hj
  exact va_iald hx hb hK hP q0 0 ha rfl hin hdg kk
theorem za_cld (hx : p.tables.exec = Jvm.exec) (hb : c.code = cc) (hK : zK g s) (hP : zP g w H) (q0 : Nat) {n : Nat} {f : Nat → Int32} (ha : w[q0]? = some (a, .inl (g.2.2.1, n, .inl f))) {i : Int32} (j : Nat) (hj : i.toNatClampNeg = j) (hin : ¬ (i < 0 ∨ n ≤ j)) (hdg : decode cc pc = .ok (.caload, 1))
    (kk : W p l e R s m args below meth c H locs cells slots Q (F0 m (pc + 1) ls (.int (f j) :: rest))) : W p l e R s m args below meth c H locs cells slots Q (F0 m pc ls (.int i :: .ref a :: rest)) := by
  subst hj
  exact va_cald hx hb hK hP q0 1 ha rfl hin hdg kk
theorem za_zld (hx : p.tables.exec = Jvm.exec) (hb : c.code = cc) (hK : zK g s) (hP : zP g w H) (q0 : Nat) {n : Nat} {f : Nat → Int32} (ha : w[q0]? = some (a, .inl (g.2.2.2.1, n, .inl f))) {i : Int32} (j : Nat) (hj : i.toNatClampNeg = j) (hin : ¬ (i < 0 ∨ n ≤ j)) (hdg : decode cc pc = .ok (.baload, 1))
    (kk : W p l e R s m args below meth c H locs cells slots Q (F0 m (pc + 1) ls (.int (f j) :: rest))) : W p l e R s m args below meth c H locs cells slots Q (F0 m pc ls (.int i :: .ref a :: rest)) := by
  subst hj
  exact va_zald hx hb hK hP q0 2 ha rfl hin hdg kk
theorem za_ist (hx : p.tables.exec = Jvm.exec) (hb : c.code = cc) (hK : zK g s) (hP : zP g w H) (hD : va_D A w) (hS : va_S A H0 H locs) (q0 : Nat) {n : Nat} {f : Nat → Int32} (ha : w[q0]? = some (a, .inl (g.2.1, n, .inl f))) {i x : Int32} (j : Nat) (hj : i.toNatClampNeg = j) (hin : ¬ (i < 0 ∨ n ≤ j)) (hdg : decode cc pc = .ok (.iastore, 1))
    (kk : ∀ (H1 : Heap) (locs1 : List Loc), zP g (w.set q0 (a, .inl (g.2.1, n, .inl (upd f j x)))) H1 → va_D A (w.set q0 (a, .inl (g.2.1, n, .inl (upd f j x)))) → va_S A H0 H1 locs1 → W p l e R s m args below meth c H1 locs1 cells slots Q (F0 m (pc + 1) ls rest)) : W p l e R s m args below meth c H locs cells slots Q (F0 m pc ls (.int x :: .int i :: .ref a :: rest)) := by
  subst hj
  exact va_iast hx hb hK hP hD hS q0 0 ha rfl hin hdg kk
theorem za_cst (hx : p.tables.exec = Jvm.exec) (hb : c.code = cc) (hK : zK g s) (hP : zP g w H) (hD : va_D A w) (hS : va_S A H0 H locs) (q0 : Nat) {n : Nat} {f : Nat → Int32} (ha : w[q0]? = some (a, .inl (g.2.2.1, n, .inl f))) {i x : Int32} (j : Nat) (hj : i.toNatClampNeg = j) (hin : ¬ (i < 0 ∨ n ≤ j)) (hdg : decode cc pc = .ok (.castore, 1))
    (kk : ∀ (H1 : Heap) (locs1 : List Loc), zP g (w.set q0 (a, .inl (g.2.2.1, n, .inl (upd f j (vp_nar .char x))))) H1 → va_D A (w.set q0 (a, .inl (g.2.2.1, n, .inl (upd f j (vp_nar .char x))))) → va_S A H0 H1 locs1 → W p l e R s m args below meth c H1 locs1 cells slots Q (F0 m (pc + 1) ls rest)) : W p l e R s m args below meth c H locs cells slots Q (F0 m pc ls (.int x :: .int i :: .ref a :: rest)) := by
  subst hj
  exact va_cast hx hb hK hP hD hS q0 1 ha rfl hin hdg kk
theorem za_zst (hx : p.tables.exec = Jvm.exec) (hb : c.code = cc) (hK : zK g s) (hP : zP g w H) (hD : va_D A w) (hS : va_S A H0 H locs) (q0 : Nat) {n : Nat} {f : Nat → Int32} (ha : w[q0]? = some (a, .inl (g.2.2.2.1, n, .inl f))) {i x : Int32} (j : Nat) (hj : i.toNatClampNeg = j) (hin : ¬ (i < 0 ∨ n ≤ j)) (hdg : decode cc pc = .ok (.bastore, 1))
    (kk : ∀ (H1 : Heap) (locs1 : List Loc), zP g (w.set q0 (a, .inl (g.2.2.2.1, n, .inl (upd f j (vp_nar .boolean x))))) H1 → va_D A (w.set q0 (a, .inl (g.2.2.2.1, n, .inl (upd f j (vp_nar .boolean x))))) → va_S A H0 H1 locs1 → W p l e R s m args below meth c H1 locs1 cells slots Q (F0 m (pc + 1) ls rest)) : W p l e R s m args below meth c H locs cells slots Q (F0 m pc ls (.int x :: .int i :: .ref a :: rest)) := by
  subst hj
  exact va_zast hx hb hK hP hD hS q0 2 ha rfl hin hdg kk
/-- calls of a method that changes no cell -/
theorem zr_back {ms mc : Nat} {Qa : State → Outcome → State → Prop} {v0 : Option Value} (hq : ∀ st₀ o t, Qa st₀ o t → o = .returned v0 ∧ t.heap = st₀.heap) (hr : va_Run p l e R s m args below meth c H locs cells slots mc ms (F0 m pc ls st) rest Qa (fun _ => False)) (h1 : mc = 0) (h2 : ms = 0)
    (kk : W p l e R s m args below meth c H locs cells slots Q (F0 m (pc + 3) ls (v0.toList ++ rest))) : W p l e R s m args below meth c H locs cells slots Q (F0 m pc ls st) := by
  subst h1; subst h2
  intro T hT X
  obtain ⟨v, st₀, t, T', L, h0, X', hL, e1, e2, hqa, st⟩ := hr T hT X
  obtain ⟨hv, hh⟩ := hq _ _ _ hqa
  cases hv
  have X2 := Stand.forget (extra := L) X' (fun q h => (hL q h).elim)
  obtain ⟨t2, a1, b1⟩ := kk T' (by rw [e1, hh, h0]) X2
  exact ⟨t2, st t2 a1, b1⟩
end ZR
theorem zblind (g : zG) (av : List Value) (w : va_W) : FrameBlind (va_Pc av (fun U => zP g w U.heap ∧ zK g U)) := fun a U f mk q => ⟨q.1, q.2.1, va_K.moved (u := U) (U := U.calling f mk a) (Vm.Alike.refl U.vm) q.2.2⟩
theorem zblindW (g : zG) (av : List Value) (w : va_W) (sz : Nat) : FrameBlind (va_Pc av (fun U => U.heap.size = sz ∧ zP g w U.heap ∧ zK g U ∧ va_D (fun _ => True) w)) := fun a U f mk q => ⟨q.1, q.2.1, q.2.2.1, va_K.moved (u := U) (U := U.calling f mk a) (Vm.Alike.refl U.vm) q.2.2.2.1, q.2.2.2.2⟩
def zput : va_W → List Nat → va_W → va_W
  | w, i :: is, q :: qs => zput (w.set i q) is qs
  | w, _, _ => w
theorem zput_len : ∀ (is : List Nat) (w qs : va_W), (zput w is qs).length = w.length
  | [], w, qs => by cases qs <;> rfl
  | i :: is, w, [] => rfl
  | i :: is, w, q :: qs => by rw [zput, zput_len is]; exact List.length_set
theorem zput_out : ∀ (is : List Nat) (w qs : va_W) (k : Nat), k ∉ is → (zput w is qs)[k]? = w[k]?
  | [], w, qs, k, _ => by cases qs <;> rfl
  | i :: is, w, [], k, _ => rfl
  | i :: is, w, q :: qs, k, h => by
    rw [zput, zput_out is _ _ k (fun z => h (List.mem_cons_of_mem _ z)), List.getElem?_set_ne (fun z => h (by rw [z]; exact List.mem_cons_self))]
theorem zput_in : ∀ (is : List Nat) (w qs : va_W) (k : Nat) (q : Nat × va_E), k ∈ is → is.length = qs.length → (zput w is qs)[k]? = some q → q ∈ qs
  | [], w, qs, k, q, h, _, _ => by cases h
  | i :: is, w, [], k, q, h, hl, _ => by cases hl
  | i :: is, w, q0 :: qs, k, q, h, hl, hk => by
    rw [zput] at hk
    by_cases hm : k ∈ is
    · exact List.mem_cons_of_mem _ (zput_in is _ qs k q hm (Nat.succ.inj hl) hk)
    · rcases List.mem_cons.mp h with rfl | h
      · rw [zput_out is _ _ _ hm] at hk
        have hlt : k < w.length := by
          have := (List.getElem?_eq_some_iff.mp hk).1
          rwa [List.length_set] at this
        rw [List.getElem?_set_self hlt] at hk
        cases hk
        exact List.mem_cons_self
      · exact absurd h hm
theorem zput_fst : ∀ (is : List Nat) (w qs : va_W), is.map (fun i => (w[i]?).map Prod.fst) = qs.map (fun q => some q.1) → (zput w is qs).map Prod.fst = w.map Prod.fst
  | [], w, qs, _ => by cases qs <;> rfl
  | i :: is, w, [], h => by cases h
  | i :: is, w, q :: qs, h => by
    rw [List.map_cons, List.map_cons] at h
    obtain ⟨h1, h2⟩ := List.cons.inj h
    have e : (w.set i q).map Prod.fst = w.map Prod.fst := by
      apply List.ext_getElem?
      intro k
      rw [List.getElem?_map, List.getElem?_map]
      by_cases hk : i = k
      · subst hk
        cases hw : w[i]? with
        | none => rw [hw] at h1; cases h1
        | some x =>
          have hlt := (List.getElem?_eq_some_iff.mp hw).1
          rw [List.getElem?_set_self hlt]
          rw [hw] at h1
          exact h1.symm
      · rw [List.getElem?_set_ne hk]
    rw [zput, zput_fst is _ qs ?_, e]
    rw [← h2]
    apply List.map_congr_left
    intro j _
    have e2 : ((w.set i q).map Prod.fst)[j]? = (w.map Prod.fst)[j]? := by rw [e]
    rw [List.getElem?_map, List.getElem?_map] at e2
    exact e2
theorem zD_fst {A : Nat → Prop} {w w2 : va_W} (h : va_D A w) (e : w2.map Prod.fst = w.map Prod.fst) : va_D A w2 := by
  have key : ∀ (k : Nat) (q : Nat × va_E), w2[k]? = some q → ∃ q0, w[k]? = some q0 ∧ q0.1 = q.1 := by
    intro k q hk
    have e2 : (w2.map Prod.fst)[k]? = (w.map Prod.fst)[k]? := by rw [e]
    rw [List.getElem?_map, List.getElem?_map, hk] at e2
    cases hw : w[k]? with
    | none => rw [hw] at e2; cases e2
    | some x => rw [hw] at e2; exact ⟨x, rfl, (Option.some.inj e2).symm⟩
  refine ⟨fun i j x y hi hj hxy => ?_, fun k q hk => ?_⟩
  · obtain ⟨x0, h1, h2⟩ := key i x hi
    obtain ⟨y0, h3, h4⟩ := key j y hj
    exact h.1 i j x0 y0 h1 h3 (h2.trans (hxy.trans h4.symm))
  · obtain ⟨q0, h1, h2⟩ := key k q hk
    rw [← h2]
    exact h.2 k q0 h1
/-- behind a writing call: the caller's world with the callee's cells put back in their places -/
theorem zjoin {g : zG} {A : Nat → Prop} {w wc wq : va_W} {H H1 : Heap} (hP : zP g w H) (hD : va_D A w) (is : List Nat) (hC : is.map (fun i => w[i]?) = wc.map some) (hq : wq.map Prod.fst = wc.map Prod.fst)
    (hk : ∀ q : Nat, q < H.size → ¬ va_A wc H.size q → H1[q]? = H[q]?) (hP1 : zP g wq H1) : zP g (zput w is wq) H1 ∧ va_D A (zput w is wq) := by
  have hln : is.length = wq.length := by
    have h1 := congrArg List.length hC
    have h2 := congrArg List.length hq
    simp only [List.length_map] at h1 h2
    omega
  refine ⟨fun k q h => ?_, zD_fst hD (zput_fst is w wq ?_)⟩
  · by_cases hm : k ∈ is
    · obtain ⟨j, hj⟩ := List.getElem?_of_mem (zput_in is w wq k q hm hln h)
      exact hP1 j q hj
    · rw [zput_out is w wq k hm] at h
      have hlt := (hP k q h).lt
      refine (hP k q h).kept (hk q.1 hlt (fun z => ?_))
      rcases z with ⟨k2, e, z⟩ | z
      · have h1 : (is.map (fun i => w[i]?))[k2]? = some (some (q.1, e)) := by rw [hC, List.getElem?_map, z]; rfl
        rw [List.getElem?_map] at h1
        cases hi : is[k2]? with
        | none => rw [hi] at h1; cases h1
        | some i =>
          rw [hi] at h1
          have h4 : w[i]? = some (q.1, e) := Option.some.inj h1
          have hij := hD.1 k i q (q.1, e) h h4 rfl
          subst hij
          exact hm (List.mem_of_getElem? hi)
      · omega
  · have h1 : is.map (fun i => (w[i]?).map Prod.fst) = (is.map (fun i => w[i]?)).map (Option.map Prod.fst) := by rw [List.map_map]; rfl
    have h2 : wc.map (fun q => some q.1) = (wc.map Prod.fst).map some := by rw [List.map_map]; rfl
    have h3 : wq.map (fun q => some q.1) = (wq.map Prod.fst).map some := by rw [List.map_map]; rfl
    rw [h1, hC, h3, hq, ← h2, List.map_map]; rfl
section ZW
variable {p : Program} {l : Launch} {e : Env} {R : Room} {s : State} {m : MethodId} {args : Array Value} {below : List Frame} {meth : Method} {c : Code} {H : Heap} {locs : List Loc} {cells slots : Nat} {Q : State → Prop} {g : zG} {cc : ByteArray} {pc : Nat} {ls : Array Slot} {rest st : List Value} {A : Nat → Prop} {a : Nat} {w : va_W}
  {y : MethodName} {bytes : ByteArray} {maxL nL n index : Nat} {ret : Option FieldType} {ws : List Cond} {rm : Room} {Ts : List Cond} {own C : String} {b : Addr} {As : List Value} {wc : va_W}
theorem zPre (hK : zK g s) (hP : zP g w H) (is : List Nat) (hC : is.map (fun i => w[i]?) = wc.map some) : ∀ U : State, U.heap = H → s.WarmedH U.vm → zP g wc U.heap ∧ zK g U := by
  intro U hU hW
  refine ⟨fun k q hk => ?_, va_K.moved hW.alike hK⟩
  have h1 : (is.map (fun i => w[i]?))[k]? = some (some q) := by rw [hC, List.getElem?_map, hk]; rfl
  rw [List.getElem?_map] at h1
  cases hi : is[k]? with
  | none => rw [hi] at h1; cases h1
  | some i => rw [hi] at h1; rw [hU]; exact hP i q (Option.some.inj h1)
theorem zDre (hD : va_D A w) (is : List Nat) (hn : va_nd is = true) (hC : is.map (fun i => w[i]?) = wc.map some) : va_D (fun _ => True) wc := (hD.sub is hn hC).weaken (fun _ _ _ _ => trivial)
/-- a virtual call of a read-only method -/
theorem zV {Qy : Array Value → State → Outcome → State → Prop} {v0 : Option Value} (hQ : ∀ a st₀ o t, Qy a st₀ o t → o = .returned v0 ∧ t.heap = st₀.heap) (S : CallFix p m c cc nL s args Ts own) (hM : Mr l g y ws rm (.ref b :: As) wc Qy) (cw : CallW R s args own C index y bytes maxL ret ws rm 0 0 n) (hK : zK g s) (hP : zP g w H) (is : List Nat) (hC : is.map (fun i => w[i]?) = wc.map some) (q0 : Nat) {ci : Nat} {fs : List Value} {T : u_T} {N : Nat} (he : w[q0]? = some (b, .inr (ci, fs))) (hc : vwCl[ci]? = some (C, T, N)) (hn : As.length = n) (hsize : ls.size = nL) (hst : st = As.reverse ++ .ref b :: rest) (hW : (rest.map fun v => v.category).sum ≤ 8) (hf : cells ≤ R.cells ∧ slots ≤ R.slots) (hdg : decode cc pc = .ok (.invokevirtual index, 3))
    (kk : W p l e R s m args below meth c H locs cells slots Q (F0 m (pc + 3) ls (v0.toList ++ rest))) : W p l e R s m args below meth c H locs cells slots Q (F0 m pc ls st) :=
  zr_back (hQ _) (va_runV (As := As) (rest := rest) S hM cw ⟨zblind g _ wc, va_recv hK hP (ci := ci) (q0 := q0) hc he, fun U hU hW' => ⟨rfl, zPre hK hP is hC U hU hW'⟩⟩ rfl hn hsize hst (lv_room hW) hdg hf) rfl rfl kk
theorem zS {Qy : Array Value → State → Outcome → State → Prop} {v0 : Option Value} (hQ : ∀ a st₀ o t, Qy a st₀ o t → o = .returned v0 ∧ t.heap = st₀.heap) (S : CallFix p m c cc nL s args Ts own) (hM : Mr l g y ws rm As wc Qy) (cw : CallB R s args own index y bytes maxL ret ws rm 0 0 n ∧ (Cond.static y).before args s = true) (hK : zK g s) (hP : zP g w H) (is : List Nat) (hC : is.map (fun i => w[i]?) = wc.map some) (hn : As.length = n) (hsize : ls.size = nL) (hst : st = As.reverse ++ rest) (hW : (rest.map fun v => v.category).sum ≤ 8) (hf : cells ≤ R.cells ∧ slots ≤ R.slots) (hdg : decode cc pc = .ok (.invokestatic index, 3))
    (kk : W p l e R s m args below meth c H locs cells slots Q (F0 m (pc + 3) ls (v0.toList ++ rest))) : W p l e R s m args below meth c H locs cells slots Q (F0 m pc ls st) :=
  zr_back (hQ _) (va_runS (As := As) (rest := rest) S hM cw ⟨zblind g _ wc, fun U hU hW' => ⟨rfl, zPre hK hP is hC U hU hW'⟩⟩ rfl hn hsize hst (lv_room hW) hdg hf) rfl rfl kk
theorem zQi_q (r : Int32) : ∀ a st₀ o t, zQi r a st₀ o t → o = .returned (some (.int r)) ∧ t.heap = st₀.heap := fun _ _ _ _ h => h
theorem zQl_q (r : Int64) : ∀ a st₀ o t, zQl r a st₀ o t → o = .returned (some (.long r)) ∧ t.heap = st₀.heap := fun _ _ _ _ h => h
theorem zQv_q : ∀ a st₀ o t, zQv a st₀ o t → o = .returned none ∧ t.heap = st₀.heap := fun _ _ _ _ h => h
/-- behind a writing call -/
theorem zw_back {mc ms : Nat} {Qa : State → Outcome → State → Prop} {v0 : Option Value} {wq : va_W} (hq : ∀ st₀ o t, Qa st₀ o t → o = .returned v0 ∧ zP g wq t.heap ∧ va_F (va_A wc H.size) st₀ t) (hr : va_Run p l e R s m args below meth c H locs cells slots mc ms (F0 m pc ls st) rest Qa (va_A wc H.size)) (h1 : mc = 0) (h2 : ms = 0)
    (hP : zP g w H) (hD : va_D A w) (hS : va_S A s.heap H locs) (hA : ∀ q, s.heap.size ≤ q → A q) (is : List Nat) (hC : is.map (fun i => w[i]?) = wc.map some) (he : wq.map Prod.fst = wc.map Prod.fst)
    (kk : ∀ (H1 : Heap) (locs1 : List Loc), zP g (zput w is wq) H1 → va_D A (zput w is wq) → va_S A s.heap H1 locs1 → W p l e R s m args below meth c H1 locs1 cells slots Q (F0 m (pc + 3) ls (v0.toList ++ rest))) : W p l e R s m args below meth c H locs cells slots Q (F0 m pc ls st) := by
  subst h1; subst h2
  intro T hT X
  obtain ⟨v, st₀, t, T', L, h0, X', hL, e1, e2, hqa, st⟩ := hr T hT X
  obtain ⟨hv, hPq, hz, hk⟩ := hq _ _ _ hqa
  cases hv
  rw [h0] at hz hk
  have hfree := va_free hD hS hA is hC
  obtain ⟨hP2, hD2⟩ := zjoin hP hD is hC he hk hPq
  have hS2 : va_S A s.heap T'.heap (locs ++ L) := ⟨Nat.le_trans hS.1 (by rw [e1]; exact hz), fun q h1 h2 => by rw [e1, hk q (Nat.lt_of_lt_of_le h1 hS.1) (fun z => h2 (hfree q z))]; exact hS.2.1 q h1 h2, fun q hq => by
      rcases List.mem_append.mp hq with h | h
      · exact hS.2.2 q h
      · exact hfree _ (hL q h)⟩
  obtain ⟨t2, a1, b1⟩ := kk T'.heap (locs ++ L) (by rw [e1]; exact hP2) hD2 hS2 T' rfl X'
  exact ⟨t2, st t2 a1, b1⟩
theorem zVw {Qy : (Nat → Prop) → Array Value → State → Outcome → State → Prop} {v0 : Option Value} {wq : va_W} (hQ : ∀ A a st₀ o t, Qy A a st₀ o t → o = .returned v0 ∧ zP g wq t.heap ∧ va_F A st₀ t) (S : CallFix p m c cc nL s args Ts own) (hM : Mw l g y ws rm (.ref b :: As) wc Qy) (cw : CallW R s args own C index y bytes maxL ret ws rm 0 0 n) (hK : zK g s) (hP : zP g w H) (hD : va_D A w) (hS : va_S A s.heap H locs) (hA : ∀ q, s.heap.size ≤ q → A q) (is : List Nat) (hnd : va_nd is = true) (hC : is.map (fun i => w[i]?) = wc.map some) (he1 : wq.map Prod.fst = wc.map Prod.fst) (q0 : Nat) {ci : Nat} {fs : List Value} {T : u_T} {N : Nat} (he : w[q0]? = some (b, .inr (ci, fs))) (hc : vwCl[ci]? = some (C, T, N)) (hn : As.length = n) (hsize : ls.size = nL) (hst : st = As.reverse ++ .ref b :: rest) (hW : (rest.map fun v => v.category).sum ≤ 8) (hf : cells ≤ R.cells ∧ slots ≤ R.slots) (hdg : decode cc pc = .ok (.invokevirtual index, 3))
    (kk : ∀ (H1 : Heap) (locs1 : List Loc), zP g (zput w is wq) H1 → va_D A (zput w is wq) → va_S A s.heap H1 locs1 → W p l e R s m args below meth c H1 locs1 cells slots Q (F0 m (pc + 3) ls (v0.toList ++ rest))) : W p l e R s m args below meth c H locs cells slots Q (F0 m pc ls st) :=
  zw_back (wc := wc) (hQ _ _) (va_runV (As := As) (rest := rest) S (hM H.size) cw ⟨zblindW g _ wc H.size, va_recv hK hP (ci := ci) (q0 := q0) hc he, fun U hU hW' => ⟨rfl, by rw [hU], (zPre hK hP is hC U hU hW').1, (zPre hK hP is hC U hU hW').2, zDre hD is hnd hC⟩⟩ rfl hn hsize hst (lv_room hW) hdg hf) rfl rfl hP hD hS hA is hC he1 kk
theorem zSw {Qy : (Nat → Prop) → Array Value → State → Outcome → State → Prop} {v0 : Option Value} {wq : va_W} (hQ : ∀ A a st₀ o t, Qy A a st₀ o t → o = .returned v0 ∧ zP g wq t.heap ∧ va_F A st₀ t) (S : CallFix p m c cc nL s args Ts own) (hM : Mw l g y ws rm As wc Qy) (cw : CallB R s args own index y bytes maxL ret ws rm 0 0 n ∧ (Cond.static y).before args s = true) (hK : zK g s) (hP : zP g w H) (hD : va_D A w) (hS : va_S A s.heap H locs) (hA : ∀ q, s.heap.size ≤ q → A q) (is : List Nat) (hnd : va_nd is = true) (hC : is.map (fun i => w[i]?) = wc.map some) (he1 : wq.map Prod.fst = wc.map Prod.fst) (hn : As.length = n) (hsize : ls.size = nL) (hst : st = As.reverse ++ rest) (hW : (rest.map fun v => v.category).sum ≤ 8) (hf : cells ≤ R.cells ∧ slots ≤ R.slots) (hdg : decode cc pc = .ok (.invokestatic index, 3))
    (kk : ∀ (H1 : Heap) (locs1 : List Loc), zP g (zput w is wq) H1 → va_D A (zput w is wq) → va_S A s.heap H1 locs1 → W p l e R s m args below meth c H1 locs1 cells slots Q (F0 m (pc + 3) ls (v0.toList ++ rest))) : W p l e R s m args below meth c H locs cells slots Q (F0 m pc ls st) :=
  zw_back (wc := wc) (hQ _ _) (va_runS (As := As) (rest := rest) S (hM H.size) cw ⟨zblindW g _ wc H.size, fun U hU hW' => ⟨rfl, by rw [hU], (zPre hK hP is hC U hU hW').1, (zPre hK hP is hC U hU hW').2, zDre hD is hnd hC⟩⟩ rfl hn hsize hst (lv_room hW) hdg hf) rfl rfl hP hD hS hA is hC he1 kk
theorem zWi_q (g : zG) (w2 : va_W) (r : Int32) : ∀ A a st₀ o t, zWi g w2 r A a st₀ o t → o = .returned (some (.int r)) ∧ zP g w2 t.heap ∧ va_F A st₀ t := fun _ _ _ _ _ h => h
theorem zWv_q (g : zG) (w2 : va_W) : ∀ A a st₀ o t, zWv g w2 A a st₀ o t → o = .returned none ∧ zP g w2 t.heap ∧ va_F A st₀ t := fun _ _ _ _ _ h => h
end ZW
