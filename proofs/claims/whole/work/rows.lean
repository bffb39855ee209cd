section
-- ===== PART A: goes FIRST, ahead of the names: the tables' words, and 'selects' of the private methods out of them =====
/-- a private method of a class that the tables say can be made, by its rows of tables_1 -/
def lw_okq (q : MethodName × Nat) : Prop := (q.1.cls ≠ "java/lang/invoke/MethodHandle" ∧ q.1.cls ≠ "java/lang/invoke/VarHandle") ∧ Cond.instantiable q.1.cls q.2 ∈ tables_1 ∧ Cond.privateMethod q.1 ∈ tables_1 ∧ Cond.instanceMethod q.1 ∈ tables_1
theorem lw_p0 : lw_okq (⟨"IdleDiscards$Text", "readSpan", "(I)Z"⟩, 5) := ⟨⟨by decide +kernel, by decide +kernel⟩, List.mem_of_getElem? (i := 24) (by decide +kernel), List.mem_of_getElem? (i := 153) (by decide +kernel), List.mem_of_getElem? (i := 154) (by decide +kernel)⟩
theorem lw_p1 : lw_okq (⟨"IdleDiscards$Text", "readNumber", "(IIII)Z"⟩, 5) := ⟨⟨by decide +kernel, by decide +kernel⟩, List.mem_of_getElem? (i := 24) (by decide +kernel), List.mem_of_getElem? (i := 157) (by decide +kernel), List.mem_of_getElem? (i := 158) (by decide +kernel)⟩
theorem lw_p2 : lw_okq (⟨"IdleDiscards$Past", "newest", "()I"⟩, 3) := ⟨⟨by decide +kernel, by decide +kernel⟩, List.mem_of_getElem? (i := 94) (by decide +kernel), List.mem_of_getElem? (i := 169) (by decide +kernel), List.mem_of_getElem? (i := 170) (by decide +kernel)⟩
theorem lw_p3 : lw_okq (⟨"IdleDiscards$Device", "choosePiece", "(ZI)I"⟩, 9) := ⟨⟨by decide +kernel, by decide +kernel⟩, List.mem_of_getElem? (i := 48) (by decide +kernel), List.mem_of_getElem? (i := 181) (by decide +kernel), List.mem_of_getElem? (i := 182) (by decide +kernel)⟩
theorem lw_p4 : lw_okq (⟨"IdleDiscards$Device", "isFree", "(I)Z"⟩, 9) := ⟨⟨by decide +kernel, by decide +kernel⟩, List.mem_of_getElem? (i := 48) (by decide +kernel), List.mem_of_getElem? (i := 189) (by decide +kernel), List.mem_of_getElem? (i := 190) (by decide +kernel)⟩
theorem lw_p5 : lw_okq (⟨"IdleDiscards$Device", "granulesFrom", "(II)I"⟩, 9) := ⟨⟨by decide +kernel, by decide +kernel⟩, List.mem_of_getElem? (i := 48) (by decide +kernel), List.mem_of_getElem? (i := 201) (by decide +kernel), List.mem_of_getElem? (i := 202) (by decide +kernel)⟩
theorem lw_p6 : lw_okq (⟨"IdleDiscards$Device", "discard", "(II)V"⟩, 9) := ⟨⟨by decide +kernel, by decide +kernel⟩, List.mem_of_getElem? (i := 48) (by decide +kernel), List.mem_of_getElem? (i := 205) (by decide +kernel), List.mem_of_getElem? (i := 206) (by decide +kernel)⟩
theorem lw_p7 : lw_okq (⟨"IdleDiscards$Device", "dropSurplus", "()V"⟩, 9) := ⟨⟨by decide +kernel, by decide +kernel⟩, List.mem_of_getElem? (i := 48) (by decide +kernel), List.mem_of_getElem? (i := 209) (by decide +kernel), List.mem_of_getElem? (i := 210) (by decide +kernel)⟩
theorem lw_p8 : lw_okq (⟨"IdleDiscards$Device", "countRangesAhead", "(I)I"⟩, 9) := ⟨⟨by decide +kernel, by decide +kernel⟩, List.mem_of_getElem? (i := 48) (by decide +kernel), List.mem_of_getElem? (i := 213) (by decide +kernel), List.mem_of_getElem? (i := 214) (by decide +kernel)⟩
theorem lw_p9 : lw_okq (⟨"IdleDiscards$Device", "shortestRange", "()I"⟩, 9) := ⟨⟨by decide +kernel, by decide +kernel⟩, List.mem_of_getElem? (i := 48) (by decide +kernel), List.mem_of_getElem? (i := 217) (by decide +kernel), List.mem_of_getElem? (i := 218) (by decide +kernel)⟩
theorem lw_p10 : lw_okq (⟨"IdleDiscards$Device", "granuleFrom", "(I)I"⟩, 9) := ⟨⟨by decide +kernel, by decide +kernel⟩, List.mem_of_getElem? (i := 48) (by decide +kernel), List.mem_of_getElem? (i := 233) (by decide +kernel), List.mem_of_getElem? (i := 234) (by decide +kernel)⟩
theorem lw_p11 : lw_okq (⟨"java/lang/Throwable", "fillInStackTrace", "(I)Ljava/lang/Throwable;"⟩, 6) := ⟨⟨by decide +kernel, by decide +kernel⟩, List.mem_of_getElem? (i := 285) (by decide +kernel), List.mem_of_getElem? (i := 283) (by decide +kernel), List.mem_of_getElem? (i := 284) (by decide +kernel)⟩
theorem lw_p12 : lw_okq (⟨"IdleDiscards", "doTextCommand", "()Z"⟩, 6) := ⟨⟨by decide +kernel, by decide +kernel⟩, List.mem_of_getElem? (i := 16) (by decide +kernel), List.mem_of_getElem? (i := 357) (by decide +kernel), List.mem_of_getElem? (i := 358) (by decide +kernel)⟩
theorem lw_p13 : lw_okq (⟨"IdleDiscards$Device", "queueNow", "(I)V"⟩, 9) := ⟨⟨by decide +kernel, by decide +kernel⟩, List.mem_of_getElem? (i := 48) (by decide +kernel), List.mem_of_getElem? (i := 392) (by decide +kernel), List.mem_of_getElem? (i := 393) (by decide +kernel)⟩
theorem lw_p14 : lw_okq (⟨"IdleDiscards$Device", "budgetOfTick", "()I"⟩, 9) := ⟨⟨by decide +kernel, by decide +kernel⟩, List.mem_of_getElem? (i := 48) (by decide +kernel), List.mem_of_getElem? (i := 404) (by decide +kernel), List.mem_of_getElem? (i := 405) (by decide +kernel)⟩
theorem lw_p15 : lw_okq (⟨"IdleDiscards$Device", "mostGranules", "(I)I"⟩, 9) := ⟨⟨by decide +kernel, by decide +kernel⟩, List.mem_of_getElem? (i := 48) (by decide +kernel), List.mem_of_getElem? (i := 408) (by decide +kernel), List.mem_of_getElem? (i := 409) (by decide +kernel)⟩
def lw_privs_1 : List (MethodName × Nat) := [(⟨"IdleDiscards$Text", "readSpan", "(I)Z"⟩, 5), (⟨"IdleDiscards$Text", "readNumber", "(IIII)Z"⟩, 5), (⟨"IdleDiscards$Past", "newest", "()I"⟩, 3), (⟨"IdleDiscards$Device", "choosePiece", "(ZI)I"⟩, 9), (⟨"IdleDiscards$Device", "isFree", "(I)Z"⟩, 9), (⟨"IdleDiscards$Device", "granulesFrom", "(II)I"⟩, 9), (⟨"IdleDiscards$Device", "discard", "(II)V"⟩, 9), (⟨"IdleDiscards$Device", "dropSurplus", "()V"⟩, 9), (⟨"IdleDiscards$Device", "countRangesAhead", "(I)I"⟩, 9), (⟨"IdleDiscards$Device", "shortestRange", "()I"⟩, 9), (⟨"IdleDiscards$Device", "granuleFrom", "(I)I"⟩, 9), (⟨"java/lang/Throwable", "fillInStackTrace", "(I)Ljava/lang/Throwable;"⟩, 6), (⟨"IdleDiscards", "doTextCommand", "()Z"⟩, 6), (⟨"IdleDiscards$Device", "queueNow", "(I)V"⟩, 9), (⟨"IdleDiscards$Device", "budgetOfTick", "()I"⟩, 9), (⟨"IdleDiscards$Device", "mostGranules", "(I)I"⟩, 9)]
theorem lw_r1 : ∀ q ∈ lw_privs_1, lw_okq q := List.forall_mem_cons.mpr ⟨lw_p0, List.forall_mem_cons.mpr ⟨lw_p1, List.forall_mem_cons.mpr ⟨lw_p2, List.forall_mem_cons.mpr ⟨lw_p3, List.forall_mem_cons.mpr ⟨lw_p4, List.forall_mem_cons.mpr ⟨lw_p5, List.forall_mem_cons.mpr ⟨lw_p6, List.forall_mem_cons.mpr ⟨lw_p7, List.forall_mem_cons.mpr ⟨lw_p8, List.forall_mem_cons.mpr ⟨lw_p9, List.forall_mem_cons.mpr ⟨lw_p10, List.forall_mem_cons.mpr ⟨lw_p11, List.forall_mem_cons.mpr ⟨lw_p12, List.forall_mem_cons.mpr ⟨lw_p13, List.forall_mem_cons.mpr ⟨lw_p14, List.forall_mem_cons.mpr ⟨lw_p15, fun _ h => absurd h List.not_mem_nil⟩⟩⟩⟩⟩⟩⟩⟩⟩⟩⟩⟩⟩⟩⟩⟩
theorem lw_p16 : lw_okq (⟨"IdleDiscards", "ofCommand", "(II)I"⟩, 6) := ⟨⟨by decide +kernel, by decide +kernel⟩, List.mem_of_getElem? (i := 16) (by decide +kernel), List.mem_of_getElem? (i := 668) (by decide +kernel), List.mem_of_getElem? (i := 669) (by decide +kernel)⟩
theorem lw_p17 : lw_okq (⟨"IdleDiscards", "doScriptCommand", "(I)Z"⟩, 6) := ⟨⟨by decide +kernel, by decide +kernel⟩, List.mem_of_getElem? (i := 16) (by decide +kernel), List.mem_of_getElem? (i := 723) (by decide +kernel), List.mem_of_getElem? (i := 724) (by decide +kernel)⟩
theorem lw_p18 : lw_okq (⟨"IdleDiscards", "takeTurn", "(I)V"⟩, 6) := ⟨⟨by decide +kernel, by decide +kernel⟩, List.mem_of_getElem? (i := 16) (by decide +kernel), List.mem_of_getElem? (i := 738) (by decide +kernel), List.mem_of_getElem? (i := 739) (by decide +kernel)⟩
theorem lw_p19 : lw_okq (⟨"IdleDiscardsModel", "refused", "(I)Z"⟩, 13) := ⟨⟨by decide +kernel, by decide +kernel⟩, List.mem_of_getElem? (i := 761) (by decide +kernel), List.mem_of_getElem? (i := 822) (by decide +kernel), List.mem_of_getElem? (i := 823) (by decide +kernel)⟩
theorem lw_p20 : lw_okq (⟨"IdleDiscardsModel", "readText", "([I)I"⟩, 13) := ⟨⟨by decide +kernel, by decide +kernel⟩, List.mem_of_getElem? (i := 761) (by decide +kernel), List.mem_of_getElem? (i := 834) (by decide +kernel), List.mem_of_getElem? (i := 835) (by decide +kernel)⟩
theorem lw_p21 : lw_okq (⟨"IdleDiscardsModel", "readCommand", "([I)Z"⟩, 13) := ⟨⟨by decide +kernel, by decide +kernel⟩, List.mem_of_getElem? (i := 761) (by decide +kernel), List.mem_of_getElem? (i := 838) (by decide +kernel), List.mem_of_getElem? (i := 839) (by decide +kernel)⟩
theorem lw_p22 : lw_okq (⟨"IdleDiscardsModel", "figures", "(IIII)I"⟩, 13) := ⟨⟨by decide +kernel, by decide +kernel⟩, List.mem_of_getElem? (i := 761) (by decide +kernel), List.mem_of_getElem? (i := 842) (by decide +kernel), List.mem_of_getElem? (i := 843) (by decide +kernel)⟩
theorem lw_p23 : lw_okq (⟨"IdleDiscardsModel", "done", "(Z)Z"⟩, 13) := ⟨⟨by decide +kernel, by decide +kernel⟩, List.mem_of_getElem? (i := 761) (by decide +kernel), List.mem_of_getElem? (i := 878) (by decide +kernel), List.mem_of_getElem? (i := 879) (by decide +kernel)⟩
theorem lw_p24 : lw_okq (⟨"IdleDiscardsModel", "runOn", "([II)I"⟩, 13) := ⟨⟨by decide +kernel, by decide +kernel⟩, List.mem_of_getElem? (i := 761) (by decide +kernel), List.mem_of_getElem? (i := 882) (by decide +kernel), List.mem_of_getElem? (i := 883) (by decide +kernel)⟩
theorem lw_p25 : lw_okq (⟨"IdleDiscardsModel", "tick", "([I)V"⟩, 13) := ⟨⟨by decide +kernel, by decide +kernel⟩, List.mem_of_getElem? (i := 761) (by decide +kernel), List.mem_of_getElem? (i := 886) (by decide +kernel), List.mem_of_getElem? (i := 887) (by decide +kernel)⟩
theorem lw_p26 : lw_okq (⟨"IdleDiscardsModel", "send", "([III)V"⟩, 13) := ⟨⟨by decide +kernel, by decide +kernel⟩, List.mem_of_getElem? (i := 761) (by decide +kernel), List.mem_of_getElem? (i := 911) (by decide +kernel), List.mem_of_getElem? (i := 912) (by decide +kernel)⟩
theorem lw_p27 : lw_okq (⟨"IdleDiscardsModel", "remember", "()V"⟩, 13) := ⟨⟨by decide +kernel, by decide +kernel⟩, List.mem_of_getElem? (i := 761) (by decide +kernel), List.mem_of_getElem? (i := 977) (by decide +kernel), List.mem_of_getElem? (i := 978) (by decide +kernel)⟩
theorem lw_p28 : lw_okq (⟨"IdleDiscardsModel", "flushOn", "([I)I"⟩, 13) := ⟨⟨by decide +kernel, by decide +kernel⟩, List.mem_of_getElem? (i := 761) (by decide +kernel), List.mem_of_getElem? (i := 1002) (by decide +kernel), List.mem_of_getElem? (i := 1003) (by decide +kernel)⟩
theorem lw_p29 : lw_okq (⟨"IdleDiscardsModel", "command", "(II)Z"⟩, 13) := ⟨⟨by decide +kernel, by decide +kernel⟩, List.mem_of_getElem? (i := 761) (by decide +kernel), List.mem_of_getElem? (i := 1045) (by decide +kernel), List.mem_of_getElem? (i := 1046) (by decide +kernel)⟩
theorem lw_p30 : lw_okq (⟨"IdleDiscardsModel", "turn", "(I)V"⟩, 13) := ⟨⟨by decide +kernel, by decide +kernel⟩, List.mem_of_getElem? (i := 761) (by decide +kernel), List.mem_of_getElem? (i := 1055) (by decide +kernel), List.mem_of_getElem? (i := 1056) (by decide +kernel)⟩
def lw_privs_2 : List (MethodName × Nat) := [(⟨"IdleDiscards", "ofCommand", "(II)I"⟩, 6), (⟨"IdleDiscards", "doScriptCommand", "(I)Z"⟩, 6), (⟨"IdleDiscards", "takeTurn", "(I)V"⟩, 6), (⟨"IdleDiscardsModel", "refused", "(I)Z"⟩, 13), (⟨"IdleDiscardsModel", "readText", "([I)I"⟩, 13), (⟨"IdleDiscardsModel", "readCommand", "([I)Z"⟩, 13), (⟨"IdleDiscardsModel", "figures", "(IIII)I"⟩, 13), (⟨"IdleDiscardsModel", "done", "(Z)Z"⟩, 13), (⟨"IdleDiscardsModel", "runOn", "([II)I"⟩, 13), (⟨"IdleDiscardsModel", "tick", "([I)V"⟩, 13), (⟨"IdleDiscardsModel", "send", "([III)V"⟩, 13), (⟨"IdleDiscardsModel", "remember", "()V"⟩, 13), (⟨"IdleDiscardsModel", "flushOn", "([I)I"⟩, 13), (⟨"IdleDiscardsModel", "command", "(II)Z"⟩, 13), (⟨"IdleDiscardsModel", "turn", "(I)V"⟩, 13)]
theorem lw_r2 : ∀ q ∈ lw_privs_2, lw_okq q := List.forall_mem_cons.mpr ⟨lw_p16, List.forall_mem_cons.mpr ⟨lw_p17, List.forall_mem_cons.mpr ⟨lw_p18, List.forall_mem_cons.mpr ⟨lw_p19, List.forall_mem_cons.mpr ⟨lw_p20, List.forall_mem_cons.mpr ⟨lw_p21, List.forall_mem_cons.mpr ⟨lw_p22, List.forall_mem_cons.mpr ⟨lw_p23, List.forall_mem_cons.mpr ⟨lw_p24, List.forall_mem_cons.mpr ⟨lw_p25, List.forall_mem_cons.mpr ⟨lw_p26, List.forall_mem_cons.mpr ⟨lw_p27, List.forall_mem_cons.mpr ⟨lw_p28, List.forall_mem_cons.mpr ⟨lw_p29, List.forall_mem_cons.mpr ⟨lw_p30, fun _ h => absurd h List.not_mem_nil⟩⟩⟩⟩⟩⟩⟩⟩⟩⟩⟩⟩⟩⟩⟩
def lw_privs : List (MethodName × Nat) := lw_privs_1 ++ (lw_privs_2)
def lw_tbl : List Cond := k2_sels lw_privs ++ tables_1
theorem lw_privs_ok : ∀ q ∈ lw_privs, lw_okq q := by
  show ∀ q ∈ lw_privs_1 ++ (lw_privs_2), lw_okq q
  exact List.forall_mem_append.mpr ⟨lw_r1, lw_r2⟩
-- ===== end of PART A; then your names; then what follows =====
end
section
/-! ===== BEGIN words of one list among another's, by their places ===== -/
theorem goodIn_r {big : List Cond} (ws : List Cond) (ps : List Nat) (hp : ws = ps.filterMap (fun i => big[i]?)) (h : ws.all goodWord = true) : GoodIn big ws := by
  intro w hw
  have h1 := List.all_eq_true.mp h w hw
  rw [hp] at hw
  obtain ⟨i, -, hi⟩ := List.mem_filterMap.mp hw
  have hm : w ∈ big := by first | exact List.mem_of_getElem? hi | exact List.getElem?_mem hi
  exact ⟨hm, good_of_word h1⟩
theorem goodIn_app {big a b : List Cond} (ha : GoodIn big a) (hb : GoodIn big b) : GoodIn big (a ++ b) := fun w h => (List.mem_append.mp h).elim (ha w) (hb w)
theorem goodIn_ca {big a b : List Cond} {c : Cond} (ha : GoodIn big (c :: a)) (hb : GoodIn big b) : GoodIn big (c :: (a ++ b)) := fun w h => (List.mem_cons.mp h).elim (fun e => ha w (List.mem_cons.mpr (Or.inl e))) (fun h => (List.mem_append.mp h).elim (fun h => ha w (List.mem_cons.mpr (Or.inr h))) (hb w))
theorem goodIn_sub {big ws : List Cond} (hm : ∀ w ∈ ws, w ∈ big) (h : ws.all goodWord = true) : GoodIn big ws := fun w hw => ⟨hm w hw, good_of_word (List.all_eq_true.mp h w hw)⟩
/-! ===== END ===== -/

/-! ===== BEGIN exceptions that leave a method, and their catching by the caller (launches without stack traces) ===== -/
section VXA
/-! The laws vx_back, vx_callV, vx_callS, vx_callSW, vx_throw0, vx_throwS follow proofs of the library, with one case more: JvmDerived/Free/Laws.lean (Back.of_free), Shelf42/LK1.lean (callV, callS), Shelf/KitTraced.lean (throwNew0V, throwNewS). -/
/-- where a method has thrown q: the class by its name, the cell, what was written, the world -/
def vx_T (XC : String → State → State → Prop) (st : State) (q : Addr) (t : State) (mc ms : Nat) (free : Addr → Prop) : Prop :=
  ∃ (E : String) (ce : Cell) (L : List Loc), XC E st t ∧ t.heap[q]? = some ce ∧ ce.vm = .none ∧ st.vm.findClass E = some ce.cls ∧ st.WarmedH t.vm ∧ st.sameButNew ({ t with vm := st.vm } : State) L mc ms ∧ ∀ z ∈ L, free z.base
def vx_Q (Qc : Array Value → State → Outcome → State → Prop) (XC : String → State → State → Prop) (mc ms : Nat) (free : Addr → Prop) : Array Value → State → Outcome → State → Prop := fun a st o t =>
  (Qc a st o t ∧ ∃ L, FrameEnd st o t L mc ms ∧ ∀ q ∈ L, free q.base) ∨ ∃ q, o = .threw q ∧ vx_T XC st q t mc ms free
/-- a callee that returns or throws -/
def vx_Met (l : Launch) (y : MethodName) (ws : List Cond) (rm : Room) (Pc : Array Value → State → Prop) (Qc : Array Value → State → Outcome → State → Prop) (XC : String → State → State → Prop) (mc ms : Nat) (free : Addr → Prop) : Prop :=
  MetFree l y (headSpec ws rm) Pc (fun _ _ _ _ _ => True) (vx_Q Qc XC mc ms free)
def vx_Post (XC : String → State → State → Prop) (mc ms : Nat) (free : Addr → Prop) : Pt → Array Value → Addr → Pt → Prop := fun A a q B =>
  ∃ (g : JFrame) (mk : MethodId) (t : State) (L : List Loc) (E : String) (ce : Cell), B.U.heap = t.heap ∧ B.U.vm = t.vm ∧ XC E (A.U.calling g mk a) t ∧ t.heap[q]? = some ce ∧ ce.vm = .none ∧ A.U.vm.findClass E = some ce.cls ∧ B.locs = A.locs ++ L ∧ (∀ z ∈ L, free z.base) ∧ B.cells = A.cells + mc ∧ B.slots = A.slots + ms
def vx_Back (l : Launch) (R : Room) (p : Program) (e : Env) (below : List Frame) (s : State) (sargs : Array Value) (y : MethodName) (len W9 : Nat)
    (Pre : Pt → Array Value → Prop) (Post : Pt → Array Value → Option Value → Pt → Prop) (PostX : Pt → Array Value → Addr → Pt → Prop) : Prop :=
  ∀ (m : MethodId) (meth : Method) (c : Code) (A : Pt) (g : JFrame) (ig : Instr) (mk : MethodId) (a : Array Value),
    Stand p l e R s m sargs below meth c A.U A.locs A.cells A.slots → g.method = m → g.locals.size = c.maxLocals → decode c.code g.pc = .ok (ig, len) →
    2 * g.monitorRoom + (g.stack.map fun v => v.category).sum ≤ W9 → A.U.methodNamed? y = some mk → Pre A a →
    (∃ (v : Option Value) (B : Pt), Stand p l e R s m sargs below meth c B.U B.locs B.cells B.slots ∧ Post A a v B ∧
      Steps p.tables e below (doInvoke e (A.U.setTop g) [] mk a).1 (B.U.setTop { g with pc := g.pc + len, stack := v.toList ++ g.stack })) ∨
    (∃ (q : Addr) (B : Pt), Stand p l e R s m sargs below meth c B.U B.locs B.cells B.slots ∧ PostX A a q B ∧
      Steps p.tables e below (doInvoke e (A.U.setTop g) [] mk a).1 ((B.U.setTop g).pushFrame (.throwing q)))
section Payer
variable {l : Launch} {R : Room} {p : Program} {e : Env} {below : List Frame} {s : State} {sargs : Array Value} {y : MethodName} {len W9 : Nat}
theorem vx_back {ws : List Cond} {rm : Room} {Pc : Array Value → State → Prop} {Qc : Array Value → State → Outcome → State → Prop} {XC : String → State → State → Prop} {mc ms : Nat} {free : Addr → Prop} {bytes : ByteArray} {maxL : Nat} {ret : Option FieldType}
    (hM : vx_Met l y ws rm Pc Qc XC mc ms free) (hblind : FrameBlind Pc) (hrc : rm.cells = mc) (hrs : rm.slots = ms)
    (hframes : rm.frames + 1 ≤ R.frames) (hlocals : W9 + (maxL + 11) + rm.locals ≤ R.locals)
    (hws : ∀ w ∈ ws, ∀ a' U, s.WarmedH U.vm → w.before a' U = true) (hcode : Cond.code y bytes maxL ret ∈ ws) (hinit : ∀ a' U, s.WarmedH U.vm → (Cond.initialized y.cls).before a' U = true) :
    vx_Back l R p e below s sargs y len W9 (PreOf R mc ms Pc) (PostOf Qc mc ms free) (vx_Post XC mc ms free) := by
  intro m meth c A g ig mk a X hg hsize hdg hW hn hp
  have h1 : (headSpec ws rm).pre.before a A.U = true := atoms_intro fun w hw => hws w hw _ _ X.warmed
  have h2 : (Cond.code y bytes maxL ret).before a A.U = true := hws _ hcode _ _ X.warmed
  have h3 : (Cond.initialized y.cls).before a A.U = true := hinit _ _ X.warmed
  have h4 : A.cells + (headSpec ws rm).room.cells ≤ R.cells := by rw [show (headSpec ws rm).room.cells = mc from hrc]; exact hp.1
  have h5 : A.slots + (headSpec ws rm).room.slots ≤ R.slots := by rw [show (headSpec ws rm).room.slots = ms from hrs]; exact hp.2.1
  have hPc : Pc a (A.U.calling g mk a) := hblind _ _ _ _ hp.2.2
  obtain ⟨U, Ls, c0, s0⟩ := A
  dsimp only [Pt.U, Pt.locs, Pt.cells, Pt.slots] at h1 h2 h3 h4 h5 X hn hPc ⊢
  obtain ⟨methY, cY, hmY, hcY, -, hlY, -, -, -, -⟩ := Cond.code_spec hn h2
  obtain ⟨kY, hkY, -⟩ := className_of_methodNamed hn
  have hinitY : kY.init = .initialized := Cond.initialized_spec (findClass_of_methodNamed hn) hkY h3
  have h : At U g.method c below := by rw [hg]; exact X.here
  have hlocals9 : W9 + (maxL + 11) + (headSpec ws rm).room.locals ≤ R.locals := hlocals
  have happ : (headSpec ws rm).appliesLoose y e.platform (U.calling g mk a) = true :=
    Spec.appliesLoose_calling (g := g) h hdg hn hkY hinitY
      (X.room_calling (g := g) (R' := (headSpec ws rm).room) hsize hmY hcY hframes (by rw [hlY]; omega) h4 h5) h1
  obtain ⟨mid, hmid⟩ := h.above
  have hfr : (U.setTop g).frames = (.java g :: mid) ++ below := by rw [State.frames_setTop' g h.top, hmid]; rfl
  obtain ⟨o, s₂, hsteps, -, hend, hq⟩ := Steps.callFree hM p X.admits X.cas X.clock (acts := []) hfr happ hPc trivial
  have hq' : vx_Q Qc XC mc ms free a (U.calling g mk a) o s₂ := hq
  rw [State.frames_setTop' g h.top] at hend
  obtain ⟨g₀, hg0⟩ := Option.isSome_iff_exists.mp h.top
  obtain ⟨r, hr⟩ := State.topJava?_eq_some.mp hg0
  have hr' : (({ U with heap := s₂.heap, slotsUsed := s₂.slotsUsed } : State).setVm s₂.vm).frames = .java g₀ :: r := hr
  rcases hq' with ⟨hqc, L, hfe, hL⟩ | ⟨q, rfl, E, ce, L, hx, hce, hcv, hcl, hW₂, hsm, hL⟩
  · obtain ⟨⟨v, rfl⟩, hW₂, e2, q2, q3, q4, q5, q6⟩ := id hfe
    have e3 : s₂ = ({ (U.calling g mk a).setFrames s₂.frames with heap := s₂.heap, slotsUsed := s₂.slotsUsed } : State).setVm s₂.vm := by
      have : s₂ = ({ s₂ with vm := (U.calling g mk a).vm } : State).setVm s₂.vm := rfl
      rw [e2] at this
      exact this
    obtain ⟨c₂, i₂, len₂, hc₂, hd₂, hf₂⟩ := hend
    have hW' : U.WarmedH s₂.vm := hW₂
    have hcc : c₂ = c := by
      have h1 : s₂.code? g.method = U.code? g.method := by
        rw [State.code?_eq, State.code?_eq, hW'.alike.method?]
      exact Option.some.inj (hc₂.symm.trans (h1.trans h.code))
    subst hcc
    have hlen : len₂ = len := by rw [hdg] at hd₂; cases hd₂; rfl
    subst hlen
    have hs₂ : s₂ = (({ U with heap := s₂.heap, slotsUsed := s₂.slotsUsed } : State).setVm s₂.vm).setTop { g with pc := g.pc + len₂, stack := v.toList ++ g.stack } := by
      refine e3.trans ?_
      rw [hf₂, State.calling_eq h.top, State.setFrames_setFrames, State.setTop_of_frames _ hr', hr]
      rfl
    have hsame : U.sameButNew ({ U with heap := s₂.heap, slotsUsed := s₂.slotsUsed } : State) L mc ms := by
      refine ⟨?_, q2, q3, q4, q5, q6⟩
      obtain ⟨t, ht, -⟩ := State.frames_cons hr
      show ({ U with heap := s₂.heap, slotsUsed := s₂.slotsUsed } : State) = { U.setFrames U.frames with heap := s₂.heap, slotsUsed := s₂.slotsUsed }
      rw [State.setFrames_self ht]
    subst hg
    refine Or.inl ⟨v, ⟨(({ U with heap := s₂.heap, slotsUsed := s₂.slotsUsed } : State).setVm s₂.vm), Ls ++ L, c0 + mc, s0 + ms⟩,
      ⟨X.admits, X.cas, X.clock, X.frames, X.room, X.hears, X.method, X.code, (X.here.setHeapUsed s₂.heap s₂.slotsUsed).setVm hW'.alike, X.tail, State.WarmedH.trans X.warmed hW', X.limits, X.bytes, X.same.trans (hsame.setVm s.vm)⟩,
      ⟨g, mk, s₂, L, rfl, rfl, hqc, rfl, hL, rfl, rfl⟩, ?_⟩
    show Steps p.tables e below _ ((({ U with heap := s₂.heap, slotsUsed := s₂.slotsUsed } : State).setVm s₂.vm).setTop { g with pc := g.pc + len₂, stack := v.toList ++ g.stack })
    rw [← hs₂]
    exact hsteps
  · obtain ⟨e2, q2, q3, q4, q5, q6⟩ := id hsm
    have e3 : s₂ = ({ (U.calling g mk a).setFrames s₂.frames with heap := s₂.heap, slotsUsed := s₂.slotsUsed } : State).setVm s₂.vm := by
      have : s₂ = ({ s₂ with vm := (U.calling g mk a).vm } : State).setVm s₂.vm := rfl
      rw [e2] at this
      exact this
    have hf₂ : s₂.frames = .throwing q :: .java g :: U.frames.tail := hend
    have hW' : U.WarmedH s₂.vm := hW₂
    have hs₂ : s₂ = ((({ U with heap := s₂.heap, slotsUsed := s₂.slotsUsed } : State).setVm s₂.vm).setTop g).pushFrame (.throwing q) := by
      refine e3.trans ?_
      rw [hf₂, State.calling_eq h.top, State.setFrames_setFrames, State.pushFrame, State.frames_setTop _ hr', State.setTop_of_frames _ hr', State.setFrames_setFrames, hr]
      rfl
    have hsame : U.sameButNew ({ U with heap := s₂.heap, slotsUsed := s₂.slotsUsed } : State) L mc ms := by
      refine ⟨?_, q2, q3, q4, q5, q6⟩
      obtain ⟨t, ht, -⟩ := State.frames_cons hr
      show ({ U with heap := s₂.heap, slotsUsed := s₂.slotsUsed } : State) = { U.setFrames U.frames with heap := s₂.heap, slotsUsed := s₂.slotsUsed }
      rw [State.setFrames_self ht]
    subst hg
    refine Or.inr ⟨q, ⟨(({ U with heap := s₂.heap, slotsUsed := s₂.slotsUsed } : State).setVm s₂.vm), Ls ++ L, c0 + mc, s0 + ms⟩,
      ⟨X.admits, X.cas, X.clock, X.frames, X.room, X.hears, X.method, X.code, (X.here.setHeapUsed s₂.heap s₂.slotsUsed).setVm hW'.alike, X.tail, State.WarmedH.trans X.warmed hW', X.limits, X.bytes, X.same.trans (hsame.setVm s.vm)⟩,
      ⟨g, mk, s₂, L, E, ce, rfl, rfl, hx, hce, hcv, hcl, rfl, hL, rfl, rfl⟩, ?_⟩
    show Steps p.tables e below _ (((({ U with heap := s₂.heap, slotsUsed := s₂.slotsUsed } : State).setVm s₂.vm).setTop g).pushFrame (.throwing q))
    rw [← hs₂]
    exact hsteps
end Payer
section Calls
variable {p : Program} {l : Launch} {e : Env} {R : Room} {s : State} {m : MethodId} {args : Array Value} {below : List Frame} {meth : Method} {c : Code} {T : State} {locs : List Loc} {cells slots : Nat}
theorem vx_callV (X : Stand p l e R s m args below meth c T locs cells slots) (hexec : p.tables.exec = Jvm.exec) {own C : String} {index : Nat} {y : MethodName} {bytes : ByteArray} {maxL : Nat} {ret : Option FieldType}
    (hown : s.vm.findClass own = some m.cls) (hlink : (Cond.methodLink own index y).before args s = true) (hinst : (Cond.instanceMethod y).before args s = true) (hsel : (Cond.selects C y y).before args s = true)
    (hcode : (Cond.code y bytes maxL ret).before args s = true) (hy : y.cls ≠ "java/lang/invoke/MethodHandle" ∧ y.cls ≠ "java/lang/invoke/VarHandle")
    {W9 : Nat} {Pre : Pt → Array Value → Prop} {Post : Pt → Array Value → Option Value → Pt → Prop} {PostX : Pt → Array Value → Addr → Pt → Prop} (hK : vx_Back l R p e below s args y 3 W9 Pre Post PostX)
    {b : Addr} {cellB : Cell} (hcell : T.heap[b]? = some cellB) (hobj : cellB.vm.isStatics = false) (hcls : s.vm.findClass C = some cellB.cls)
    {g : JFrame} (hg : g.method = m) (hsize : g.locals.size = c.maxLocals) {argsL rest : List Value} (hlen : ∀ sig, parseMethodDescriptor y.desc = some sig → argsL.length = sig.parameters.length)
    (hstack : g.stack = argsL.reverse ++ .ref b :: rest) (hW : 2 * g.monitorRoom + (rest.map fun v => v.category).sum ≤ W9) (hdg : decode c.code g.pc = .ok (.invokevirtual index, 3))
    (hpre : ∀ vm₁, s.WarmedH vm₁ → Pre ⟨T.setVm vm₁, locs, cells, slots⟩ (Value.ref b :: argsL).toArray) :
    (∃ (v : Option Value) (vm₁ : Vm) (B : Pt), s.WarmedH vm₁ ∧ Stand p l e R s m args below meth c B.U B.locs B.cells B.slots ∧ Post ⟨T.setVm vm₁, locs, cells, slots⟩ (Value.ref b :: argsL).toArray v B ∧
      ∀ target, Steps p.tables e below (B.U.setTop { g with pc := g.pc + 3, stack := v.toList ++ rest }) target → Steps p.tables e below (T.setTop g) target) ∨
    (∃ (q : Addr) (vm₁ : Vm) (B : Pt), s.WarmedH vm₁ ∧ Stand p l e R s m args below meth c B.U B.locs B.cells B.slots ∧ PostX ⟨T.setVm vm₁, locs, cells, slots⟩ (Value.ref b :: argsL).toArray q B ∧
      Steps p.tables e below (T.setTop g) ((B.U.setTop { g with stack := rest }).pushFrame (.throwing q))) := by
  obtain ⟨mk, methM, hnamed, hmethM, hstM, habM⟩ := Cond.instanceMethod_spec hinst
  obtain ⟨methM', cM, hmethM', -, -, -, -, -, -, hsigM⟩ := Cond.code_spec hnamed hcode
  cases hmethM.symm.trans hmethM'
  obtain ⟨c2, r2, m2, q1, q2, q3, q4, kP, hkP, hkPi⟩ := Cond.selects_spec hsel
  cases hcls.symm.trans q1
  cases (State.methodFound?_of_named hnamed hy).symm.trans q2
  cases hnamed.symm.trans q3
  have hselP : selectMethod e.platform s.vm cellB.cls mk = .method mk := by rw [Launch.admits_selectMethod X.admits]; exact q4
  obtain ⟨vm₁, X₁, hstep₁⟩ := X.invokevirtual hexec hown hlink hnamed hmethM hstM hkP hkPi hy (a := b) (cell := cellB) hcell
    (fun z h => by rw [h] at hobj; cases hobj) hselP hmethM habM hkP hkPi (g := g) hg (argsL := argsL) (rest := rest) (hlen _ hsigM) hstack hdg
  rcases hK m meth c ⟨T.setVm vm₁, locs, cells, slots⟩ { g with stack := rest } (.invokevirtual index) mk (Value.ref b :: argsL).toArray X₁ hg hsize hdg hW (X₁.named hnamed) (hpre vm₁ X₁.warmed) with ⟨v, B, X', hpost, hsteps⟩ | ⟨q, B, X', hpost, hsteps⟩
  · exact Or.inl ⟨v, vm₁, B, X₁.warmed, X', hpost, fun target h => hstep₁ _ fun acts => by rw [doInvoke_state]; exact hsteps.trans h⟩
  · exact Or.inr ⟨q, vm₁, B, X₁.warmed, X', hpost, hstep₁ _ fun acts => by rw [doInvoke_state]; exact hsteps⟩
theorem vx_callS (X : Stand p l e R s m args below meth c T locs cells slots) (hexec : p.tables.exec = Jvm.exec) {own : String} {index : Nat} {y : MethodName} {bytes : ByteArray} {maxL : Nat} {ret : Option FieldType}
    (hown : s.vm.findClass own = some m.cls) (hlink : (Cond.methodLink own index y).before args s = true) (hstat : (Cond.static y).before args s = true) (hinit : (Cond.initialized y.cls).before args s = true)
    (hcode : (Cond.code y bytes maxL ret).before args s = true) (hy : y.cls ≠ "java/lang/invoke/MethodHandle" ∧ y.cls ≠ "java/lang/invoke/VarHandle")
    {W9 : Nat} {Pre : Pt → Array Value → Prop} {Post : Pt → Array Value → Option Value → Pt → Prop} {PostX : Pt → Array Value → Addr → Pt → Prop} (hK : vx_Back l R p e below s args y 3 W9 Pre Post PostX)
    {g : JFrame} (hg : g.method = m) (hsize : g.locals.size = c.maxLocals) {argsL rest : List Value} (hlen : ∀ sig, parseMethodDescriptor y.desc = some sig → argsL.length = sig.parameters.length)
    (hstack : g.stack = argsL.reverse ++ rest) (hW : 2 * g.monitorRoom + (rest.map fun v => v.category).sum ≤ W9) (hdg : decode c.code g.pc = .ok (.invokestatic index, 3))
    (hpre : ∀ vm₁, s.WarmedH vm₁ → Pre ⟨T.setVm vm₁, locs, cells, slots⟩ argsL.toArray) :
    (∃ (v : Option Value) (vm₁ : Vm) (B : Pt), s.WarmedH vm₁ ∧ Stand p l e R s m args below meth c B.U B.locs B.cells B.slots ∧ Post ⟨T.setVm vm₁, locs, cells, slots⟩ argsL.toArray v B ∧
      ∀ target, Steps p.tables e below (B.U.setTop { g with pc := g.pc + 3, stack := v.toList ++ rest }) target → Steps p.tables e below (T.setTop g) target) ∨
    (∃ (q : Addr) (vm₁ : Vm) (B : Pt), s.WarmedH vm₁ ∧ Stand p l e R s m args below meth c B.U B.locs B.cells B.slots ∧ PostX ⟨T.setVm vm₁, locs, cells, slots⟩ argsL.toArray q B ∧
      Steps p.tables e below (T.setTop g) ((B.U.setTop { g with stack := rest }).pushFrame (.throwing q))) := by
  obtain ⟨mk, hnamed⟩ := Cond.code_named hcode
  obtain ⟨methM, cM, hmethM, -, -, -, -, -, -, hsigM⟩ := Cond.code_spec hnamed hcode
  have hstatic : methM.isStatic = true := Cond.static_spec hnamed hmethM hstat
  obtain ⟨kP, hkP, -⟩ := className_of_methodNamed hnamed
  have hinitP : kP.init = .initialized := Cond.initialized_spec (findClass_of_methodNamed hnamed) hkP hinit
  obtain ⟨vm₁, X₁, hstep₁⟩ := X.invokestatic hexec hown hlink hnamed hmethM hstatic hkP hinitP hy (g := g) hg (argsL := argsL) (rest := rest) (hlen _ hsigM) hstack hdg
  rcases hK m meth c ⟨T.setVm vm₁, locs, cells, slots⟩ { g with stack := rest } (.invokestatic index) mk argsL.toArray X₁ hg hsize hdg hW (X₁.named hnamed) (hpre vm₁ X₁.warmed) with ⟨v, B, X', hpost, hsteps⟩ | ⟨q, B, X', hpost, hsteps⟩
  · exact Or.inl ⟨v, vm₁, B, X₁.warmed, X', hpost, fun target h => hstep₁ _ fun acts => by rw [doInvoke_state]; exact hsteps.trans h⟩
  · exact Or.inr ⟨q, vm₁, B, X₁.warmed, X', hpost, hstep₁ _ fun acts => by rw [doInvoke_state]; exact hsteps⟩
end Calls
theorem vx_cls {s : State} {T : State} {vm₁ : Vm} {E : String} {k : ClassId} (hW : s.WarmedH vm₁) (h : (T.setVm vm₁).vm.findClass E = some k) : s.vm.findClass E = some k := by
  have h1 : vm₁.findClass E = some k := h
  rw [hW.alike.findClass] at h1
  exact h1
/-- the method's frame g, with q thrown over it -/
def vx_W (p : Program) (l : Launch) (e : Env) (R : Room) (s : State) (m : MethodId) (args : Array Value) (below : List Frame) (meth : Method) (c : Code) (H : Heap) (locs : List Loc) (cells slots : Nat) (Q : State → Prop) (g : JFrame) (q : Addr) : Prop :=
  ∀ T : State, T.heap = H → Stand p l e R s m args below meth c T locs cells slots → ∃ t, Steps p.tables e below ((T.setTop g).pushFrame (.throwing q)) t ∧ Q t
def vx_Run (p : Program) (l : Launch) (e : Env) (R : Room) (s : State) (m : MethodId) (args : Array Value) (below : List Frame) (meth : Method) (c : Code) (H : Heap) (locs : List Loc) (cells slots mc ms : Nat) (g : JFrame) (rest : List Value) (Qa : State → Outcome → State → Prop) (XC : String → State → State → Prop) (free : Addr → Prop) : Prop :=
  ∀ T : State, T.heap = H → Stand p l e R s m args below meth c T locs cells slots →
    (∃ (v : Option Value) (st₀ t T' : State) (L : List Loc), st₀.heap = H ∧ Stand p l e R s m args below meth c T' (locs ++ L) (cells + mc) (slots + ms) ∧ (∀ q ∈ L, free q.base) ∧ T'.heap = t.heap ∧ T'.vm = t.vm ∧ Qa st₀ (.returned v) t ∧
      Goes p e below T g T' { g with pc := g.pc + 3, stack := v.toList ++ rest }) ∨
    (∃ (q : Addr) (st₀ t T' : State) (L : List Loc) (E : String) (ce : Cell), st₀.heap = H ∧ Stand p l e R s m args below meth c T' (locs ++ L) (cells + mc) (slots + ms) ∧ (∀ z ∈ L, free z.base) ∧ T'.heap = t.heap ∧ T'.vm = t.vm ∧ XC E st₀ t ∧ t.heap[q]? = some ce ∧ ce.vm = .none ∧ s.vm.findClass E = some ce.cls ∧
      Steps p.tables e below (T.setTop g) ((T'.setTop { g with stack := rest }).pushFrame (.throwing q)))
def vx_X {S : Type} (px : S → Prop) (B : String → S → State → Prop) (A : Nat → Prop) : String → State → State → Prop := fun E st t => ∃ u : S, px u ∧ B E u t ∧ va_F A st t
section Runs
variable {p : Program} {l : Launch} {e : Env} {R : Room} {s : State} {m : MethodId} {args : Array Value} {below : List Frame} {meth : Method} {c : Code} {H : Heap} {locs : List Loc} {cells slots : Nat}
variable {y : MethodName} {bytes cc : ByteArray} {maxL nL mc ms n index : Nat} {ret : Option FieldType} {ws : List Cond} {rm : Room} {Pc : Array Value → State → Prop} {Qc : Array Value → State → Outcome → State → Prop} {XC : String → State → State → Prop} {free : Addr → Prop} {Ts : List Cond} {own C : String} {b : Addr} {As rest : List Value} {g : JFrame}
theorem vx_callBack (cb : CallB R s args own index y bytes maxL ret ws rm mc ms n) (hM : vx_Met l y ws rm Pc Qc XC mc ms free) (hbl : FrameBlind Pc) : vx_Back l R p e below s args y 3 8 (PreOf R mc ms Pc) (PostOf Qc mc ms free) (vx_Post XC mc ms free) := by
  obtain ⟨hrc, hrs, hfr, hlo, hws, hcw, -, hini, -⟩ := cb
  exact vx_back (bytes := bytes) (maxL := maxL) (ret := ret) hM hbl hrc hrs hfr hlo hws hcw (fun a' U hW => word_at hW (Or.inl (by first | rfl | simp [Cond.onTables, Cond.keeps, Cond.steady])) hini)
theorem vx_runV (S : CallFix p m c cc nL s args Ts own) (hM : vx_Met l y ws rm Pc Qc XC mc ms free) (cw : CallW R s args own C index y bytes maxL ret ws rm mc ms n) (hp : PreV s H C b Pc As)
    (hg : g.method = m) (hn : As.length = n) (hsize : g.locals.size = nL) (hstack : g.stack = As.reverse ++ .ref b :: rest) (hW : 2 * g.monitorRoom + (rest.map fun v => v.category).sum ≤ 8) (hdg : decode cc g.pc = .ok (.invokevirtual index, 3)) (hf : cells + mc ≤ R.cells ∧ slots + ms ≤ R.slots) :
    vx_Run p l e R s m args below meth c H locs cells slots mc ms g rest (Qc (Value.ref b :: As).toArray) XC free := by
  have hK : vx_Back l R p e below s args y 3 8 (PreOf R mc ms Pc) (PostOf Qc mc ms free) (vx_Post XC mc ms free) := vx_callBack cw.1 hM hp.1
  obtain ⟨⟨-, -, -, -, -, -, hcode, -, hy, hlen, hl⟩, hin, hse⟩ := cw
  obtain ⟨hx, hb, hml, ho, -⟩ := S
  obtain ⟨-, ⟨cellB, hcB, hoB, hclB⟩, hPc⟩ := hp
  intro T hT X
  rcases vx_callV X hx (C := C) (bytes := bytes) (maxL := maxL) (ret := ret) ho hl hin hse hcode hy hK (by rw [hT]; exact hcB) hoB hclB hg (hsize.trans hml.symm) (argsL := As) (rest := rest) (fun sig h => hn.trans (hlen sig h)) hstack hW (by rw [hb]; exact hdg)
    (fun vm₁ hW₁ => ⟨hf.1, hf.2, hPc (T.setVm vm₁) hT hW₁⟩) with ⟨v, vm₁, ⟨U', l2, c2, s2⟩, hW₁, X', ⟨g', mk, t, L, e1, e2, hq, h1, hL, h2, h3⟩, st⟩ | ⟨q, vm₁, ⟨U', l2, c2, s2⟩, hW₁, X', ⟨g', mk, t, L, E, ce, e1, e2, hq, hce, hcv, hcl, h1, hL, h2, h3⟩, st⟩
  · dsimp only [Pt.U, Pt.locs, Pt.cells, Pt.slots] at X' e1 e2 h1 h2 h3 st
    subst h1; subst h2; subst h3
    exact Or.inl ⟨v, (T.setVm vm₁).calling g' mk (Value.ref b :: As).toArray, t, U', L, hT, X', hL, e1, e2, hq, st⟩
  · dsimp only [Pt.U, Pt.locs, Pt.cells, Pt.slots] at X' e1 e2 h1 h2 h3 st hcl
    subst h1; subst h2; subst h3
    exact Or.inr ⟨q, (T.setVm vm₁).calling g' mk (Value.ref b :: As).toArray, t, U', L, E, ce, hT, X', hL, e1, e2, hq, hce, hcv, vx_cls hW₁ hcl, st⟩
theorem vx_runS (S : CallFix p m c cc nL s args Ts own) (hM : vx_Met l y ws rm Pc Qc XC mc ms free) (cw : CallB R s args own index y bytes maxL ret ws rm mc ms n ∧ (Cond.static y).before args s = true) (hp : PreS s H Pc As)
    (hg : g.method = m) (hn : As.length = n) (hsize : g.locals.size = nL) (hstack : g.stack = As.reverse ++ rest) (hW : 2 * g.monitorRoom + (rest.map fun v => v.category).sum ≤ 8) (hdg : decode cc g.pc = .ok (.invokestatic index, 3)) (hf : cells + mc ≤ R.cells ∧ slots + ms ≤ R.slots) :
    vx_Run p l e R s m args below meth c H locs cells slots mc ms g rest (Qc As.toArray) XC free := by
  have hK : vx_Back l R p e below s args y 3 8 (PreOf R mc ms Pc) (PostOf Qc mc ms free) (vx_Post XC mc ms free) := vx_callBack cw.1 hM hp.1
  obtain ⟨⟨-, -, -, -, -, -, hcode, hini, hy, hlen, hl⟩, hstt⟩ := cw
  obtain ⟨hx, hb, hml, ho, -⟩ := S
  intro T hT X
  rcases vx_callS X hx (bytes := bytes) (maxL := maxL) (ret := ret) ho hl hstt hini hcode hy hK hg (hsize.trans hml.symm) (argsL := As) (rest := rest) (fun sig h => hn.trans (hlen sig h)) hstack hW (by rw [hb]; exact hdg)
    (fun vm₁ hW₁ => ⟨hf.1, hf.2, hp.2 (T.setVm vm₁) hT hW₁⟩) with ⟨v, vm₁, ⟨U', l2, c2, s2⟩, hW₁, X', ⟨g', mk, t, L, e1, e2, hq, h1, hL, h2, h3⟩, st⟩ | ⟨q, vm₁, ⟨U', l2, c2, s2⟩, hW₁, X', ⟨g', mk, t, L, E, ce, e1, e2, hq, hce, hcv, hcl, h1, hL, h2, h3⟩, st⟩
  · dsimp only [Pt.U, Pt.locs, Pt.cells, Pt.slots] at X' e1 e2 h1 h2 h3 st
    subst h1; subst h2; subst h3
    exact Or.inl ⟨v, (T.setVm vm₁).calling g' mk As.toArray, t, U', L, hT, X', hL, e1, e2, hq, st⟩
  · dsimp only [Pt.U, Pt.locs, Pt.cells, Pt.slots] at X' e1 e2 h1 h2 h3 st hcl
    subst h1; subst h2; subst h3
    exact Or.inr ⟨q, (T.setVm vm₁).calling g' mk As.toArray, t, U', L, E, ce, hT, X', hL, e1, e2, hq, hce, hcv, vx_cls hW₁ hcl, st⟩
end Runs
section Rows
variable {p : Program} {l : Launch} {e : Env} {R : Room} {s : State} {m : MethodId} {args : Array Value} {below : List Frame} {meth : Method} {c : Code} {H : Heap} {locs : List Loc} {cells slots : Nat} {Q : State → Prop}
variable {mc ms : Nat} {free : Addr → Prop} {A0 A1 : Nat → Prop} {H0 : Heap} {a : Array Value} {pc : Nat} {ls : Array Slot} {st0 rest : List Value}
theorem vx_keep {st₀ t T' : State} {L : List Loc} (h0 : st₀.heap = H) (e1 : T'.heap = t.heap) (hS : va_S A0 H0 H locs) (hA : ∀ q, q < H.size → A1 q → A0 q) (hf : ∀ q, free q → A0 q) (hL : ∀ q ∈ L, free q.base) (hF : va_F A1 st₀ t) :
    H.size ≤ T'.heap.size ∧ (∀ q : Nat, q < H.size → ¬ A1 q → T'.heap[q]? = H[q]?) ∧ va_S A0 H0 T'.heap (locs ++ L) := by
  obtain ⟨hz, hk⟩ := hF
  rw [h0] at hz hk
  exact ⟨by rw [e1]; exact hz, fun q h1 h2 => by rw [e1]; exact hk q h1 h2,
    ⟨Nat.le_trans hS.1 (by rw [e1]; exact hz), fun q h1 h2 => by rw [e1, hk q (Nat.lt_of_lt_of_le h1 hS.1) (fun z => h2 (hA q (Nat.lt_of_lt_of_le h1 hS.1) z))]; exact hS.2.1 q h1 h2, fun q hq => by
      rcases List.mem_append.mp hq with h | h
      · exact hS.2.2 q h
      · exact hf _ (hL q h)⟩⟩
theorem vx_calli {S SX : Type} {post : Int32 → S → Prop} {px : SX → Prop} {B : S → State → Prop} {BX : String → SX → State → Prop} {AX : Nat → Prop} (hr : vx_Run p l e R s m args below meth c H locs cells slots mc ms (F0 m pc ls st0) rest (va_Qi post B A1 a) (vx_X px BX AX) free) (hS : va_S A0 H0 H locs) (hA : ∀ q, q < H.size → A1 q → A0 q) (hf : ∀ q, free q → A0 q) (hAX : ∀ q, q < H.size → AX q → A0 q)
    (kx : ∀ (E : String) (ce : Cell) (q9 : Addr) (u : SX) (t : State) (H1 : Heap) (locs1 : List Loc), t.heap = H1 → s.vm.Alike t.vm → px u → BX E u t → H.size ≤ H1.size → (∀ q : Nat, q < H.size → ¬ AX q → H1[q]? = H[q]?) → va_S A0 H0 H1 locs1 → H1[q9]? = some ce → ce.vm = .none → s.vm.findClass E = some ce.cls → vx_W p l e R s m args below meth c H1 locs1 (cells + mc) (slots + ms) Q (F0 m pc ls rest) q9)
    (kk : ∀ (r : Int32) (u : S) (t : State) (H1 : Heap) (locs1 : List Loc), t.heap = H1 → s.vm.Alike t.vm → post r u → B u t → H.size ≤ H1.size → (∀ q : Nat, q < H.size → ¬ A1 q → H1[q]? = H[q]?) → va_S A0 H0 H1 locs1 → W p l e R s m args below meth c H1 locs1 (cells + mc) (slots + ms) Q (F0 m (pc + 3) ls (.int r :: rest))) : W p l e R s m args below meth c H locs cells slots Q (F0 m pc ls st0) := by
  intro T hT X
  rcases hr T hT X with ⟨v, st₀, t, T', L, h0, X', hL, e1, e2, ⟨⟨r, u, hv, hp, hb⟩, hF⟩, st⟩ | ⟨q, st₀, t, T', L, E, ce, h0, X', hL, e1, e2, ⟨u, hp, hb, hF⟩, hce, hcv, hcl, st⟩
  · cases hv
    obtain ⟨k1, k2, k3⟩ := vx_keep h0 e1 hS hA hf hL hF
    obtain ⟨t2, a1, b1⟩ := kk r u t T'.heap (locs ++ L) e1.symm (by rw [← e2]; exact X'.warmed.alike) hp hb k1 k2 k3 T' rfl X'
    exact ⟨t2, st t2 a1, b1⟩
  · obtain ⟨k1, k2, k3⟩ := vx_keep h0 e1 hS hAX hf hL hF
    obtain ⟨t2, a1, b1⟩ := kx E ce q u t T'.heap (locs ++ L) e1.symm (by rw [← e2]; exact X'.warmed.alike) hp hb k1 k2 k3 (by rw [e1]; exact hce) hcv hcl T' rfl X'
    exact ⟨t2, st.trans a1, b1⟩
theorem vx_calll {S SX : Type} {post : Int64 → S → Prop} {px : SX → Prop} {B : S → State → Prop} {BX : String → SX → State → Prop} {AX : Nat → Prop} (hr : vx_Run p l e R s m args below meth c H locs cells slots mc ms (F0 m pc ls st0) rest (va_Ql post B A1 a) (vx_X px BX AX) free) (hS : va_S A0 H0 H locs) (hA : ∀ q, q < H.size → A1 q → A0 q) (hf : ∀ q, free q → A0 q) (hAX : ∀ q, q < H.size → AX q → A0 q)
    (kx : ∀ (E : String) (ce : Cell) (q9 : Addr) (u : SX) (t : State) (H1 : Heap) (locs1 : List Loc), t.heap = H1 → s.vm.Alike t.vm → px u → BX E u t → H.size ≤ H1.size → (∀ q : Nat, q < H.size → ¬ AX q → H1[q]? = H[q]?) → va_S A0 H0 H1 locs1 → H1[q9]? = some ce → ce.vm = .none → s.vm.findClass E = some ce.cls → vx_W p l e R s m args below meth c H1 locs1 (cells + mc) (slots + ms) Q (F0 m pc ls rest) q9)
    (kk : ∀ (r : Int64) (u : S) (t : State) (H1 : Heap) (locs1 : List Loc), t.heap = H1 → s.vm.Alike t.vm → post r u → B u t → H.size ≤ H1.size → (∀ q : Nat, q < H.size → ¬ A1 q → H1[q]? = H[q]?) → va_S A0 H0 H1 locs1 → W p l e R s m args below meth c H1 locs1 (cells + mc) (slots + ms) Q (F0 m (pc + 3) ls (.long r :: rest))) : W p l e R s m args below meth c H locs cells slots Q (F0 m pc ls st0) := by
  intro T hT X
  rcases hr T hT X with ⟨v, st₀, t, T', L, h0, X', hL, e1, e2, ⟨⟨r, u, hv, hp, hb⟩, hF⟩, st⟩ | ⟨q, st₀, t, T', L, E, ce, h0, X', hL, e1, e2, ⟨u, hp, hb, hF⟩, hce, hcv, hcl, st⟩
  · cases hv
    obtain ⟨k1, k2, k3⟩ := vx_keep h0 e1 hS hA hf hL hF
    obtain ⟨t2, a1, b1⟩ := kk r u t T'.heap (locs ++ L) e1.symm (by rw [← e2]; exact X'.warmed.alike) hp hb k1 k2 k3 T' rfl X'
    exact ⟨t2, st t2 a1, b1⟩
  · obtain ⟨k1, k2, k3⟩ := vx_keep h0 e1 hS hAX hf hL hF
    obtain ⟨t2, a1, b1⟩ := kx E ce q u t T'.heap (locs ++ L) e1.symm (by rw [← e2]; exact X'.warmed.alike) hp hb k1 k2 k3 (by rw [e1]; exact hce) hcv hcl T' rfl X'
    exact ⟨t2, st.trans a1, b1⟩
theorem vx_callf {S SX : Type} {post : UInt32 → S → Prop} {px : SX → Prop} {B : S → State → Prop} {BX : String → SX → State → Prop} {AX : Nat → Prop} (hr : vx_Run p l e R s m args below meth c H locs cells slots mc ms (F0 m pc ls st0) rest (va_Qf post B A1 a) (vx_X px BX AX) free) (hS : va_S A0 H0 H locs) (hA : ∀ q, q < H.size → A1 q → A0 q) (hf : ∀ q, free q → A0 q) (hAX : ∀ q, q < H.size → AX q → A0 q)
    (kx : ∀ (E : String) (ce : Cell) (q9 : Addr) (u : SX) (t : State) (H1 : Heap) (locs1 : List Loc), t.heap = H1 → s.vm.Alike t.vm → px u → BX E u t → H.size ≤ H1.size → (∀ q : Nat, q < H.size → ¬ AX q → H1[q]? = H[q]?) → va_S A0 H0 H1 locs1 → H1[q9]? = some ce → ce.vm = .none → s.vm.findClass E = some ce.cls → vx_W p l e R s m args below meth c H1 locs1 (cells + mc) (slots + ms) Q (F0 m pc ls rest) q9)
    (kk : ∀ (r : UInt32) (u : S) (t : State) (H1 : Heap) (locs1 : List Loc), t.heap = H1 → s.vm.Alike t.vm → post r u → B u t → H.size ≤ H1.size → (∀ q : Nat, q < H.size → ¬ A1 q → H1[q]? = H[q]?) → va_S A0 H0 H1 locs1 → W p l e R s m args below meth c H1 locs1 (cells + mc) (slots + ms) Q (F0 m (pc + 3) ls (.float r :: rest))) : W p l e R s m args below meth c H locs cells slots Q (F0 m pc ls st0) := by
  intro T hT X
  rcases hr T hT X with ⟨v, st₀, t, T', L, h0, X', hL, e1, e2, ⟨⟨r, u, hv, hp, hb⟩, hF⟩, st⟩ | ⟨q, st₀, t, T', L, E, ce, h0, X', hL, e1, e2, ⟨u, hp, hb, hF⟩, hce, hcv, hcl, st⟩
  · cases hv
    obtain ⟨k1, k2, k3⟩ := vx_keep h0 e1 hS hA hf hL hF
    obtain ⟨t2, a1, b1⟩ := kk r u t T'.heap (locs ++ L) e1.symm (by rw [← e2]; exact X'.warmed.alike) hp hb k1 k2 k3 T' rfl X'
    exact ⟨t2, st t2 a1, b1⟩
  · obtain ⟨k1, k2, k3⟩ := vx_keep h0 e1 hS hAX hf hL hF
    obtain ⟨t2, a1, b1⟩ := kx E ce q u t T'.heap (locs ++ L) e1.symm (by rw [← e2]; exact X'.warmed.alike) hp hb k1 k2 k3 (by rw [e1]; exact hce) hcv hcl T' rfl X'
    exact ⟨t2, st.trans a1, b1⟩
theorem vx_calld {S SX : Type} {post : UInt64 → S → Prop} {px : SX → Prop} {B : S → State → Prop} {BX : String → SX → State → Prop} {AX : Nat → Prop} (hr : vx_Run p l e R s m args below meth c H locs cells slots mc ms (F0 m pc ls st0) rest (va_Qd post B A1 a) (vx_X px BX AX) free) (hS : va_S A0 H0 H locs) (hA : ∀ q, q < H.size → A1 q → A0 q) (hf : ∀ q, free q → A0 q) (hAX : ∀ q, q < H.size → AX q → A0 q)
    (kx : ∀ (E : String) (ce : Cell) (q9 : Addr) (u : SX) (t : State) (H1 : Heap) (locs1 : List Loc), t.heap = H1 → s.vm.Alike t.vm → px u → BX E u t → H.size ≤ H1.size → (∀ q : Nat, q < H.size → ¬ AX q → H1[q]? = H[q]?) → va_S A0 H0 H1 locs1 → H1[q9]? = some ce → ce.vm = .none → s.vm.findClass E = some ce.cls → vx_W p l e R s m args below meth c H1 locs1 (cells + mc) (slots + ms) Q (F0 m pc ls rest) q9)
    (kk : ∀ (r : UInt64) (u : S) (t : State) (H1 : Heap) (locs1 : List Loc), t.heap = H1 → s.vm.Alike t.vm → post r u → B u t → H.size ≤ H1.size → (∀ q : Nat, q < H.size → ¬ A1 q → H1[q]? = H[q]?) → va_S A0 H0 H1 locs1 → W p l e R s m args below meth c H1 locs1 (cells + mc) (slots + ms) Q (F0 m (pc + 3) ls (.double r :: rest))) : W p l e R s m args below meth c H locs cells slots Q (F0 m pc ls st0) := by
  intro T hT X
  rcases hr T hT X with ⟨v, st₀, t, T', L, h0, X', hL, e1, e2, ⟨⟨r, u, hv, hp, hb⟩, hF⟩, st⟩ | ⟨q, st₀, t, T', L, E, ce, h0, X', hL, e1, e2, ⟨u, hp, hb, hF⟩, hce, hcv, hcl, st⟩
  · cases hv
    obtain ⟨k1, k2, k3⟩ := vx_keep h0 e1 hS hA hf hL hF
    obtain ⟨t2, a1, b1⟩ := kk r u t T'.heap (locs ++ L) e1.symm (by rw [← e2]; exact X'.warmed.alike) hp hb k1 k2 k3 T' rfl X'
    exact ⟨t2, st t2 a1, b1⟩
  · obtain ⟨k1, k2, k3⟩ := vx_keep h0 e1 hS hAX hf hL hF
    obtain ⟨t2, a1, b1⟩ := kx E ce q u t T'.heap (locs ++ L) e1.symm (by rw [← e2]; exact X'.warmed.alike) hp hb k1 k2 k3 (by rw [e1]; exact hce) hcv hcl T' rfl X'
    exact ⟨t2, st.trans a1, b1⟩
theorem vx_callv {S SX : Type} {post : S → Prop} {px : SX → Prop} {B : S → State → Prop} {BX : String → SX → State → Prop} {AX : Nat → Prop} (hr : vx_Run p l e R s m args below meth c H locs cells slots mc ms (F0 m pc ls st0) rest (va_Qv post B A1 a) (vx_X px BX AX) free) (hS : va_S A0 H0 H locs) (hA : ∀ q, q < H.size → A1 q → A0 q) (hf : ∀ q, free q → A0 q) (hAX : ∀ q, q < H.size → AX q → A0 q)
    (kx : ∀ (E : String) (ce : Cell) (q9 : Addr) (u : SX) (t : State) (H1 : Heap) (locs1 : List Loc), t.heap = H1 → s.vm.Alike t.vm → px u → BX E u t → H.size ≤ H1.size → (∀ q : Nat, q < H.size → ¬ AX q → H1[q]? = H[q]?) → va_S A0 H0 H1 locs1 → H1[q9]? = some ce → ce.vm = .none → s.vm.findClass E = some ce.cls → vx_W p l e R s m args below meth c H1 locs1 (cells + mc) (slots + ms) Q (F0 m pc ls rest) q9)
    (kk : ∀ (u : S) (t : State) (H1 : Heap) (locs1 : List Loc), t.heap = H1 → s.vm.Alike t.vm → post u → B u t → H.size ≤ H1.size → (∀ q : Nat, q < H.size → ¬ A1 q → H1[q]? = H[q]?) → va_S A0 H0 H1 locs1 → W p l e R s m args below meth c H1 locs1 (cells + mc) (slots + ms) Q (F0 m (pc + 3) ls (rest))) : W p l e R s m args below meth c H locs cells slots Q (F0 m pc ls st0) := by
  intro T hT X
  rcases hr T hT X with ⟨v, st₀, t, T', L, h0, X', hL, e1, e2, ⟨⟨u, hv, hp, hb⟩, hF⟩, st⟩ | ⟨q, st₀, t, T', L, E, ce, h0, X', hL, e1, e2, ⟨u, hp, hb, hF⟩, hce, hcv, hcl, st⟩
  · cases hv
    obtain ⟨k1, k2, k3⟩ := vx_keep h0 e1 hS hA hf hL hF
    obtain ⟨t2, a1, b1⟩ := kk u t T'.heap (locs ++ L) e1.symm (by rw [← e2]; exact X'.warmed.alike) hp hb k1 k2 k3 T' rfl X'
    exact ⟨t2, st t2 a1, b1⟩
  · obtain ⟨k1, k2, k3⟩ := vx_keep h0 e1 hS hAX hf hL hF
    obtain ⟨t2, a1, b1⟩ := kx E ce q u t T'.heap (locs ++ L) e1.symm (by rw [← e2]; exact X'.warmed.alike) hp hb k1 k2 k3 (by rw [e1]; exact hce) hcv hcl T' rfl X'
    exact ⟨t2, st.trans a1, b1⟩
/-- caught by the row x of this method's table; the rows ahead don't take it -/
theorem vx_catch {own name : String} {E : String} {ce : Cell} {q : Addr} (hown : s.vm.findClass own = some m.cls) (pre : List ExceptionTableEntry) (x : ExceptionTableEntry) (suf : List ExceptionTableEntry) (hsplit : c.exceptionTable.toList = pre ++ x :: suf)
    (hpass : ∀ z ∈ pre, covers z pc = false ∨ (z.catchType ≠ 0 ∧ ∃ nm : String, (Cond.classLink own z.catchType nm).before args s = true ∧ va_Nc E nm s)) (hx : covers x pc = true) (h0 : x.catchType ≠ 0)
    (hlink : (Cond.classLink own x.catchType name).before args s = true) (hcast : (Cond.castable E name).before args s = true) (hcell : H[q]? = some ce) (hv : ce.vm = .none) (hcl : s.vm.findClass E = some ce.cls)
    (kk : W p l e R s m args below meth c H locs cells slots Q (F0 m x.handlerPc ls [.ref q])) : vx_W p l e R s m args below meth c H locs cells slots Q (F0 m pc ls rest) q := by
  intro T hT X
  have hpl : e.platform.magicAccessors = ({} : Platform).magicAccessors := by rw [X.admits.platform]
  obtain ⟨c3, c4, hc3, hc4, hasg⟩ := Cond.castable_spec hcast
  cases Option.some.inj (hc3.symm.trans hcl)
  obtain ⟨c5, hc5, hcl5⟩ := Cond.classLink_spec hown hlink e.platform hpl
  cases Option.some.inj (hc4.symm.trans hc5)
  obtain ⟨vm', X', st⟩ := X.thenCaughtThrough q (g := F0 m pc ls rest) rfl (Steps.refl _) (by rw [hT]; exact hcell) (by rw [hv]; rfl) (by obtain ⟨k9, h9, -⟩ := Vm.findClass_spec hcl; exact ⟨k9, h9⟩) pre x suf hsplit
    (fun z hz => by
      rcases hpass z hz with h | ⟨hz0, nm, hl1, hn1⟩
      · exact Or.inl h
      · obtain ⟨c6, hc6, hcl6⟩ := Cond.classLink_spec hown hl1 e.platform hpl
        obtain ⟨a8, b8, h1, h2, h3⟩ := hn1
        cases Option.some.inj (h1.symm.trans hcl)
        cases Option.some.inj (h2.symm.trans hc6)
        exact Or.inr ⟨hz0, _, hcl6, h3⟩) hx (Or.inr ⟨h0, c4, hcl5, hasg⟩)
  obtain ⟨t, a1, b1⟩ := kk (T.setVm vm') hT X'
  exact ⟨t, st.trans a1, b1⟩
end Rows
section Ends
variable {p : Program} {l : Launch} {e : Env} {R : Room} {s : State} {m : MethodId} {args : Array Value} {below : List Frame} {meth : Method} {c : Code} {H : Heap} {locs : List Loc} {cells slots : Nat} {Q : State → Prop}
variable {mc ms : Nat} {free : Addr → Prop} {A0 A1 : Nat → Prop} {H0 : Heap} {a : Array Value} {ls : Array Slot} {st0 rest : List Value}
variable {Qc : Array Value → State → Outcome → State → Prop} {XC : String → State → State → Prop}
/-- what a body that may throw owes at its end -/
def vx_MQ (below : List Frame) (Qc : Array Value → State → Outcome → State → Prop) (XC : String → State → State → Prop) (a : Array Value) (s : State) (mc ms : Nat) (free : Addr → Prop) : State → Prop := fun t =>
  ∃ o, t.status = .running ∧ Ended t below o ∧ vx_Q Qc XC mc ms free a s o t
theorem vx_ret {g : JFrame} {mc ms : Nat} (k : W p l e R s m args below meth c H locs cells slots (MQ below Qc args s mc ms free) g) : W p l e R s m args below meth c H locs cells slots (vx_MQ below Qc XC args s mc ms free) g := by
  intro T hT X
  obtain ⟨t, a1, o, b1, b2, b3, b4⟩ := k T hT X
  exact ⟨t, a1, o, b1, b2, Or.inl ⟨b3, b4⟩⟩
/-- not caught here: it goes on to the caller -/
theorem vx_widen {g : JFrame} {q : Addr} {k n : Nat} (h1 : cells ≤ k) (h2 : slots ≤ n) (kk : vx_W p l e R s m args below meth c H locs k n Q g q) : vx_W p l e R s m args below meth c H locs cells slots Q g q := fun T hT X => kk T hT (stand_widen X h1 h2)
theorem vx_out {pc : Nat} {E : String} {ce : Cell} {q : Addr} {mc ms : Nat} (hout : ∀ x ∈ c.exceptionTable.toList, covers x pc = false) (hlocks : meth.locks = false) (hcell : H[q]? = some ce) (hv : ce.vm = .none) (hcl : s.vm.findClass E = some ce.cls)
    (hx : ∀ t : State, t.heap = H → s.vm.Alike t.vm → XC E s t) (hf : ∀ z ∈ locs, free z.base) (hc : cells ≤ mc) (hs : slots ≤ ms) :
    vx_W p l e R s m args below meth c H locs cells slots (vx_MQ below Qc XC args s mc ms free) (F0 m pc ls rest) q := by
  intro T hT X
  obtain ⟨st1, hrun, hend, hW, hsm⟩ := X.leaveThrown q (g := F0 m pc ls rest) rfl rfl rfl hout hlocks
  have hcell9 : (T.setFrames (.throwing q :: below)).heap[q]? = some ce := by
    show T.heap[q]? = some ce
    rw [hT]; exact hcell
  exact ⟨_, st1, .threw q, hrun, hend, Or.inr ⟨q, rfl, E, ce, locs, hx _ hT hW.alike, hcell9, hv, hcl, hW, hsm.mono hc hs, hf⟩⟩
theorem vx_frame {U : State} {k n : Nat} (h : s.sameButNew ({ U with vm := s.vm } : State) locs k n) : s.heap.size ≤ U.heap.size ∧ ∀ q : Nat, q < s.heap.size → (∀ z ∈ locs, z.base ≠ q) → U.heap[q]? = s.heap[q]? := by
  obtain ⟨-, h2, -, -, -, h6⟩ := h
  refine ⟨h2, fun q hq hz => ?_⟩
  obtain ⟨c9, e1, e2, e3, e4⟩ := h6 q _ (Array.getElem?_eq_getElem hq)
  have hs : c9.slots = (s.heap[q]).slots := Array.ext_getElem? fun i => e4 i fun hm => hz _ hm rfl
  have h9 : c9 = s.heap[q] := by
    rw [hs] at e2
    exact e2
  have e5 : U.heap[q]? = some c9 := e1
  rw [e5, h9, Array.getElem?_eq_getElem hq]
/-- the words of a throw but the four that speak of the heap -/
def vx_no (w : Cond) : Bool := decide (w ≠ .isRef (.static Bundle.tN "UNASSIGNED_STACK" Bundle.steD)) && decide (w ≠ .isRef (.static Bundle.tN "SUPPRESSED_SENTINEL" Bundle.listD)) && decide (w ≠ .laysStatic Bundle.tN "UNASSIGNED_STACK" Bundle.steD) && decide (w ≠ .laysStatic Bundle.tN "SUPPRESSED_SENTINEL" Bundle.listD)
def vx_at0 (own : String) (ic : Nat) (X : String) (names : List String) : List Cond := (Bundle.ownAtoms0 own ic X names).filter vx_no
def vx_atS (own : String) (ic : Nat) (X : String) (names : List String) : List Cond := (Bundle.ownAtoms own ic X names).filter vx_no
/-- a word that the tables alone decide, or a good one -/
def vx_ot (w : Cond) : Bool := w.onTables || goodWord w
theorem vx_ot_at {args a' : Array Value} {s U : State} {w : Cond} (hW : s.WarmedH U.vm) (hvm : s.vm = U.vm) (hg : vx_ot w = true) (h : w.before args s = true) : w.before a' U = true := by
  simp only [vx_ot, Bool.or_eq_true] at hg
  rcases hg with hg | hg
  · exact va_tabs hg hvm h
  · exact word_at hW (good_of_word hg) h
/-- a list's words: the good ones out of the method's own list, the others by premises of their own -/
theorem vx_hat {args : Array Value} {s : State} {L B : List Cond} (h1 : ∀ w ∈ L.filter goodWord, w.before args s = true) (h2 : ∀ w ∈ L.filter (fun w => !goodWord w), w ∈ B) (h3 : ∀ w ∈ B, w.before args s = true) : ∀ w ∈ L, w.before args s = true := by
  intro w hw
  by_cases g : goodWord w = true
  · exact h1 w (List.mem_filter.mpr ⟨hw, g⟩)
  · refine h3 w (h2 w (List.mem_filter.mpr ⟨hw, ?_⟩))
    show (!goodWord w) = true
    cases hgw : goodWord w
    · rfl
    · exact absurd hgw g
theorem vx_c {args : Array Value} {s : State} {w : Cond} {B : List Cond} (h : w.before args s = true) (t : ∀ w ∈ B, w.before args s = true) : ∀ w' ∈ w :: B, w'.before args s = true := fun w' h' => (List.mem_cons.mp h').elim (fun e => by rw [e]; exact h) (t w')
theorem vx_n {args : Array Value} {s : State} : ∀ w ∈ ([] : List Cond), w.before args s = true := fun _ h => nomatch h
theorem vx_own {args : Array Value} {s : State} {L : List Cond} (h1 : ∀ w ∈ L.filter vx_no, w.before args s = true)
    (hU : (Cond.isRef (.static Bundle.tN "UNASSIGNED_STACK" Bundle.steD)).before args s = true) (hN : (Cond.isRef (.static Bundle.tN "SUPPRESSED_SENTINEL" Bundle.listD)).before args s = true)
    (lU : (Cond.laysStatic Bundle.tN "UNASSIGNED_STACK" Bundle.steD).before args s = true) (lN : (Cond.laysStatic Bundle.tN "SUPPRESSED_SENTINEL" Bundle.listD).before args s = true) : ∀ w ∈ L, w.before args s = true := by
  intro w hw
  by_cases e1 : w = .isRef (.static Bundle.tN "UNASSIGNED_STACK" Bundle.steD)
  · rw [e1]; exact hU
  · by_cases e2 : w = .isRef (.static Bundle.tN "SUPPRESSED_SENTINEL" Bundle.listD)
    · rw [e2]; exact hN
    · by_cases e3 : w = .laysStatic Bundle.tN "UNASSIGNED_STACK" Bundle.steD
      · rw [e3]; exact lU
      · by_cases e4 : w = .laysStatic Bundle.tN "SUPPRESSED_SENTINEL" Bundle.listD
        · rw [e4]; exact lN
        · exact h1 w (List.mem_filter.mpr ⟨hw, by unfold vx_no; rw [decide_eq_true e1, decide_eq_true e2, decide_eq_true e3, decide_eq_true e4]; rfl⟩)
/-- where a static field lies, its class's statics cell in H -/
def vx_L (C n d : String) (A : Nat → Prop) (U : State) (H : Heap) : Prop := ∃ (c : ClassId) (k : Class) (i : Nat) (f : Field) (a : Nat) (cell : Cell), U.vm.findClass C = some c ∧ U.fieldFound? C n d = some (c, k, i, f) ∧ f.isStatic = true ∧ k.statics = some a ∧ H[a]? = some cell ∧ cell.vm.isStatics = true ∧ cell.cls = c ∧ f.slot < cell.slots.size ∧ k.staticTypes[f.slot]? = some f.type ∧ ¬ A a
theorem vx_L.moved {C n d : String} {A : Nat → Prop} {u U : State} {H : Heap} (hvm : u.vm.Alike U.vm) (h : vx_L C n d A u H) : vx_L C n d A U H := by
  obtain ⟨c, k, i, f, a, cell, h1, h2, h3, h4, h5, h6, h7, h8, h9, h10⟩ := h
  obtain ⟨k', hi', he⟩ := State.fieldFound?_setVm hvm h2
  exact ⟨c, k', i, f, a, cell, by rw [hvm.findClass]; exact h1, hi', h3, by rw [he]; exact h4, h5, h6, h7, h8, by rw [he]; exact h9, h10⟩
theorem vx_L.kept {C n d : String} {A : Nat → Prop} {U : State} {H H1 : Heap} (h : vx_L C n d A U H) (hq : ∀ a : Nat, a < H.size → ¬ A a → H1[a]? = H[a]?) : vx_L C n d A U H1 := by
  obtain ⟨c, k, i, f, a, cell, h1, h2, h3, h4, h5, h6, h7, h8, h9, h10⟩ := h
  exact ⟨c, k, i, f, a, cell, h1, h2, h3, h4, by rw [hq a (Array.getElem?_eq_some_iff.mp h5).1 h10]; exact h5, h6, h7, h8, h9, h10⟩
theorem vx_L.narrow {C n d : String} {A B : Nat → Prop} {U : State} {H : Heap} (h : vx_L C n d A U H) (hAB : ∀ q, B q → A q) : vx_L C n d B U H := by
  obtain ⟨c, k, i, f, a, cell, h1, h2, h3, h4, h5, h6, h7, h8, h9, h10⟩ := h
  exact ⟨c, k, i, f, a, cell, h1, h2, h3, h4, h5, h6, h7, h8, h9, fun z => h10 (hAB _ z)⟩
theorem vx_L.word {C n d : String} {A : Nat → Prop} {s : State} {args : Array Value} (h : vx_L C n d A s s.heap) : (Cond.laysStatic C n d).before args s = true := by
  obtain ⟨c, k, i, f, a, cell, h1, h2, h3, h4, h5, h6, h7, h8, h9, -⟩ := h
  show (Cond.laysStatic C n d).holds args s none s [] = true
  exact Cond.laysStatic_of h1 h2 h3 h4 h5 h6 h7 h8 h9
/-- .. and what it holds: null or some reference -/
def vx_Zq (C n d : String) (A : Nat → Prop) (U : State) (H : Heap) : Prop := va_Zq C n d A U H ∧ vx_L C n d A U H
theorem vx_Zq.moved {C n d : String} {A : Nat → Prop} {u U : State} {H : Heap} (hvm : u.vm.Alike U.vm) (h : vx_Zq C n d A u H) : vx_Zq C n d A U H := ⟨va_Zq.moved hvm h.1, vx_L.moved hvm h.2⟩
theorem vx_Zq.kept {C n d : String} {A : Nat → Prop} {U : State} {H H1 : Heap} (h : vx_Zq C n d A U H) (hq : ∀ a : Nat, a < H.size → ¬ A a → H1[a]? = H[a]?) : vx_Zq C n d A U H1 := ⟨va_Zq.kept h.1 hq, vx_L.kept h.2 hq⟩
theorem vx_Zq.narrow {C n d : String} {A B : Nat → Prop} {U : State} {H : Heap} (h : vx_Zq C n d A U H) (hAB : ∀ q, B q → A q) : vx_Zq C n d B U H := ⟨va_Zq.narrow h.1 hAB, vx_L.narrow h.2 hAB⟩
theorem vx_Zqof {args : Array Value} {s : State} {C n d : String} {A : Nat → Prop} (hl : (Cond.laysStatic C n d).before args s = true) (hini : (Cond.initialized C).before args s = true) (h : (Cond.isRef (.static C n d)).before args s = true) (hA : ∀ a : Nat, a < s.heap.size → ¬ A a) : vx_Zq C n d A s s.heap := by
  refine ⟨va_Zqof hl hini h hA, ?_⟩
  obtain ⟨c, k, i, f, a, cell, h1, h2, h3, h4, h5, h6, h7, h8, h9⟩ := Cond.laysStatic_spec hl
  exact ⟨c, k, i, f, a, cell, h1, h2, h3, h4, h5, h6, h7, h8, h9, hA a (Array.getElem?_eq_some_iff.mp h5).1⟩
theorem vx_isRef {C n d : String} {v : Value} {A : Nat → Prop} {s : State} {args : Array Value} (h : va_Z C n d v A s s.heap) (hv : v.isRef = true) : (Cond.isRef (.static C n d)).before args s = true := by
  obtain ⟨cf, kf, fi, f, a, cell, h1, h2, h3, h4, h5, h6, h7, -⟩ := h
  have he : (Term.static C n d).eval args s none [] s = some v := by
    simp [Term.eval, State.fieldNamed?, h1, h2, h4, h5, h6, h7]
  simp only [Cond.before, Cond.holds, Cond.value, he]
  cases v <;> simp_all [Value.isRef]
theorem vx_isRefq {C n d : String} {A : Nat → Prop} {s : State} {args : Array Value} (h : va_Zq C n d A s s.heap) : (Cond.isRef (.static C n d)).before args s = true := by
  rcases h with h | ⟨t, h⟩
  · exact vx_isRef h rfl
  · exact vx_isRef h rfl
/-- the same frame, seen from here: as if the method were called anew in this heap -/
theorem vx_rebase {T : State} (X : Stand p l e R s m args below meth c T locs cells slots) {R' : Room} (hf : R'.frames ≤ R.frames) (hl : R'.locals ≤ R.locals) (hc : cells + R'.cells ≤ R.cells) (hs : slots + R'.slots ≤ R.slots) :
    Stand p l e R' ((T.setVm s.vm).setFrames (.invoking m args :: below)) m args below meth c T [] 0 0 := by
  have htop : (T.setVm s.vm).topJava?.isSome := X.here.top
  have hF : ((T.setVm s.vm).setFrames (.invoking m args :: below)).frames = .invoking m args :: below := State.frames_setFrames _ (State.cur_lt_of_top htop)
  obtain ⟨g₀, hg0⟩ := Option.isSome_iff_exists.mp htop
  obtain ⟨r, hr⟩ := State.topJava?_eq_some.mp hg0
  have hl9 : e.platform.stackLimits (T.setVm s.vm).me = e.platform.stackLimits s.me := X.limits
  have hb9 : (T.setVm s.vm).me.stackBytes = s.me.stackBytes := X.bytes
  refine ⟨X.admits, X.cas, X.clock, hF, ?_, X.hears, X.method, X.code, X.here, X.tail, X.warmed, ?_, ?_, ?_⟩
  · have h := X.room
    have hU : ((T.setVm s.vm).setFrames (.invoking m args :: below)).localsInUse = s.localsInUse := by
      rw [State.localsInUse_invoking hF (meth := meth) (c := c) X.method X.code, State.localsInUse_invoking X.frames X.method X.code]
    simp only [State.hasRoom, Bool.and_eq_true, decide_eq_true_eq] at h ⊢
    obtain ⟨⟨⟨⟨h1, h2, h3, h4, h5, h6⟩, h7⟩, h8⟩, h9⟩ := h
    rw [X.frames, List.length_cons] at h2 h3
    have q1 := X.heapSize
    have q2 := X.used
    simp only [hF, hU, List.length_cons, State.stackLimits_setFrames, State.stackBytes_setFrames, hl9, hb9]
    refine ⟨⟨⟨⟨by omega, by omega, by omega, by omega, by omega, h6⟩, ?_⟩, ?_⟩, X.book⟩
    · show T.heap.size + R'.cells ≤ e.platform.maxCells
      omega
    · show T.slotsUsed + R'.slots ≤ e.platform.maxSlots
      omega
  · rw [State.stackLimits_setFrames]; rfl
  · rw [State.stackBytes_setFrames]; rfl
  · refine ⟨?_, Nat.le_refl _, Nat.le_refl _, ?_, ?_, fun a c9 h9 => ⟨c9, h9, rfl, rfl, fun _ _ => rfl⟩⟩
    · obtain ⟨t, ht, -⟩ := State.frames_cons hr
      show T.setVm s.vm = { ((T.setVm s.vm).setFrames (.invoking m args :: below)).setFrames (T.setVm s.vm).frames with heap := T.heap, slotsUsed := T.slotsUsed }
      rw [State.setFrames_setFrames, State.setFrames_self ht]
      rfl
    · show T.slotsUsed = T.slotsUsed + ((T.heap.toList.drop T.heap.size).map (·.slots.size)).sum
      rw [List.drop_eq_nil_of_le (Nat.le_of_eq Array.length_toList)]
      rfl
    · show ((T.heap.toList.drop T.heap.size).map (·.slots.size)).sum ≤ 0
      rw [List.drop_eq_nil_of_le (Nat.le_of_eq Array.length_toList)]
      exact Nat.le_refl _
/-- 'throw new E()': new; dup; invokespecial; athrow -/
theorem vx_throw0 {cc : ByteArray} {pc : Nat} (hexec : p.tables.exec = Jvm.exec) (hb : c.code = cc) (hl : l.stackTraces = false) {own cls : String} {names : List String} {ik ic mc ms : Nat} {A : Nat → Prop}
    (hown : s.vm.findClass own = some m.cls) (hcls : Bundle.fit cls = true) (hnames : ∀ n ∈ names, Bundle.fit n = true)
    (hk : (Cond.classLink own ik cls).before args s = true) (hini : (Cond.initialized cls).before args s = true) (hat : ∀ w ∈ vx_at0 own ic cls names, w.before args s = true)
    (hgood : ∀ w ∈ Cond.classLink own ik cls :: Cond.initialized cls :: vx_at0 own ic cls names, vx_ot w = true)
    (hU : vx_Zq Bundle.tN "UNASSIGNED_STACK" Bundle.steD A s s.heap) (hN : vx_Zq Bundle.tN "SUPPRESSED_SENTINEL" Bundle.listD A s s.heap) (hS : va_S A s.heap H locs) (hsize : ls.size = c.maxLocals)
    (d0 : decode cc pc = .ok (.new ik, 3)) (d3 : decode cc (pc + 3) = .ok (.dup, 1)) (d4 : decode cc (pc + 4) = .ok (.invokespecial ic, 3)) (d7 : decode cc (pc + 7) = .ok (.athrow, 1))
    (hout : ∀ x ∈ c.exceptionTable.toList, covers x (pc + 7) = false)
    (hRframes : names.length + 3 < R.frames) (hRlocals : (rest.map fun v => v.category).sum + (13 * (names.length + 1) + 42) ≤ R.locals) (hRcells : cells + 1 ≤ R.cells) (hRslots : slots + 6 ≤ R.slots) (hlocks : meth.locks = false)
    (hx : ∀ t : State, s.vm.Alike t.vm → H.size ≤ t.heap.size → (∀ q : Nat, q < H.size → t.heap[q]? = H[q]?) → XC cls s t)
    (hf : ∀ z ∈ locs, free z.base) (hc : cells + 1 ≤ mc) (hs : slots + 6 ≤ ms) :
    W p l e R s m args below meth c H locs cells slots (vx_MQ below Qc XC args s mc ms free) (F0 m pc ls rest) := by
  intro T hT X
  have htr : e.platform.stackTraces = false := (show e.platform.stackTraces = l.stackTraces by rw [X.admits.platform]).trans hl
  have Y := vx_rebase X (R' := { frames := R.frames, locals := R.locals, cells := 1, slots := 6 }) (Nat.le_refl _) (Nat.le_refl _) hRcells hRslots
  obtain ⟨s', hA⟩ : ∃ z, z = (T.setVm s.vm).setFrames (.invoking m args :: below) := ⟨_, rfl⟩
  rw [← hA] at Y
  have hvm : s'.vm = s.vm := by rw [hA]; rfl
  have hhp : s'.heap = H := by rw [hA]; exact hT
  have hW0 : s.WarmedH s'.vm := by rw [hvm]; exact State.WarmedH.refl s
  have hat' : ∀ w ∈ vx_at0 own ic cls names, w.before args s' = true := fun w hw => vx_ot_at hW0 hvm.symm (hgood w (List.mem_cons_of_mem _ (List.mem_cons_of_mem _ hw))) (hat w hw)
  have hk' : (Cond.classLink own ik cls).before args s' = true := vx_ot_at hW0 hvm.symm (hgood _ List.mem_cons_self) hk
  have hini' : (Cond.initialized cls).before args s' = true := vx_ot_at hW0 hvm.symm (hgood _ (List.mem_cons_of_mem _ List.mem_cons_self)) hini
  have hU' : vx_Zq Bundle.tN "UNASSIGNED_STACK" Bundle.steD A s' s'.heap := by rw [hhp]; exact vx_Zq.moved hW0.alike (hU.kept hS.2.1)
  have hN' : vx_Zq Bundle.tN "SUPPRESSED_SENTINEL" Bundle.listD A s' s'.heap := by rw [hhp]; exact vx_Zq.moved hW0.alike (hN.kept hS.2.1)
  have h : ∀ w ∈ Bundle.ownAtoms0 own ic cls names, w.before args s' = true := vx_own hat' (vx_isRefq hU'.1) (vx_isRefq hN'.1) hU'.2.word hN'.2.word
  have hown' : s'.vm.findClass own = some m.cls := by rw [hvm]; exact hown
  have hins : (Cond.instantiable cls 6).before args s' = true := h _ (by simp [Bundle.ownAtoms0])
  obtain ⟨vm₁, cX, kX, hfX, hkX, -, -, X₁, st1⟩ := Y.newCold hexec (own := own) (C := cls) (index := ik) (n := 6) hown' hk' hins hini'
    (g := F0 m pc ls rest) rfl (by rw [hb]; exact d0) (Nat.le_refl _) (Nat.le_refl _)
  generalize hT1 : (T.setVm vm₁).pushCell { cls := cX, slots := kX.instanceTypes.map defaultValue, vm := .none } = T1 at X₁ st1
  have hcat : (Value.ref T.heap.size).category = 1 := rfl
  have hcellA : T1.heap[T.heap.size]? = some (freshCell cX kX) := by rw [← hT1]; exact State.heap_pushCell_size _ _
  have d3' : decode c.code (pc + 3) = .ok (.dup, 1) := by rw [hb]; exact d3
  obtain ⟨U, hsteps, hrun, hend, hW, hsame, ce, hce, hO⟩ := X₁.ctorThrow0 hexec htr (own := own) (cls := cls) (names := names) (ic := ic) hown' hcls hnames h (fun x hx => nomatch hx) hfX hkX hcellA (by rw [hhp, hT]; exact Nat.le_refl _)
    (g := { method := m, pc := pc + 4, locals := ls, stack := .ref T.heap.size :: .ref T.heap.size :: rest, locked := none }) rfl hsize rfl rfl (rest := rest) rfl
    (by rw [hb]; exact d4) (by rw [hb]; exact d7) hout hRframes (by simp only [List.map_cons, List.sum_cons, hcat]; omega) hlocks
  obtain ⟨f1, f2⟩ := vx_frame hsame
  rw [hhp] at f1 f2
  have hWs : s.WarmedH U.vm := State.WarmedH.trans hW0 hW
  have hcl : s.vm.findClass cls = some ce.cls := by
    have h9 := hO.cls
    rw [hvm] at h9
    exact h9
  have hall : s.sameButNew ({ U with vm := s.vm } : State) locs mc ms := by
    subst hA
    obtain ⟨e1, e2⟩ := hsame
    rw [State.setFrames_setFrames] at e1
    have h2 : (T.setVm s.vm).sameButNew ({ U with vm := s.vm } : State) [] (0 + 1) (0 + 6) := ⟨e1, e2⟩
    have h3 := X.same.trans h2
    rw [List.append_nil] at h3
    exact h3.mono hc hs
  refine ⟨U, ?_, .threw T.heap.size, hrun, hend, Or.inr ⟨T.heap.size, rfl, cls, ce, locs, hx U hWs.alike f1 (fun q hq => f2 q hq (fun z hz => nomatch hz)), hce, hO.vm, hcl, hWs, hall, hf⟩⟩
  refine st1 _ ?_
  show Steps p.tables e below (T1.setTop { method := m, pc := pc + 3, locals := ls, stack := .ref T.heap.size :: rest, locked := none }) _
  jvm_step X₁.here [X₁.here.top, hexec, d3', Value.category]
  exact hsteps
/-- 'throw new E("text")': new; dup; ldc; invokespecial; athrow -/
theorem vx_throwS {cc : ByteArray} {pc : Nat} (hexec : p.tables.exec = Jvm.exec) (hb : c.code = cc) (hl : l.stackTraces = false) {own cls text : String} {names : List String} {ik is ic mc ms sa : Nat} {A : Nat → Prop}
    (hown : s.vm.findClass own = some m.cls) (hcls : Bundle.fit cls = true) (hnames : ∀ n ∈ names, Bundle.fit n = true)
    (hk : (Cond.classLink own ik cls).before args s = true) (hini : (Cond.initialized cls).before args s = true) (hstr : vk_R own is text sa s) (hat : ∀ w ∈ vx_atS own ic cls names, w.before args s = true)
    (hgood : ∀ w ∈ Cond.classLink own ik cls :: Cond.initialized cls :: vx_atS own ic cls names, vx_ot w = true)
    (hU : vx_Zq Bundle.tN "UNASSIGNED_STACK" Bundle.steD A s s.heap) (hN : vx_Zq Bundle.tN "SUPPRESSED_SENTINEL" Bundle.listD A s s.heap) (hS : va_S A s.heap H locs) (hsize : ls.size = c.maxLocals)
    (d0 : decode cc pc = .ok (.new ik, 3)) (d3 : decode cc (pc + 3) = .ok (.dup, 1)) (d4 : decode cc (pc + 4) = .ok (.ldc is, 2)) (d6 : decode cc (pc + 6) = .ok (.invokespecial ic, 3)) (d9 : decode cc (pc + 9) = .ok (.athrow, 1))
    (hout : ∀ x ∈ c.exceptionTable.toList, covers x (pc + 9) = false)
    (hRframes : names.length + 3 < R.frames) (hRlocals : (rest.map fun v => v.category).sum + (13 * (names.length + 1) + 43) ≤ R.locals) (hRcells : cells + 1 ≤ R.cells) (hRslots : slots + 6 ≤ R.slots) (hlocks : meth.locks = false)
    (hx : ∀ t : State, s.vm.Alike t.vm → H.size ≤ t.heap.size → (∀ q : Nat, q < H.size → t.heap[q]? = H[q]?) → XC cls s t)
    (hf : ∀ z ∈ locs, free z.base) (hc : cells + 1 ≤ mc) (hs : slots + 6 ≤ ms) :
    W p l e R s m args below meth c H locs cells slots (vx_MQ below Qc XC args s mc ms free) (F0 m pc ls rest) := by
  intro T hT X
  have htr : e.platform.stackTraces = false := (show e.platform.stackTraces = l.stackTraces by rw [X.admits.platform]).trans hl
  have Y := vx_rebase X (R' := { frames := R.frames, locals := R.locals, cells := 1, slots := 6 }) (Nat.le_refl _) (Nat.le_refl _) hRcells hRslots
  obtain ⟨s', hA⟩ : ∃ z, z = (T.setVm s.vm).setFrames (.invoking m args :: below) := ⟨_, rfl⟩
  rw [← hA] at Y
  have hvm : s'.vm = s.vm := by rw [hA]; rfl
  have hhp : s'.heap = H := by rw [hA]; exact hT
  have hW0 : s.WarmedH s'.vm := by rw [hvm]; exact State.WarmedH.refl s
  have hat' : ∀ w ∈ vx_atS own ic cls names, w.before args s' = true := fun w hw => vx_ot_at hW0 hvm.symm (hgood w (List.mem_cons_of_mem _ (List.mem_cons_of_mem _ hw))) (hat w hw)
  have hk' : (Cond.classLink own ik cls).before args s' = true := vx_ot_at hW0 hvm.symm (hgood _ List.mem_cons_self) hk
  have hini' : (Cond.initialized cls).before args s' = true := vx_ot_at hW0 hvm.symm (hgood _ (List.mem_cons_of_mem _ List.mem_cons_self)) hini
  have hU' : vx_Zq Bundle.tN "UNASSIGNED_STACK" Bundle.steD A s' s'.heap := by rw [hhp]; exact vx_Zq.moved hW0.alike (hU.kept hS.2.1)
  have hN' : vx_Zq Bundle.tN "SUPPRESSED_SENTINEL" Bundle.listD A s' s'.heap := by rw [hhp]; exact vx_Zq.moved hW0.alike (hN.kept hS.2.1)
  have h : ∀ w ∈ Bundle.ownAtoms own ic cls names, w.before args s' = true := vx_own hat' (vx_isRefq hU'.1) (vx_isRefq hN'.1) hU'.2.word hN'.2.word
  have hown' : s'.vm.findClass own = some m.cls := by rw [hvm]; exact hown
  have hins : (Cond.instantiable cls 6).before args s' = true := h _ (by simp [Bundle.ownAtoms])
  obtain ⟨vm₁, cX, kX, hfX, hkX, -, -, X₁, st1⟩ := Y.newCold hexec (own := own) (C := cls) (index := ik) (n := 6) hown' hk' hins hini'
    (g := F0 m pc ls rest) rfl (by rw [hb]; exact d0) (Nat.le_refl _) (Nat.le_refl _)
  generalize hT1 : (T.setVm vm₁).pushCell { cls := cX, slots := kX.instanceTypes.map defaultValue, vm := .none } = T1 at X₁ st1
  have hcat : (Value.ref T.heap.size).category = 1 := rfl
  have hcellA : T1.heap[T.heap.size]? = some (freshCell cX kX) := by rw [← hT1]; exact State.heap_pushCell_size _ _
  have d3' : decode c.code (pc + 3) = .ok (.dup, 1) := by rw [hb]; exact d3
  have d4' : decode c.code (pc + 4) = .ok (.ldc is, 2) := by rw [hb]; exact d4
  have hstr' : vk_R own is text sa s' := vk_R.warm hW0 hstr
  obtain ⟨U, hsteps, hrun, hend, hW, hsame, ce, hce, hO⟩ := X₁.ctorThrowS hexec htr (own := own) (cls := cls) (names := names) (ic := ic) hown' hcls hnames h (fun x hx => nomatch hx) hfX hkX hcellA (by rw [hhp, hT]; exact Nat.le_refl _) (msg := .ref sa) rfl
    (g := { method := m, pc := pc + 6, locals := ls, stack := .ref sa :: .ref T.heap.size :: .ref T.heap.size :: rest, locked := none }) rfl hsize rfl rfl (rest := rest) rfl
    (by rw [hb]; exact d6) (by rw [hb]; exact d9) hout hRframes (by simp only [List.map_cons, List.sum_cons, hcat]; omega) hlocks
  obtain ⟨f1, f2⟩ := vx_frame hsame
  rw [hhp] at f1 f2
  have hWs : s.WarmedH U.vm := State.WarmedH.trans hW0 hW
  have hcl : s.vm.findClass cls = some ce.cls := by
    have h9 := hO.cls
    rw [hvm] at h9
    exact h9
  have hall : s.sameButNew ({ U with vm := s.vm } : State) locs mc ms := by
    subst hA
    obtain ⟨e1, e2⟩ := hsame
    rw [State.setFrames_setFrames] at e1
    have h2 : (T.setVm s.vm).sameButNew ({ U with vm := s.vm } : State) [] (0 + 1) (0 + 6) := ⟨e1, e2⟩
    have h3 := X.same.trans h2
    rw [List.append_nil] at h3
    exact h3.mono hc hs
  refine ⟨U, ?_, .threw T.heap.size, hrun, hend, Or.inr ⟨T.heap.size, rfl, cls, ce, locs, hx U hWs.alike f1 (fun q hq => f2 q hq (fun z hz => nomatch hz)), hce, hO.vm, hcl, hWs, hall, hf⟩⟩
  refine st1 _ ?_
  show Steps p.tables e below (T1.setTop { method := m, pc := pc + 3, locals := ls, stack := .ref T.heap.size :: rest, locked := none }) _
  jvm_step X₁.here [X₁.here.top, hexec, d3', Value.category]
  exact X₁.ldcString hexec (own := own) (text := text) (index := is) (a := sa) hown' hstr'.1 hstr'.2
    (g := { method := m, pc := pc + 4, locals := ls, stack := .ref T.heap.size :: .ref T.heap.size :: rest, locked := none }) rfl d4' _ hsteps
/-- 'throw new E("text")', the text by a wide index -/
theorem vx_throwSW {cc : ByteArray} {pc : Nat} (hexec : p.tables.exec = Jvm.exec) (hb : c.code = cc) (hl : l.stackTraces = false) {own cls text : String} {names : List String} {ik is ic mc ms sa : Nat} {A : Nat → Prop}
    (hown : s.vm.findClass own = some m.cls) (hcls : Bundle.fit cls = true) (hnames : ∀ n ∈ names, Bundle.fit n = true)
    (hk : (Cond.classLink own ik cls).before args s = true) (hini : (Cond.initialized cls).before args s = true) (hstr : vk_R own is text sa s) (hat : ∀ w ∈ vx_atS own ic cls names, w.before args s = true)
    (hgood : ∀ w ∈ Cond.classLink own ik cls :: Cond.initialized cls :: vx_atS own ic cls names, vx_ot w = true)
    (hU : vx_Zq Bundle.tN "UNASSIGNED_STACK" Bundle.steD A s s.heap) (hN : vx_Zq Bundle.tN "SUPPRESSED_SENTINEL" Bundle.listD A s s.heap) (hS : va_S A s.heap H locs) (hsize : ls.size = c.maxLocals)
    (d0 : decode cc pc = .ok (.new ik, 3)) (d3 : decode cc (pc + 3) = .ok (.dup, 1)) (d4 : decode cc (pc + 4) = .ok (.ldc_w is, 3)) (d7 : decode cc (pc + 7) = .ok (.invokespecial ic, 3)) (d10 : decode cc (pc + 10) = .ok (.athrow, 1))
    (hout : ∀ x ∈ c.exceptionTable.toList, covers x (pc + 10) = false)
    (hRframes : names.length + 3 < R.frames) (hRlocals : (rest.map fun v => v.category).sum + (13 * (names.length + 1) + 43) ≤ R.locals) (hRcells : cells + 1 ≤ R.cells) (hRslots : slots + 6 ≤ R.slots) (hlocks : meth.locks = false)
    (hx : ∀ t : State, s.vm.Alike t.vm → H.size ≤ t.heap.size → (∀ q : Nat, q < H.size → t.heap[q]? = H[q]?) → XC cls s t)
    (hf : ∀ z ∈ locs, free z.base) (hc : cells + 1 ≤ mc) (hs : slots + 6 ≤ ms) :
    W p l e R s m args below meth c H locs cells slots (vx_MQ below Qc XC args s mc ms free) (F0 m pc ls rest) := by
  intro T hT X
  have htr : e.platform.stackTraces = false := (show e.platform.stackTraces = l.stackTraces by rw [X.admits.platform]).trans hl
  have Y := vx_rebase X (R' := { frames := R.frames, locals := R.locals, cells := 1, slots := 6 }) (Nat.le_refl _) (Nat.le_refl _) hRcells hRslots
  obtain ⟨s', hA⟩ : ∃ z, z = (T.setVm s.vm).setFrames (.invoking m args :: below) := ⟨_, rfl⟩
  rw [← hA] at Y
  have hvm : s'.vm = s.vm := by rw [hA]; rfl
  have hhp : s'.heap = H := by rw [hA]; exact hT
  have hW0 : s.WarmedH s'.vm := by rw [hvm]; exact State.WarmedH.refl s
  have hat' : ∀ w ∈ vx_atS own ic cls names, w.before args s' = true := fun w hw => vx_ot_at hW0 hvm.symm (hgood w (List.mem_cons_of_mem _ (List.mem_cons_of_mem _ hw))) (hat w hw)
  have hk' : (Cond.classLink own ik cls).before args s' = true := vx_ot_at hW0 hvm.symm (hgood _ List.mem_cons_self) hk
  have hini' : (Cond.initialized cls).before args s' = true := vx_ot_at hW0 hvm.symm (hgood _ (List.mem_cons_of_mem _ List.mem_cons_self)) hini
  have hU' : vx_Zq Bundle.tN "UNASSIGNED_STACK" Bundle.steD A s' s'.heap := by rw [hhp]; exact vx_Zq.moved hW0.alike (hU.kept hS.2.1)
  have hN' : vx_Zq Bundle.tN "SUPPRESSED_SENTINEL" Bundle.listD A s' s'.heap := by rw [hhp]; exact vx_Zq.moved hW0.alike (hN.kept hS.2.1)
  have h : ∀ w ∈ Bundle.ownAtoms own ic cls names, w.before args s' = true := vx_own hat' (vx_isRefq hU'.1) (vx_isRefq hN'.1) hU'.2.word hN'.2.word
  have hown' : s'.vm.findClass own = some m.cls := by rw [hvm]; exact hown
  have hins : (Cond.instantiable cls 6).before args s' = true := h _ (by simp [Bundle.ownAtoms])
  obtain ⟨vm₁, cX, kX, hfX, hkX, -, -, X₁, st1⟩ := Y.newCold hexec (own := own) (C := cls) (index := ik) (n := 6) hown' hk' hins hini'
    (g := F0 m pc ls rest) rfl (by rw [hb]; exact d0) (Nat.le_refl _) (Nat.le_refl _)
  generalize hT1 : (T.setVm vm₁).pushCell { cls := cX, slots := kX.instanceTypes.map defaultValue, vm := .none } = T1 at X₁ st1
  have hcat : (Value.ref T.heap.size).category = 1 := rfl
  have hcellA : T1.heap[T.heap.size]? = some (freshCell cX kX) := by rw [← hT1]; exact State.heap_pushCell_size _ _
  have d3' : decode c.code (pc + 3) = .ok (.dup, 1) := by rw [hb]; exact d3
  have d4' : decode c.code (pc + 4) = .ok (.ldc_w is, 3) := by rw [hb]; exact d4
  have hstr' : vk_R own is text sa s' := vk_R.warm hW0 hstr
  obtain ⟨U, hsteps, hrun, hend, hW, hsame, ce, hce, hO⟩ := X₁.ctorThrowS hexec htr (own := own) (cls := cls) (names := names) (ic := ic) hown' hcls hnames h (fun x hx => nomatch hx) hfX hkX hcellA (by rw [hhp, hT]; exact Nat.le_refl _) (msg := .ref sa) rfl
    (g := { method := m, pc := pc + 7, locals := ls, stack := .ref sa :: .ref T.heap.size :: .ref T.heap.size :: rest, locked := none }) rfl hsize rfl rfl (rest := rest) rfl
    (by rw [hb]; exact d7) (by rw [hb]; exact d10) hout hRframes (by simp only [List.map_cons, List.sum_cons, hcat]; omega) hlocks
  obtain ⟨f1, f2⟩ := vx_frame hsame
  rw [hhp] at f1 f2
  have hWs : s.WarmedH U.vm := State.WarmedH.trans hW0 hW
  have hcl : s.vm.findClass cls = some ce.cls := by
    have h9 := hO.cls
    rw [hvm] at h9
    exact h9
  have hall : s.sameButNew ({ U with vm := s.vm } : State) locs mc ms := by
    subst hA
    obtain ⟨e1, e2⟩ := hsame
    rw [State.setFrames_setFrames] at e1
    have h2 : (T.setVm s.vm).sameButNew ({ U with vm := s.vm } : State) [] (0 + 1) (0 + 6) := ⟨e1, e2⟩
    have h3 := X.same.trans h2
    rw [List.append_nil] at h3
    exact h3.mono hc hs
  refine ⟨U, ?_, .threw T.heap.size, hrun, hend, Or.inr ⟨T.heap.size, rfl, cls, ce, locs, hx U hWs.alike f1 (fun q hq => f2 q hq (fun z hz => nomatch hz)), hce, hO.vm, hcl, hWs, hall, hf⟩⟩
  refine st1 _ ?_
  show Steps p.tables e below (T1.setTop { method := m, pc := pc + 3, locals := ls, stack := .ref T.heap.size :: rest, locked := none }) _
  jvm_step X₁.here [X₁.here.top, hexec, d3', Value.category]
  exact X₁.ldcStringW hexec (own := own) (text := text) (index := is) (a := sa) hown' hstr'.1 hstr'.2
    (g := { method := m, pc := pc + 4, locals := ls, stack := .ref T.heap.size :: .ref T.heap.size :: rest, locked := none }) rfl d4' _ hsteps
end Ends
section Bodies
variable {l : Launch}
theorem vx_ofW {y : MethodName} {ws ws' : List Cond} {rm : Room} {Pc : Array Value → State → Prop} {Qc : Array Value → State → Outcome → State → Prop} {XC : String → State → State → Prop} {mc ms : Nat} {free : Addr → Prop} {cc : ByteArray} {maxL : Nat} {ret : Option FieldType}
    (hy : plainName y.cls = true) (hw : ws = Cond.code y cc maxL ret :: ws')
    (body : ∀ p e s m args below meth c s₁, BodyLoose p l y (headSpec ws rm) cc maxL ret e s m args below meth c s₁ → c.maxLocals = maxL → (∀ x ∈ c.exceptionTable.toList, False) → Pc args s →
      W p l e (headSpec ws rm).room s m args below meth c s.heap [] 0 0 (vx_MQ below Qc XC args s mc ms free) (entryFrame m args maxL)) : vx_Met l y ws rm Pc Qc XC mc ms free := by
  refine MetFree.of_bodyS (code := cc) (maxLocals := maxL) (ret := ret) hy ?_ ?_
  · intro args s m h hn
    obtain ⟨meth, c, h1, h2, h3, h4, h5, h6, -, -⟩ := Cond.code_spec hn (atoms_spec (ws := ws) h _ (by rw [hw]; exact List.mem_cons_self))
    exact ⟨meth, c, h1, h2, h3, h4, h5, h6⟩
  · intro p e s m args below meth c s₁ B hml hP _
    have hh0 : s₁.heap = s.heap := by rw [B.state]; rfl
    have ht : ∀ x ∈ c.exceptionTable.toList, False := by
      obtain ⟨meth9, c9, h1, h2, -, -, -, -, h7, -⟩ := Cond.code_spec B.named (atoms_spec (ws := ws) B.pre _ (by rw [hw]; exact List.mem_cons_self))
      cases Option.some.inj (h1.symm.trans B.method)
      cases Option.some.inj (h2.symm.trans (Stand.of_body B).code)
      intro x hx
      rw [Array.isEmpty_iff.mp h7] at hx
      cases hx
    obtain ⟨t, a1, o, b1, b2, b3⟩ := body p e s m args below meth c s₁ B hml ht hP s₁ hh0 (Stand.of_body B)
    exact ⟨t, o, a1, b1, b2, b3⟩
/-- the table of a body with handlers -/
theorem vx_table {p : Program} {x y : MethodName} {S : Spec} {cc bytes : ByteArray} {maxL maxL' : Nat} {ret ret' : Option FieldType} {e : Env} {s s₁ : State} {m : MethodId} {args : Array Value} {below : List Frame} {meth : Method} {c : Code} {hh : List (Nat × Nat × Nat × Nat)}
    (B : BodyLoose p l y S cc maxL ret e s m args below meth c s₁) (h : (Cond.codeWith y bytes maxL' ret' hh).before args s = true) : c.exceptionTable.toList = tableOf hh := by
  obtain ⟨m9, meth9, c9, hn9, h1, h2, -, -, h6, -⟩ := Cond.codeWith_spec h
  cases Option.some.inj (hn9.symm.trans B.named)
  cases Option.some.inj (h1.symm.trans B.method)
  cases Option.some.inj (h2.symm.trans (Stand.of_body B).code)
  rw [← h6, table_eq]
end Bodies
end VXA
/-! ===== END ===== -/
/-! ===== BEGIN a static call of a method with an exception table ===== -/
section VXS
variable {p : Program} {l : Launch} {e : Env} {R : Room} {s : State} {m : MethodId} {args : Array Value} {below : List Frame} {meth : Method} {c : Code} {T : State} {H : Heap} {locs : List Loc} {cells slots : Nat}
abbrev vx_CSW (R : Room) (s : State) (args : Array Value) (own : String) (index : Nat) (y : MethodName) (bytes : ByteArray) (maxL : Nat) (ret : Option FieldType) (hh : List (Nat × Nat × Nat × Nat)) (ws : List Cond) (rm : Room) (mc ms n : Nat) : Prop :=
  (rm.cells = mc ∧ rm.slots = ms ∧ rm.frames + 1 ≤ R.frames ∧ 8 + (maxL + 11) + rm.locals ≤ R.locals ∧ (∀ w ∈ ws, ∀ (a' : Array Value) (U : State), s.WarmedH U.vm → w.before a' U = true) ∧ Cond.codeWith y bytes maxL ret hh ∈ ws) ∧
  (Cond.codeWith y bytes maxL ret hh).before args s = true ∧ (Cond.initialized y.cls).before args s = true ∧ (y.cls ≠ "java/lang/invoke/MethodHandle" ∧ y.cls ≠ "java/lang/invoke/VarHandle") ∧
  (∀ sig, parseMethodDescriptor y.desc = some sig → n = sig.parameters.length) ∧ (Cond.methodLink own index y).before args s = true ∧ (Cond.static y).before args s = true
theorem vx_cwSW {own : String} {index maxL mc ms : Nat} {y : MethodName} {bytes : ByteArray} {ret : Option FieldType} {hh : List (Nat × Nat × Nat × Nat)} {Ts ws ws' : List Cond} {rm : Room} (n : Nat) (ht : ∀ w ∈ Ts, w.before args s = true) (hT : GoodIn Ts (va_wsS own index y ws)) (hw : ws = Cond.codeWith y bytes maxL ret hh :: ws') (hrc : rm.cells = mc) (hrs : rm.slots = ms)
    (hd : y.cls ≠ "java/lang/invoke/MethodHandle" ∧ y.cls ≠ "java/lang/invoke/VarHandle" ∧ (parseMethodDescriptor y.desc).map (fun d => d.parameters.length) = some n) (hR : rm.frames + 1 ≤ R.frames ∧ 8 + (maxL + 11) + rm.locals ≤ R.locals) :
    vx_CSW R s args own index y bytes maxL ret hh ws rm mc ms n := by
  have ok : ∀ w ∈ va_wsS own index y ws, w.before args s = true := fun w h => ht w (hT w h).1
  have hG : GoodIn Ts ws := fun w h => hT w (by unfold va_wsS; exact List.mem_append_right _ h)
  have hc : Cond.codeWith y bytes maxL ret hh ∈ ws := by rw [hw]; exact List.mem_cons_self
  refine ⟨⟨hrc, hrs, hR.1, hR.2, pay_in ht hG, hc⟩, ht _ (hG _ hc).1, ok _ (by simp [va_wsS]), ⟨hd.1, hd.2.1⟩, fun sig h => ?_, ok _ (by simp [va_wsS]), ok _ (by simp [va_wsS])⟩
  have h2 := hd.2.2
  rw [h] at h2
  exact (Option.some.inj h2).symm
theorem vx_callSW (X : Stand p l e R s m args below meth c T locs cells slots) (hexec : p.tables.exec = Jvm.exec) {own : String} {index : Nat} {y : MethodName} {bytes : ByteArray} {maxL : Nat} {ret : Option FieldType} {hh : List (Nat × Nat × Nat × Nat)}
    (hown : s.vm.findClass own = some m.cls) (hlink : (Cond.methodLink own index y).before args s = true) (hstat : (Cond.static y).before args s = true) (hinit : (Cond.initialized y.cls).before args s = true)
    (hcode : (Cond.codeWith y bytes maxL ret hh).before args s = true) (hy : y.cls ≠ "java/lang/invoke/MethodHandle" ∧ y.cls ≠ "java/lang/invoke/VarHandle")
    {W9 : Nat} {Pre : Pt → Array Value → Prop} {Post : Pt → Array Value → Option Value → Pt → Prop} (hK : Back l R p e below s args y 3 W9 Pre Post)
    {g : JFrame} (hg : g.method = m) (hsize : g.locals.size = c.maxLocals) {argsL rest : List Value} (hlen : ∀ sig, parseMethodDescriptor y.desc = some sig → argsL.length = sig.parameters.length)
    (hstack : g.stack = argsL.reverse ++ rest) (hW : 2 * g.monitorRoom + (rest.map fun v => v.category).sum ≤ W9) (hdg : decode c.code g.pc = .ok (.invokestatic index, 3))
    (hpre : ∀ vm₁, s.WarmedH vm₁ → Pre ⟨T.setVm vm₁, locs, cells, slots⟩ argsL.toArray) :
    ∃ (v : Option Value) (vm₁ : Vm) (B : Pt), s.WarmedH vm₁ ∧ Stand p l e R s m args below meth c B.U B.locs B.cells B.slots ∧ Post ⟨T.setVm vm₁, locs, cells, slots⟩ argsL.toArray v B ∧
      ∀ target, Steps p.tables e below (B.U.setTop { g with pc := g.pc + 3, stack := v.toList ++ rest }) target → Steps p.tables e below (T.setTop g) target := by
  obtain ⟨mk, methM, cM, hnamed, hmethM, -, -, -, -, -, -, hsigM⟩ := Cond.codeWith_spec hcode
  have hstatic : methM.isStatic = true := Cond.static_spec hnamed hmethM hstat
  obtain ⟨kP, hkP, -⟩ := className_of_methodNamed hnamed
  have hinitP : kP.init = .initialized := Cond.initialized_spec (findClass_of_methodNamed hnamed) hkP hinit
  obtain ⟨vm₁, X₁, hstep₁⟩ := X.invokestatic hexec hown hlink hnamed hmethM hstatic hkP hinitP hy (g := g) hg (argsL := argsL) (rest := rest) (hlen _ hsigM) hstack hdg
  obtain ⟨v, B, X', hpost, hsteps⟩ := hK m meth c ⟨T.setVm vm₁, locs, cells, slots⟩ { g with stack := rest } (.invokestatic index) mk argsL.toArray X₁ hg hsize hdg hW (X₁.named hnamed) (hpre vm₁ X₁.warmed)
  exact ⟨v, vm₁, B, X₁.warmed, X', hpost, fun target h => hstep₁ _ fun acts => by rw [doInvoke_state]; exact hsteps.trans h⟩
theorem vx_runSW {y : MethodName} {bytes cc : ByteArray} {maxL nL mc ms n index : Nat} {ret : Option FieldType} {hh : List (Nat × Nat × Nat × Nat)} {ws : List Cond} {rm : Room} {Pc : Array Value → State → Prop} {Qc : Array Value → State → Outcome → State → Prop} {free : Addr → Prop} {Ts : List Cond} {own : String} {As rest : List Value} {g : JFrame}
    (S : CallFix p m c cc nL s args Ts own) (hM : Met l y ws rm Pc Qc mc ms free) (cw : vx_CSW R s args own index y bytes maxL ret hh ws rm mc ms n) (hp : PreS s H Pc As)
    (hg : g.method = m) (hn : As.length = n) (hsize : g.locals.size = nL) (hstack : g.stack = As.reverse ++ rest) (hW : 2 * g.monitorRoom + (rest.map fun v => v.category).sum ≤ 8) (hdg : decode cc g.pc = .ok (.invokestatic index, 3)) (hf : cells + mc ≤ R.cells ∧ slots + ms ≤ R.slots) :
    va_Run p l e R s m args below meth c H locs cells slots mc ms g rest (Qc As.toArray) (free) := by
  obtain ⟨⟨hrc, hrs, hfr, hlo, hws, hcw⟩, hcode, hini, hy, hlen, hl, hstt⟩ := cw
  have hK : Back l R p e below s args y 3 8 (PreOf R mc ms Pc) (PostOf Qc mc ms free) := va_backW (hh := hh) (bytes := bytes) (maxL := maxL) (ret := ret) hM hp.1 hrc hrs hfr hlo hws hcw (fun a' U hW => word_at hW (Or.inl (by first | rfl | simp [Cond.onTables, Cond.keeps, Cond.steady])) hini)
  obtain ⟨hx, hb, hml, ho, -⟩ := S
  intro T hT X
  obtain ⟨v, vm₁, ⟨U', l2, c2, s2⟩, hW₁, X', ⟨g', mk, t, L, e1, e2, hq, h1, hL, h2, h3⟩, st⟩ := vx_callSW X hx (hh := hh) (bytes := bytes) (maxL := maxL) (ret := ret) ho hl hstt hini hcode hy hK hg (hsize.trans hml.symm) (argsL := As) (rest := rest) (fun sig h => hn.trans (hlen sig h)) hstack hW (by rw [hb]; exact hdg)
    (fun vm₁ hW₁ => ⟨hf.1, hf.2, hp.2 (T.setVm vm₁) hT hW₁⟩)
  dsimp only [Pt.U, Pt.locs, Pt.cells, Pt.slots] at X' e1 e2 h1 h2 h3 st
  subst h1; subst h2; subst h3
  exact ⟨v, (T.setVm vm₁).calling g' mk As.toArray, t, U', L, hT, X', hL, e1, e2, hq, st⟩
/-- not caught here, past rows that name other classes: it goes on to the caller -/
theorem vx_outP {p : Program} {l : Launch} {e : Env} {R : Room} {s : State} {m : MethodId} {args : Array Value} {below : List Frame} {meth : Method} {c : Code} {H : Heap} {locs : List Loc} {cells slots : Nat} {free : Addr → Prop} {ls : Array Slot} {rest : List Value} {Qc : Array Value → State → Outcome → State → Prop} {XC : String → State → State → Prop}
    {pc : Nat} {own E : String} {ce : Cell} {q : Addr} {mc ms : Nat} (hown : s.vm.findClass own = some m.cls) (hlocks : meth.locks = false)
    (hpass : ∀ z ∈ c.exceptionTable.toList, covers z pc = false ∨ (z.catchType ≠ 0 ∧ ∃ nm : String, (Cond.classLink own z.catchType nm).before args s = true ∧ va_Nc E nm s)) (hcell : H[q]? = some ce) (hv : ce.vm = .none) (hcl : s.vm.findClass E = some ce.cls)
    (hx : ∀ t : State, t.heap = H → s.vm.Alike t.vm → XC E s t) (hf : ∀ z ∈ locs, free z.base) (hc : cells ≤ mc) (hs : slots ≤ ms) :
    vx_W p l e R s m args below meth c H locs cells slots (vx_MQ below Qc XC args s mc ms free) (F0 m pc ls rest) q := by
  intro T hT X
  have hpl : e.platform.magicAccessors = ({} : Platform).magicAccessors := by rw [X.admits.platform]
  obtain ⟨vm', hW', X', st⟩ := X.outThrough hlocks q (g := F0 m pc ls rest) rfl rfl rfl (cell := ce) (by rw [hT]; exact hcell) (by rw [hv]; rfl)
    (by obtain ⟨k9, h9, -⟩ := Vm.findClass_spec hcl; exact ⟨k9, h9⟩) (fun z hz => by
      rcases hpass z hz with h | ⟨hz0, nm, hl1, hn1⟩
      · exact Or.inl h
      · obtain ⟨c6, hc6, hcl6⟩ := Cond.classLink_spec hown hl1 e.platform hpl
        obtain ⟨a8, b8, h1, h2, h3⟩ := hn1
        cases Option.some.inj (h1.symm.trans hcl)
        cases Option.some.inj (h2.symm.trans hc6)
        exact Or.inr ⟨hz0, _, hcl6, h3⟩)
  obtain ⟨g₀, hfr⟩ := X'.frames_eq
  have hcell9 : ((T.setVm vm').setFrames (.throwing q :: below)).heap[q]? = some ce := by
    show T.heap[q]? = some ce
    rw [hT]; exact hcell
  have hend : Ended ((T.setVm vm').setFrames (.throwing q :: below)) below (.threw q) := State.frames_setFrames _ (State.cur_lt_of_frames hfr)
  refine ⟨(T.setVm vm').setFrames (.throwing q :: below), ?_, .threw q, X'.here.running, hend, Or.inr ⟨q, rfl, E, ce, locs, hx _ hT (X'.ends _).1.alike, hcell9, hv, hcl, (X'.ends _).1, (X'.ends _).2.mono hc hs, hf⟩⟩
  rw [X.pushThrowing_eq]
  exact st
/-- a thing of a world lies in the heap -/
theorem vx_lt {D : va_G} {cl : List vw_C} {ws : va_W} {H1 : Heap} (h : va_P D cl ws H1) {k : Nat} {q : Nat × va_E} (hk : ws[k]? = some q) : q.1 < H1.size := (h k q hk).lt
end VXS
/-! ===== END ===== -/
/-! ===== BEGIN methods with a table of their own: called by a name, returning or throwing ===== -/
section VXH
/-! vx_backW, vx_callVX, vx_callSX, vx_callVW, vx_runVW, vx_runVX, vx_runSX, vx_ofWH follow the same proofs as their sisters above (Free/Laws.lean, Shelf42/LK1.lean); vx_outP calls Shelf42/NT130.lean (outThrough). -/
section
variable {l : Launch} {R : Room} {p : Program} {e : Env} {below : List Frame} {s : State} {sargs : Array Value} {y : MethodName} {len W9 : Nat}
theorem vx_backW {ws : List Cond} {rm : Room} {Pc : Array Value → State → Prop} {Qc : Array Value → State → Outcome → State → Prop} {XC : String → State → State → Prop} {mc ms : Nat} {free : Addr → Prop} {bytes : ByteArray} {maxL : Nat} {ret : Option FieldType} {hh : List (Nat × Nat × Nat × Nat)}
    (hM : vx_Met l y ws rm Pc Qc XC mc ms free) (hblind : FrameBlind Pc) (hrc : rm.cells = mc) (hrs : rm.slots = ms)
    (hframes : rm.frames + 1 ≤ R.frames) (hlocals : W9 + (maxL + 11) + rm.locals ≤ R.locals)
    (hws : ∀ w ∈ ws, ∀ a' U, s.WarmedH U.vm → w.before a' U = true) (hcode : Cond.codeWith y bytes maxL ret hh ∈ ws) (hinit : ∀ a' U, s.WarmedH U.vm → (Cond.initialized y.cls).before a' U = true) :
    vx_Back l R p e below s sargs y len W9 (PreOf R mc ms Pc) (PostOf Qc mc ms free) (vx_Post XC mc ms free) := by
  intro m meth c A g ig mk a X hg hsize hdg hW hn hp
  have h1 : (headSpec ws rm).pre.before a A.U = true := atoms_intro fun w hw => hws w hw _ _ X.warmed
  have h2 : (Cond.codeWith y bytes maxL ret hh).before a A.U = true := hws _ hcode _ _ X.warmed
  have h3 : (Cond.initialized y.cls).before a A.U = true := hinit _ _ X.warmed
  have h4 : A.cells + (headSpec ws rm).room.cells ≤ R.cells := by rw [show (headSpec ws rm).room.cells = mc from hrc]; exact hp.1
  have h5 : A.slots + (headSpec ws rm).room.slots ≤ R.slots := by rw [show (headSpec ws rm).room.slots = ms from hrs]; exact hp.2.1
  have hPc : Pc a (A.U.calling g mk a) := hblind _ _ _ _ hp.2.2
  obtain ⟨U, Ls, c0, s0⟩ := A
  dsimp only [Pt.U, Pt.locs, Pt.cells, Pt.slots] at h1 h2 h3 h4 h5 X hn hPc ⊢
  obtain ⟨m9, methY, cY, hn9, hmY, hcY, -, hlY, -⟩ := Cond.codeWith_spec h2
  cases Option.some.inj (hn9.symm.trans hn)
  obtain ⟨kY, hkY, -⟩ := className_of_methodNamed hn
  have hinitY : kY.init = .initialized := Cond.initialized_spec (findClass_of_methodNamed hn) hkY h3
  have h : At U g.method c below := by rw [hg]; exact X.here
  have hlocals9 : W9 + (maxL + 11) + (headSpec ws rm).room.locals ≤ R.locals := hlocals
  have happ : (headSpec ws rm).appliesLoose y e.platform (U.calling g mk a) = true :=
    Spec.appliesLoose_calling (g := g) h hdg hn hkY hinitY
      (X.room_calling (g := g) (R' := (headSpec ws rm).room) hsize hmY hcY hframes (by rw [hlY]; omega) h4 h5) h1
  obtain ⟨mid, hmid⟩ := h.above
  have hfr : (U.setTop g).frames = (.java g :: mid) ++ below := by rw [State.frames_setTop' g h.top, hmid]; rfl
  obtain ⟨o, s₂, hsteps, -, hend, hq⟩ := Steps.callFree hM p X.admits X.cas X.clock (acts := []) hfr happ hPc trivial
  have hq' : vx_Q Qc XC mc ms free a (U.calling g mk a) o s₂ := hq
  rw [State.frames_setTop' g h.top] at hend
  obtain ⟨g₀, hg0⟩ := Option.isSome_iff_exists.mp h.top
  obtain ⟨r, hr⟩ := State.topJava?_eq_some.mp hg0
  have hr' : (({ U with heap := s₂.heap, slotsUsed := s₂.slotsUsed } : State).setVm s₂.vm).frames = .java g₀ :: r := hr
  rcases hq' with ⟨hqc, L, hfe, hL⟩ | ⟨q, rfl, E, ce, L, hx, hce, hcv, hcl, hW₂, hsm, hL⟩
  · obtain ⟨⟨v, rfl⟩, hW₂, e2, q2, q3, q4, q5, q6⟩ := id hfe
    have e3 : s₂ = ({ (U.calling g mk a).setFrames s₂.frames with heap := s₂.heap, slotsUsed := s₂.slotsUsed } : State).setVm s₂.vm := by
      have : s₂ = ({ s₂ with vm := (U.calling g mk a).vm } : State).setVm s₂.vm := rfl
      rw [e2] at this
      exact this
    obtain ⟨c₂, i₂, len₂, hc₂, hd₂, hf₂⟩ := hend
    have hW' : U.WarmedH s₂.vm := hW₂
    have hcc : c₂ = c := by
      have h1 : s₂.code? g.method = U.code? g.method := by
        rw [State.code?_eq, State.code?_eq, hW'.alike.method?]
      exact Option.some.inj (hc₂.symm.trans (h1.trans h.code))
    subst hcc
    have hlen : len₂ = len := by rw [hdg] at hd₂; cases hd₂; rfl
    subst hlen
    have hs₂ : s₂ = (({ U with heap := s₂.heap, slotsUsed := s₂.slotsUsed } : State).setVm s₂.vm).setTop { g with pc := g.pc + len₂, stack := v.toList ++ g.stack } := by
      refine e3.trans ?_
      rw [hf₂, State.calling_eq h.top, State.setFrames_setFrames, State.setTop_of_frames _ hr', hr]
      rfl
    have hsame : U.sameButNew ({ U with heap := s₂.heap, slotsUsed := s₂.slotsUsed } : State) L mc ms := by
      refine ⟨?_, q2, q3, q4, q5, q6⟩
      obtain ⟨t, ht, -⟩ := State.frames_cons hr
      show ({ U with heap := s₂.heap, slotsUsed := s₂.slotsUsed } : State) = { U.setFrames U.frames with heap := s₂.heap, slotsUsed := s₂.slotsUsed }
      rw [State.setFrames_self ht]
    subst hg
    refine Or.inl ⟨v, ⟨(({ U with heap := s₂.heap, slotsUsed := s₂.slotsUsed } : State).setVm s₂.vm), Ls ++ L, c0 + mc, s0 + ms⟩,
      ⟨X.admits, X.cas, X.clock, X.frames, X.room, X.hears, X.method, X.code, (X.here.setHeapUsed s₂.heap s₂.slotsUsed).setVm hW'.alike, X.tail, State.WarmedH.trans X.warmed hW', X.limits, X.bytes, X.same.trans (hsame.setVm s.vm)⟩,
      ⟨g, mk, s₂, L, rfl, rfl, hqc, rfl, hL, rfl, rfl⟩, ?_⟩
    show Steps p.tables e below _ ((({ U with heap := s₂.heap, slotsUsed := s₂.slotsUsed } : State).setVm s₂.vm).setTop { g with pc := g.pc + len₂, stack := v.toList ++ g.stack })
    rw [← hs₂]
    exact hsteps
  · obtain ⟨e2, q2, q3, q4, q5, q6⟩ := id hsm
    have e3 : s₂ = ({ (U.calling g mk a).setFrames s₂.frames with heap := s₂.heap, slotsUsed := s₂.slotsUsed } : State).setVm s₂.vm := by
      have : s₂ = ({ s₂ with vm := (U.calling g mk a).vm } : State).setVm s₂.vm := rfl
      rw [e2] at this
      exact this
    have hf₂ : s₂.frames = .throwing q :: .java g :: U.frames.tail := hend
    have hW' : U.WarmedH s₂.vm := hW₂
    have hs₂ : s₂ = ((({ U with heap := s₂.heap, slotsUsed := s₂.slotsUsed } : State).setVm s₂.vm).setTop g).pushFrame (.throwing q) := by
      refine e3.trans ?_
      rw [hf₂, State.calling_eq h.top, State.setFrames_setFrames, State.pushFrame, State.frames_setTop _ hr', State.setTop_of_frames _ hr', State.setFrames_setFrames, hr]
      rfl
    have hsame : U.sameButNew ({ U with heap := s₂.heap, slotsUsed := s₂.slotsUsed } : State) L mc ms := by
      refine ⟨?_, q2, q3, q4, q5, q6⟩
      obtain ⟨t, ht, -⟩ := State.frames_cons hr
      show ({ U with heap := s₂.heap, slotsUsed := s₂.slotsUsed } : State) = { U.setFrames U.frames with heap := s₂.heap, slotsUsed := s₂.slotsUsed }
      rw [State.setFrames_self ht]
    subst hg
    refine Or.inr ⟨q, ⟨(({ U with heap := s₂.heap, slotsUsed := s₂.slotsUsed } : State).setVm s₂.vm), Ls ++ L, c0 + mc, s0 + ms⟩,
      ⟨X.admits, X.cas, X.clock, X.frames, X.room, X.hears, X.method, X.code, (X.here.setHeapUsed s₂.heap s₂.slotsUsed).setVm hW'.alike, X.tail, State.WarmedH.trans X.warmed hW', X.limits, X.bytes, X.same.trans (hsame.setVm s.vm)⟩,
      ⟨g, mk, s₂, L, E, ce, rfl, rfl, hx, hce, hcv, hcl, rfl, hL, rfl, rfl⟩, ?_⟩
    show Steps p.tables e below _ (((({ U with heap := s₂.heap, slotsUsed := s₂.slotsUsed } : State).setVm s₂.vm).setTop g).pushFrame (.throwing q))
    rw [← hs₂]
    exact hsteps
end
variable {p : Program} {l : Launch} {e : Env} {R : Room} {s : State} {m : MethodId} {args : Array Value} {below : List Frame} {meth : Method} {c : Code} {T : State} {H : Heap} {locs : List Loc} {cells slots : Nat}
theorem vx_callVX (X : Stand p l e R s m args below meth c T locs cells slots) (hexec : p.tables.exec = Jvm.exec) {own C : String} {index : Nat} {y : MethodName} {bytes : ByteArray} {maxL : Nat} {ret : Option FieldType} {hh : List (Nat × Nat × Nat × Nat)}
    (hown : s.vm.findClass own = some m.cls) (hlink : (Cond.methodLink own index y).before args s = true) (hinst : (Cond.instanceMethod y).before args s = true) (hsel : (Cond.selects C y y).before args s = true)
    (hcode : (Cond.codeWith y bytes maxL ret hh).before args s = true) (hy : y.cls ≠ "java/lang/invoke/MethodHandle" ∧ y.cls ≠ "java/lang/invoke/VarHandle")
    {W9 : Nat} {Pre : Pt → Array Value → Prop} {Post : Pt → Array Value → Option Value → Pt → Prop} {PostX : Pt → Array Value → Addr → Pt → Prop} (hK : vx_Back l R p e below s args y 3 W9 Pre Post PostX)
    {b : Addr} {cellB : Cell} (hcell : T.heap[b]? = some cellB) (hobj : cellB.vm.isStatics = false) (hcls : s.vm.findClass C = some cellB.cls)
    {g : JFrame} (hg : g.method = m) (hsize : g.locals.size = c.maxLocals) {argsL rest : List Value} (hlen : ∀ sig, parseMethodDescriptor y.desc = some sig → argsL.length = sig.parameters.length)
    (hstack : g.stack = argsL.reverse ++ .ref b :: rest) (hW : 2 * g.monitorRoom + (rest.map fun v => v.category).sum ≤ W9) (hdg : decode c.code g.pc = .ok (.invokevirtual index, 3))
    (hpre : ∀ vm₁, s.WarmedH vm₁ → Pre ⟨T.setVm vm₁, locs, cells, slots⟩ (Value.ref b :: argsL).toArray) :
    (∃ (v : Option Value) (vm₁ : Vm) (B : Pt), s.WarmedH vm₁ ∧ Stand p l e R s m args below meth c B.U B.locs B.cells B.slots ∧ Post ⟨T.setVm vm₁, locs, cells, slots⟩ (Value.ref b :: argsL).toArray v B ∧
      ∀ target, Steps p.tables e below (B.U.setTop { g with pc := g.pc + 3, stack := v.toList ++ rest }) target → Steps p.tables e below (T.setTop g) target) ∨
    (∃ (q : Addr) (vm₁ : Vm) (B : Pt), s.WarmedH vm₁ ∧ Stand p l e R s m args below meth c B.U B.locs B.cells B.slots ∧ PostX ⟨T.setVm vm₁, locs, cells, slots⟩ (Value.ref b :: argsL).toArray q B ∧
      Steps p.tables e below (T.setTop g) ((B.U.setTop { g with stack := rest }).pushFrame (.throwing q))) := by
  obtain ⟨mk, methM, hnamed, hmethM, hstM, habM⟩ := Cond.instanceMethod_spec hinst
  obtain ⟨m8, methM', cM, hn8, hmethM', -, -, -, -, -, -, hsigM⟩ := Cond.codeWith_spec hcode
  cases Option.some.inj (hn8.symm.trans hnamed)
  cases hmethM.symm.trans hmethM'
  obtain ⟨c2, r2, m2, q1, q2, q3, q4, kP, hkP, hkPi⟩ := Cond.selects_spec hsel
  cases hcls.symm.trans q1
  cases (State.methodFound?_of_named hnamed hy).symm.trans q2
  cases hnamed.symm.trans q3
  have hselP : selectMethod e.platform s.vm cellB.cls mk = .method mk := by rw [Launch.admits_selectMethod X.admits]; exact q4
  obtain ⟨vm₁, X₁, hstep₁⟩ := X.invokevirtual hexec hown hlink hnamed hmethM hstM hkP hkPi hy (a := b) (cell := cellB) hcell
    (fun z h => by rw [h] at hobj; cases hobj) hselP hmethM habM hkP hkPi (g := g) hg (argsL := argsL) (rest := rest) (hlen _ hsigM) hstack hdg
  rcases hK m meth c ⟨T.setVm vm₁, locs, cells, slots⟩ { g with stack := rest } (.invokevirtual index) mk (Value.ref b :: argsL).toArray X₁ hg hsize hdg hW (X₁.named hnamed) (hpre vm₁ X₁.warmed) with ⟨v, B, X', hpost, hsteps⟩ | ⟨q, B, X', hpost, hsteps⟩
  · exact Or.inl ⟨v, vm₁, B, X₁.warmed, X', hpost, fun target h => hstep₁ _ fun acts => by rw [doInvoke_state]; exact hsteps.trans h⟩
  · exact Or.inr ⟨q, vm₁, B, X₁.warmed, X', hpost, hstep₁ _ fun acts => by rw [doInvoke_state]; exact hsteps⟩
theorem vx_callSX (X : Stand p l e R s m args below meth c T locs cells slots) (hexec : p.tables.exec = Jvm.exec) {own : String} {index : Nat} {y : MethodName} {bytes : ByteArray} {maxL : Nat} {ret : Option FieldType} {hh : List (Nat × Nat × Nat × Nat)}
    (hown : s.vm.findClass own = some m.cls) (hlink : (Cond.methodLink own index y).before args s = true) (hstat : (Cond.static y).before args s = true) (hinit : (Cond.initialized y.cls).before args s = true)
    (hcode : (Cond.codeWith y bytes maxL ret hh).before args s = true) (hy : y.cls ≠ "java/lang/invoke/MethodHandle" ∧ y.cls ≠ "java/lang/invoke/VarHandle")
    {W9 : Nat} {Pre : Pt → Array Value → Prop} {Post : Pt → Array Value → Option Value → Pt → Prop} {PostX : Pt → Array Value → Addr → Pt → Prop} (hK : vx_Back l R p e below s args y 3 W9 Pre Post PostX)
    {g : JFrame} (hg : g.method = m) (hsize : g.locals.size = c.maxLocals) {argsL rest : List Value} (hlen : ∀ sig, parseMethodDescriptor y.desc = some sig → argsL.length = sig.parameters.length)
    (hstack : g.stack = argsL.reverse ++ rest) (hW : 2 * g.monitorRoom + (rest.map fun v => v.category).sum ≤ W9) (hdg : decode c.code g.pc = .ok (.invokestatic index, 3))
    (hpre : ∀ vm₁, s.WarmedH vm₁ → Pre ⟨T.setVm vm₁, locs, cells, slots⟩ argsL.toArray) :
    (∃ (v : Option Value) (vm₁ : Vm) (B : Pt), s.WarmedH vm₁ ∧ Stand p l e R s m args below meth c B.U B.locs B.cells B.slots ∧ Post ⟨T.setVm vm₁, locs, cells, slots⟩ argsL.toArray v B ∧
      ∀ target, Steps p.tables e below (B.U.setTop { g with pc := g.pc + 3, stack := v.toList ++ rest }) target → Steps p.tables e below (T.setTop g) target) ∨
    (∃ (q : Addr) (vm₁ : Vm) (B : Pt), s.WarmedH vm₁ ∧ Stand p l e R s m args below meth c B.U B.locs B.cells B.slots ∧ PostX ⟨T.setVm vm₁, locs, cells, slots⟩ argsL.toArray q B ∧
      Steps p.tables e below (T.setTop g) ((B.U.setTop { g with stack := rest }).pushFrame (.throwing q))) := by
  obtain ⟨mk, methM, cM, hnamed, hmethM, -, -, -, -, -, -, hsigM⟩ := Cond.codeWith_spec hcode
  have hstatic : methM.isStatic = true := Cond.static_spec hnamed hmethM hstat
  obtain ⟨kP, hkP, -⟩ := className_of_methodNamed hnamed
  have hinitP : kP.init = .initialized := Cond.initialized_spec (findClass_of_methodNamed hnamed) hkP hinit
  obtain ⟨vm₁, X₁, hstep₁⟩ := X.invokestatic hexec hown hlink hnamed hmethM hstatic hkP hinitP hy (g := g) hg (argsL := argsL) (rest := rest) (hlen _ hsigM) hstack hdg
  rcases hK m meth c ⟨T.setVm vm₁, locs, cells, slots⟩ { g with stack := rest } (.invokestatic index) mk argsL.toArray X₁ hg hsize hdg hW (X₁.named hnamed) (hpre vm₁ X₁.warmed) with ⟨v, B, X', hpost, hsteps⟩ | ⟨q, B, X', hpost, hsteps⟩
  · exact Or.inl ⟨v, vm₁, B, X₁.warmed, X', hpost, fun target h => hstep₁ _ fun acts => by rw [doInvoke_state]; exact hsteps.trans h⟩
  · exact Or.inr ⟨q, vm₁, B, X₁.warmed, X', hpost, hstep₁ _ fun acts => by rw [doInvoke_state]; exact hsteps⟩
theorem vx_callVW (X : Stand p l e R s m args below meth c T locs cells slots) (hexec : p.tables.exec = Jvm.exec) {own C : String} {index : Nat} {y : MethodName} {bytes : ByteArray} {maxL : Nat} {ret : Option FieldType} {hh : List (Nat × Nat × Nat × Nat)}
    (hown : s.vm.findClass own = some m.cls) (hlink : (Cond.methodLink own index y).before args s = true) (hinst : (Cond.instanceMethod y).before args s = true) (hsel : (Cond.selects C y y).before args s = true)
    (hcode : (Cond.codeWith y bytes maxL ret hh).before args s = true) (hy : y.cls ≠ "java/lang/invoke/MethodHandle" ∧ y.cls ≠ "java/lang/invoke/VarHandle")
    {W9 : Nat} {Pre : Pt → Array Value → Prop} {Post : Pt → Array Value → Option Value → Pt → Prop} (hK : Back l R p e below s args y 3 W9 Pre Post)
    {b : Addr} {cellB : Cell} (hcell : T.heap[b]? = some cellB) (hobj : cellB.vm.isStatics = false) (hcls : s.vm.findClass C = some cellB.cls)
    {g : JFrame} (hg : g.method = m) (hsize : g.locals.size = c.maxLocals) {argsL rest : List Value} (hlen : ∀ sig, parseMethodDescriptor y.desc = some sig → argsL.length = sig.parameters.length)
    (hstack : g.stack = argsL.reverse ++ .ref b :: rest) (hW : 2 * g.monitorRoom + (rest.map fun v => v.category).sum ≤ W9) (hdg : decode c.code g.pc = .ok (.invokevirtual index, 3))
    (hpre : ∀ vm₁, s.WarmedH vm₁ → Pre ⟨T.setVm vm₁, locs, cells, slots⟩ (Value.ref b :: argsL).toArray) :
    ∃ (v : Option Value) (vm₁ : Vm) (B : Pt), s.WarmedH vm₁ ∧ Stand p l e R s m args below meth c B.U B.locs B.cells B.slots ∧ Post ⟨T.setVm vm₁, locs, cells, slots⟩ (Value.ref b :: argsL).toArray v B ∧
      ∀ target, Steps p.tables e below (B.U.setTop { g with pc := g.pc + 3, stack := v.toList ++ rest }) target → Steps p.tables e below (T.setTop g) target := by
  obtain ⟨mk, methM, hnamed, hmethM, hstM, habM⟩ := Cond.instanceMethod_spec hinst
  obtain ⟨m8, methM', cM, hn8, hmethM', -, -, -, -, -, -, hsigM⟩ := Cond.codeWith_spec hcode
  cases Option.some.inj (hn8.symm.trans hnamed)
  cases hmethM.symm.trans hmethM'
  obtain ⟨c2, r2, m2, q1, q2, q3, q4, kP, hkP, hkPi⟩ := Cond.selects_spec hsel
  cases hcls.symm.trans q1
  cases (State.methodFound?_of_named hnamed hy).symm.trans q2
  cases hnamed.symm.trans q3
  have hselP : selectMethod e.platform s.vm cellB.cls mk = .method mk := by rw [Launch.admits_selectMethod X.admits]; exact q4
  obtain ⟨vm₁, X₁, hstep₁⟩ := X.invokevirtual hexec hown hlink hnamed hmethM hstM hkP hkPi hy (a := b) (cell := cellB) hcell
    (fun z h => by rw [h] at hobj; cases hobj) hselP hmethM habM hkP hkPi (g := g) hg (argsL := argsL) (rest := rest) (hlen _ hsigM) hstack hdg
  obtain ⟨v, B, X', hpost, hsteps⟩ := hK m meth c ⟨T.setVm vm₁, locs, cells, slots⟩ { g with stack := rest } (.invokevirtual index) mk (Value.ref b :: argsL).toArray X₁ hg hsize hdg hW (X₁.named hnamed) (hpre vm₁ X₁.warmed)
  exact ⟨v, vm₁, B, X₁.warmed, X', hpost, fun target h => hstep₁ _ fun acts => by rw [doInvoke_state]; exact hsteps.trans h⟩
abbrev vx_CVW (R : Room) (s : State) (args : Array Value) (own C : String) (index : Nat) (y : MethodName) (bytes : ByteArray) (maxL : Nat) (ret : Option FieldType) (hh : List (Nat × Nat × Nat × Nat)) (ws : List Cond) (rm : Room) (mc ms n : Nat) : Prop :=
  (rm.cells = mc ∧ rm.slots = ms ∧ rm.frames + 1 ≤ R.frames ∧ 8 + (maxL + 11) + rm.locals ≤ R.locals ∧ (∀ w ∈ ws, ∀ (a' : Array Value) (U : State), s.WarmedH U.vm → w.before a' U = true) ∧ Cond.codeWith y bytes maxL ret hh ∈ ws) ∧
  (Cond.codeWith y bytes maxL ret hh).before args s = true ∧ (Cond.initialized y.cls).before args s = true ∧ (y.cls ≠ "java/lang/invoke/MethodHandle" ∧ y.cls ≠ "java/lang/invoke/VarHandle") ∧
  (∀ sig, parseMethodDescriptor y.desc = some sig → n = sig.parameters.length) ∧ (Cond.methodLink own index y).before args s = true ∧ (Cond.instanceMethod y).before args s = true ∧ (Cond.selects C y y).before args s = true
theorem vx_cwVW {own C : String} {index maxL mc ms : Nat} {y : MethodName} {bytes : ByteArray} {ret : Option FieldType} {hh : List (Nat × Nat × Nat × Nat)} {Ts ws ws' : List Cond} {rm : Room} (n : Nat) (ht : ∀ w ∈ Ts, w.before args s = true) (hT : GoodIn Ts (wsV own index C y ws)) (hw : ws = Cond.codeWith y bytes maxL ret hh :: ws') (hrc : rm.cells = mc) (hrs : rm.slots = ms)
    (hd : y.cls = C ∧ y.cls ≠ "java/lang/invoke/MethodHandle" ∧ y.cls ≠ "java/lang/invoke/VarHandle" ∧ (parseMethodDescriptor y.desc).map (fun d => d.parameters.length) = some n) (hR : rm.frames + 1 ≤ R.frames ∧ 8 + (maxL + 11) + rm.locals ≤ R.locals) :
    vx_CVW R s args own C index y bytes maxL ret hh ws rm mc ms n := by
  obtain ⟨hC, hd⟩ := hd
  subst hC
  have ok : ∀ w ∈ wsV own index y.cls y ws, w.before args s = true := fun w h => ht w (hT w h).1
  have hG : GoodIn Ts ws := fun w h => hT w (by unfold wsV; exact List.mem_append_right _ h)
  have hc : Cond.codeWith y bytes maxL ret hh ∈ ws := by rw [hw]; exact List.mem_cons_self
  refine ⟨⟨hrc, hrs, hR.1, hR.2, pay_in ht hG, hc⟩, ht _ (hG _ hc).1, ok _ (by simp [wsV]), ⟨hd.1, hd.2.1⟩, fun sig h => ?_, ok _ (by simp [wsV]), ok _ (by simp [wsV]), ok _ (by simp [wsV])⟩
  have h2 := hd.2.2
  rw [h] at h2
  exact (Option.some.inj h2).symm
theorem vx_runVW {y : MethodName} {bytes cc : ByteArray} {maxL nL mc ms n index : Nat} {ret : Option FieldType} {hh : List (Nat × Nat × Nat × Nat)} {ws : List Cond} {rm : Room} {Pc : Array Value → State → Prop} {Qc : Array Value → State → Outcome → State → Prop} {free : Addr → Prop} {Ts : List Cond} {own C : String} {b : Addr} {As rest : List Value} {g : JFrame}
    (S : CallFix p m c cc nL s args Ts own) (hM : Met l y ws rm Pc Qc mc ms free) (cw : vx_CVW R s args own C index y bytes maxL ret hh ws rm mc ms n) (hp : PreV s H C b Pc As)
    (hg : g.method = m) (hn : As.length = n) (hsize : g.locals.size = nL) (hstack : g.stack = As.reverse ++ .ref b :: rest) (hW : 2 * g.monitorRoom + (rest.map fun v => v.category).sum ≤ 8) (hdg : decode cc g.pc = .ok (.invokevirtual index, 3)) (hf : cells + mc ≤ R.cells ∧ slots + ms ≤ R.slots) :
    va_Run p l e R s m args below meth c H locs cells slots mc ms g rest (Qc (Value.ref b :: As).toArray) free := by
  obtain ⟨⟨hrc, hrs, hfr, hlo, hws, hcw⟩, hcode, hini, hy, hlen, hl, hin, hse⟩ := cw
  have hK : Back l R p e below s args y 3 8 (PreOf R mc ms Pc) (PostOf Qc mc ms free) := va_backW (hh := hh) (bytes := bytes) (maxL := maxL) (ret := ret) hM hp.1 hrc hrs hfr hlo hws hcw (fun a' U hW => word_at hW (Or.inl (by first | rfl | simp [Cond.onTables, Cond.keeps, Cond.steady])) hini)
  obtain ⟨hx, hb, hml, ho, -⟩ := S
  obtain ⟨-, ⟨cellB, hcB, hoB, hclB⟩, hPc⟩ := hp
  intro T hT X
  obtain ⟨v, vm₁, ⟨U', l2, c2, s2⟩, hW₁, X', ⟨g', mk, t, L, e1, e2, hq, h1, hL, h2, h3⟩, st⟩ := vx_callVW X hx (C := C) (hh := hh) (bytes := bytes) (maxL := maxL) (ret := ret) ho hl hin hse hcode hy hK (by rw [hT]; exact hcB) hoB hclB hg (hsize.trans hml.symm) (argsL := As) (rest := rest) (fun sig h => hn.trans (hlen sig h)) hstack hW (by rw [hb]; exact hdg)
    (fun vm₁ hW₁ => ⟨hf.1, hf.2, hPc (T.setVm vm₁) hT hW₁⟩)
  dsimp only [Pt.U, Pt.locs, Pt.cells, Pt.slots] at X' e1 e2 h1 h2 h3 st
  subst h1; subst h2; subst h3
  exact ⟨v, (T.setVm vm₁).calling g' mk (Value.ref b :: As).toArray, t, U', L, hT, X', hL, e1, e2, hq, st⟩
section
variable {y : MethodName} {bytes cc : ByteArray} {maxL nL mc ms n index : Nat} {ret : Option FieldType} {ws : List Cond} {rm : Room} {Pc : Array Value → State → Prop} {Qc : Array Value → State → Outcome → State → Prop} {XC : String → State → State → Prop} {free : Addr → Prop} {Ts : List Cond} {own C : String} {b : Addr} {As rest : List Value} {g : JFrame}
theorem vx_runVX {hh : List (Nat × Nat × Nat × Nat)} (S : CallFix p m c cc nL s args Ts own) (hM : vx_Met l y ws rm Pc Qc XC mc ms free) (cw : vx_CVW R s args own C index y bytes maxL ret hh ws rm mc ms n) (hp : PreV s H C b Pc As)
    (hg : g.method = m) (hn : As.length = n) (hsize : g.locals.size = nL) (hstack : g.stack = As.reverse ++ .ref b :: rest) (hW : 2 * g.monitorRoom + (rest.map fun v => v.category).sum ≤ 8) (hdg : decode cc g.pc = .ok (.invokevirtual index, 3)) (hf : cells + mc ≤ R.cells ∧ slots + ms ≤ R.slots) :
    vx_Run p l e R s m args below meth c H locs cells slots mc ms g rest (Qc (Value.ref b :: As).toArray) XC free := by
  obtain ⟨⟨hrc, hrs, hfr, hlo, hws, hcw⟩, hcode, hini, hy, hlen, hl, hin, hse⟩ := cw
  have hK : vx_Back l R p e below s args y 3 8 (PreOf R mc ms Pc) (PostOf Qc mc ms free) (vx_Post XC mc ms free) := vx_backW (hh := hh) (bytes := bytes) (maxL := maxL) (ret := ret) hM hp.1 hrc hrs hfr hlo hws hcw (fun a' U hW => word_at hW (Or.inl (by first | rfl | simp [Cond.onTables, Cond.keeps, Cond.steady])) hini)
  obtain ⟨hx, hb, hml, ho, -⟩ := S
  obtain ⟨-, ⟨cellB, hcB, hoB, hclB⟩, hPc⟩ := hp
  intro T hT X
  rcases vx_callVX X hx (C := C) (hh := hh) (bytes := bytes) (maxL := maxL) (ret := ret) ho hl hin hse hcode hy hK (by rw [hT]; exact hcB) hoB hclB hg (hsize.trans hml.symm) (argsL := As) (rest := rest) (fun sig h => hn.trans (hlen sig h)) hstack hW (by rw [hb]; exact hdg)
    (fun vm₁ hW₁ => ⟨hf.1, hf.2, hPc (T.setVm vm₁) hT hW₁⟩) with ⟨v, vm₁, ⟨U', l2, c2, s2⟩, hW₁, X', ⟨g', mk, t, L, e1, e2, hq, h1, hL, h2, h3⟩, st⟩ | ⟨q, vm₁, ⟨U', l2, c2, s2⟩, hW₁, X', ⟨g', mk, t, L, E, ce, e1, e2, hq, hce, hcv, hcl, h1, hL, h2, h3⟩, st⟩
  · dsimp only [Pt.U, Pt.locs, Pt.cells, Pt.slots] at X' e1 e2 h1 h2 h3 st
    subst h1; subst h2; subst h3
    exact Or.inl ⟨v, (T.setVm vm₁).calling g' mk (Value.ref b :: As).toArray, t, U', L, hT, X', hL, e1, e2, hq, st⟩
  · dsimp only [Pt.U, Pt.locs, Pt.cells, Pt.slots] at X' e1 e2 h1 h2 h3 st hcl
    subst h1; subst h2; subst h3
    exact Or.inr ⟨q, (T.setVm vm₁).calling g' mk (Value.ref b :: As).toArray, t, U', L, E, ce, hT, X', hL, e1, e2, hq, hce, hcv, vx_cls hW₁ hcl, st⟩
theorem vx_runSX {hh : List (Nat × Nat × Nat × Nat)} (S : CallFix p m c cc nL s args Ts own) (hM : vx_Met l y ws rm Pc Qc XC mc ms free) (cw : vx_CSW R s args own index y bytes maxL ret hh ws rm mc ms n) (hp : PreS s H Pc As)
    (hg : g.method = m) (hn : As.length = n) (hsize : g.locals.size = nL) (hstack : g.stack = As.reverse ++ rest) (hW : 2 * g.monitorRoom + (rest.map fun v => v.category).sum ≤ 8) (hdg : decode cc g.pc = .ok (.invokestatic index, 3)) (hf : cells + mc ≤ R.cells ∧ slots + ms ≤ R.slots) :
    vx_Run p l e R s m args below meth c H locs cells slots mc ms g rest (Qc As.toArray) XC free := by
  obtain ⟨⟨hrc, hrs, hfr, hlo, hws, hcw⟩, hcode, hini, hy, hlen, hl, hstt⟩ := cw
  have hK : vx_Back l R p e below s args y 3 8 (PreOf R mc ms Pc) (PostOf Qc mc ms free) (vx_Post XC mc ms free) := vx_backW (hh := hh) (bytes := bytes) (maxL := maxL) (ret := ret) hM hp.1 hrc hrs hfr hlo hws hcw (fun a' U hW => word_at hW (Or.inl (by first | rfl | simp [Cond.onTables, Cond.keeps, Cond.steady])) hini)
  obtain ⟨hx, hb, hml, ho, -⟩ := S
  intro T hT X
  rcases vx_callSX X hx (hh := hh) (bytes := bytes) (maxL := maxL) (ret := ret) ho hl hstt hini hcode hy hK hg (hsize.trans hml.symm) (argsL := As) (rest := rest) (fun sig h => hn.trans (hlen sig h)) hstack hW (by rw [hb]; exact hdg)
    (fun vm₁ hW₁ => ⟨hf.1, hf.2, hp.2 (T.setVm vm₁) hT hW₁⟩) with ⟨v, vm₁, ⟨U', l2, c2, s2⟩, hW₁, X', ⟨g', mk, t, L, e1, e2, hq, h1, hL, h2, h3⟩, st⟩ | ⟨q, vm₁, ⟨U', l2, c2, s2⟩, hW₁, X', ⟨g', mk, t, L, E, ce, e1, e2, hq, hce, hcv, hcl, h1, hL, h2, h3⟩, st⟩
  · dsimp only [Pt.U, Pt.locs, Pt.cells, Pt.slots] at X' e1 e2 h1 h2 h3 st
    subst h1; subst h2; subst h3
    exact Or.inl ⟨v, (T.setVm vm₁).calling g' mk As.toArray, t, U', L, hT, X', hL, e1, e2, hq, st⟩
  · dsimp only [Pt.U, Pt.locs, Pt.cells, Pt.slots] at X' e1 e2 h1 h2 h3 st hcl
    subst h1; subst h2; subst h3
    exact Or.inr ⟨q, (T.setVm vm₁).calling g' mk As.toArray, t, U', L, E, ce, hT, X', hL, e1, e2, hq, hce, hcv, vx_cls hW₁ hcl, st⟩
end
end VXH
theorem vx_ofWH {l : Launch} {y : MethodName} {ws ws' : List Cond} {rm : Room} {Pc : Array Value → State → Prop} {Qc : Array Value → State → Outcome → State → Prop} {XC : String → State → State → Prop} {mc ms : Nat} {free : Addr → Prop} {cc : ByteArray} {maxL : Nat} {ret : Option FieldType} {hh : List (Nat × Nat × Nat × Nat)}
    (hy : plainName y.cls = true) (hw : ws = Cond.codeWith y cc maxL ret hh :: ws')
    (body : ∀ p e s m args below meth c s₁, BodyLoose p l y (headSpec ws rm) cc maxL ret e s m args below meth c s₁ → c.maxLocals = maxL → Pc args s →
      W p l e (headSpec ws rm).room s m args below meth c s.heap [] 0 0 (vx_MQ below Qc XC args s mc ms free) (entryFrame m args maxL)) : vx_Met l y ws rm Pc Qc XC mc ms free := by
  refine MetFree.of_bodyS (code := cc) (maxLocals := maxL) (ret := ret) hy ?_ ?_
  · intro args s m h hn
    obtain ⟨m9, meth, c, hn9, h1, h2, h3, h4, -, h5, h6, -⟩ := Cond.codeWith_spec (atoms_spec (ws := ws) h _ (by rw [hw]; exact List.mem_cons_self))
    cases hn.symm.trans hn9
    exact ⟨meth, c, h1, h2, h3, h4, h5, h6⟩
  · intro p e s m args below meth c s₁ B hml hP _
    have hh0 : s₁.heap = s.heap := by rw [B.state]; rfl
    obtain ⟨t, a1, o, b1, b2, b3⟩ := body p e s m args below meth c s₁ B hml hP s₁ hh0 (Stand.of_body B)
    exact ⟨t, o, a1, b1, b2, b3⟩
/-! ===== END ===== -/
end
section
/-! ===== BEGIN printed: names, fields, word lists, decode rows ===== -/
def RX0 : String := "IdleDiscards$Device"
def TX0 : u_T := fun k => match k with
  | 0 => ("IdleDiscards$Device", "blocks", "[I", true)
  | 1 => ("IdleDiscards$Device", "pinFirst", "[I", true)
  | 2 => ("IdleDiscards$Device", "pinLength", "[I", true)
  | 3 => ("IdleDiscards$Device", "settings", "[I", true)
  | 4 => ("IdleDiscards$Device", "time", "I", false)
  | 5 => ("IdleDiscards$Device", "quiet", "I", false)
  | 6 => ("IdleDiscards$Device", "commands", "I", false)
  | 7 => ("IdleDiscards$Device", "discarded", "I", false)
  | _ => ("IdleDiscards$Device", "dropped", "I", false)
def tyX0 : Nat → FieldType := fun k => match k with
  | 0 => .array .int
  | 1 => .array .int
  | 2 => .array .int
  | 3 => .array .int
  | 4 => .int
  | 5 => .int
  | 6 => .int
  | 7 => .int
  | _ => .int
abbrev wsX00 : List Cond := u_ws RX0 TX0 9
theorem nmX0 : ∀ a, a < 9 → ∀ b, b < 9 → a ≠ b → (TX0 a).2.1 ≠ (TX0 b).2.1 := by decide +kernel
theorem tyX0_ok : ∀ k, k < 9 → parseFieldDescriptor (TX0 k).2.2.1 = some (tyX0 k) := by decide +kernel
abbrev cX0_init : ByteArray := prog_2_method_1_code
def yX0_init : MethodName := ⟨RX0, "<init>", "()V"⟩
abbrev cX0_makeNew : ByteArray := prog_2_method_2_code
def yX0_makeNew : MethodName := ⟨RX0, "makeNew", "()V"⟩
abbrev cX0_copyFrom : ByteArray := prog_2_method_3_code
def yX0_copyFrom : MethodName := ⟨RX0, "copyFrom", "(LIdleDiscards$Device;)V"⟩
abbrev cX0_time : ByteArray := prog_2_method_4_code
def yX0_time : MethodName := ⟨RX0, "time", "()I"⟩
abbrev cX0_quietTicks : ByteArray := prog_2_method_5_code
def yX0_quietTicks : MethodName := ⟨RX0, "quietTicks", "()I"⟩
abbrev cX0_commands : ByteArray := prog_2_method_6_code
def yX0_commands : MethodName := ⟨RX0, "commands", "()I"⟩
abbrev cX0_discarded : ByteArray := prog_2_method_7_code
def yX0_discarded : MethodName := ⟨RX0, "discarded", "()I"⟩
abbrev cX0_dropped : ByteArray := prog_2_method_8_code
def yX0_dropped : MethodName := ⟨RX0, "dropped", "()I"⟩
abbrev cX0_settingAt : ByteArray := prog_2_method_9_code
def yX0_settingAt : MethodName := ⟨RX0, "settingAt", "(I)I"⟩
abbrev cX0_changeSetting : ByteArray := prog_2_method_10_code
def yX0_changeSetting : MethodName := ⟨RX0, "changeSetting", "(II)V"⟩
abbrev cX0_isAlive : ByteArray := prog_2_method_11_code
def yX0_isAlive : MethodName := ⟨RX0, "isAlive", "(I)Z"⟩
abbrev cX0_isHeld : ByteArray := prog_2_method_12_code
def yX0_isHeld : MethodName := ⟨RX0, "isHeld", "(I)Z"⟩
abbrev cX0_isQueued : ByteArray := prog_2_method_13_code
def yX0_isQueued : MethodName := ⟨RX0, "isQueued", "(I)Z"⟩
abbrev cX0_count : ByteArray := prog_2_method_14_code
def yX0_count : MethodName := ⟨RX0, "count", "(I)I"⟩
abbrev cX0_countQueued : ByteArray := prog_2_method_15_code
def yX0_countQueued : MethodName := ⟨RX0, "countQueued", "()I"⟩
abbrev cX0_writeSpan : ByteArray := prog_2_method_16_code
def yX0_writeSpan : MethodName := ⟨RX0, "writeSpan", "(II)I"⟩
abbrev cX0_freeSpan : ByteArray := prog_2_method_17_code
def yX0_freeSpan : MethodName := ⟨RX0, "freeSpan", "(II)I"⟩
abbrev cX0_queueNow : ByteArray := prog_2_method_18_code
def yX0_queueNow : MethodName := ⟨RX0, "queueNow", "(I)V"⟩
abbrev cX0_pinSpan : ByteArray := prog_2_method_19_code
def yX0_pinSpan : MethodName := ⟨RX0, "pinSpan", "(III)V"⟩
abbrev cX0_hasPin : ByteArray := prog_2_method_20_code
def yX0_hasPin : MethodName := ⟨RX0, "hasPin", "(I)Z"⟩
abbrev cX0_firstPinned : ByteArray := prog_2_method_21_code
def yX0_firstPinned : MethodName := ⟨RX0, "firstPinned", "(I)I"⟩
abbrev cX0_lengthPinned : ByteArray := prog_2_method_22_code
def yX0_lengthPinned : MethodName := ⟨RX0, "lengthPinned", "(I)I"⟩
abbrev cX0_isAnyPinned : ByteArray := prog_2_method_23_code
def yX0_isAnyPinned : MethodName := ⟨RX0, "isAnyPinned", "(II)Z"⟩
abbrev cX0_countPinned : ByteArray := prog_2_method_24_code
def yX0_countPinned : MethodName := ⟨RX0, "countPinned", "()I"⟩
abbrev cX0_countRanges : ByteArray := prog_2_method_25_code
def yX0_countRanges : MethodName := ⟨RX0, "countRanges", "()I"⟩
abbrev cX0_countRangesAhead : ByteArray := prog_2_method_26_code
def yX0_countRangesAhead : MethodName := ⟨RX0, "countRangesAhead", "(I)I"⟩
abbrev cX0_rangeOf : ByteArray := prog_2_method_27_code
def yX0_rangeOf : MethodName := ⟨RX0, "rangeOf", "(I)I"⟩
abbrev cX0_firstOfRange : ByteArray := prog_2_method_28_code
def yX0_firstOfRange : MethodName := ⟨RX0, "firstOfRange", "(I)I"⟩
abbrev cX0_endOfRange : ByteArray := prog_2_method_29_code
def yX0_endOfRange : MethodName := ⟨RX0, "endOfRange", "(I)I"⟩
abbrev cX0_timeOf : ByteArray := prog_2_method_30_code
def yX0_timeOf : MethodName := ⟨RX0, "timeOf", "(I)I"⟩
abbrev cX0_isDue : ByteArray := prog_2_method_31_code
def yX0_isDue : MethodName := ⟨RX0, "isDue", "(I)Z"⟩
abbrev cX0_dropSurplus : ByteArray := prog_2_method_32_code
def yX0_dropSurplus : MethodName := ⟨RX0, "dropSurplus", "()V"⟩
abbrev cX0_shortestRange : ByteArray := prog_2_method_33_code
def yX0_shortestRange : MethodName := ⟨RX0, "shortestRange", "()I"⟩
abbrev cX0_granuleSize : ByteArray := prog_2_method_34_code
def yX0_granuleSize : MethodName := ⟨RX0, "granuleSize", "()I"⟩
abbrev cX0_isFree : ByteArray := prog_2_method_35_code
def yX0_isFree : MethodName := ⟨RX0, "isFree", "(I)Z"⟩
abbrev cX0_granuleFrom : ByteArray := prog_2_method_36_code
def yX0_granuleFrom : MethodName := ⟨RX0, "granuleFrom", "(I)I"⟩
abbrev cX0_countPieces : ByteArray := prog_2_method_37_code
def yX0_countPieces : MethodName := ⟨RX0, "countPieces", "(II)I"⟩
abbrev cX0_countGranules : ByteArray := prog_2_method_38_code
def yX0_countGranules : MethodName := ⟨RX0, "countGranules", "(II)I"⟩
abbrev cX0_granulesFrom : ByteArray := prog_2_method_39_code
def yX0_granulesFrom : MethodName := ⟨RX0, "granulesFrom", "(II)I"⟩
abbrev cX0_choosePiece : ByteArray := prog_2_method_40_code
def yX0_choosePiece : MethodName := ⟨RX0, "choosePiece", "(ZI)I"⟩
abbrev cX0_passTicks : ByteArray := prog_2_method_41_code
def yX0_passTicks : MethodName := ⟨RX0, "passTicks", "(I)I"⟩
abbrev cX0_tick : ByteArray := prog_2_method_42_code
def yX0_tick : MethodName := ⟨RX0, "tick", "()V"⟩
abbrev cX0_budgetOfTick : ByteArray := prog_2_method_43_code
def yX0_budgetOfTick : MethodName := ⟨RX0, "budgetOfTick", "()I"⟩
abbrev cX0_mostGranules : ByteArray := prog_2_method_44_code
def yX0_mostGranules : MethodName := ⟨RX0, "mostGranules", "(I)I"⟩
abbrev cX0_pieceOfTick : ByteArray := prog_2_method_45_code
def yX0_pieceOfTick : MethodName := ⟨RX0, "pieceOfTick", "()I"⟩
abbrev cX0_granulesOfTick : ByteArray := prog_2_method_46_code
def yX0_granulesOfTick : MethodName := ⟨RX0, "granulesOfTick", "(I)I"⟩
abbrev cX0_sendAll : ByteArray := prog_2_method_47_code
def yX0_sendAll : MethodName := ⟨RX0, "sendAll", "()I"⟩
abbrev cX0_discard : ByteArray := prog_2_method_48_code
def yX0_discard : MethodName := ⟨RX0, "discard", "(II)V"⟩
def RX1 : String := "IdleDiscards$Past"
def TX1 : u_T := fun k => match k with
  | 0 => ("IdleDiscards$Past", "states", "[LIdleDiscards$Device;", true)
  | 1 => ("IdleDiscards$Past", "oldest", "I", false)
  | _ => ("IdleDiscards$Past", "size", "I", false)
def tyX1 : Nat → FieldType := fun k => match k with
  | 0 => .array (.object "IdleDiscards$Device")
  | 1 => .int
  | _ => .int
abbrev wsX10 : List Cond := u_ws RX1 TX1 3
theorem nmX1 : ∀ a, a < 3 → ∀ b, b < 3 → a ≠ b → (TX1 a).2.1 ≠ (TX1 b).2.1 := by decide +kernel
theorem tyX1_ok : ∀ k, k < 3 → parseFieldDescriptor (TX1 k).2.2.1 = some (tyX1 k) := by decide +kernel
abbrev cX1_init : ByteArray := prog_3_method_1_code
def yX1_init : MethodName := ⟨RX1, "<init>", "()V"⟩
abbrev cX1_size : ByteArray := prog_3_method_2_code
def yX1_size : MethodName := ⟨RX1, "size", "()I"⟩
abbrev cX1_forget : ByteArray := prog_3_method_3_code
def yX1_forget : MethodName := ⟨RX1, "forget", "()V"⟩
abbrev cX1_remember : ByteArray := prog_3_method_4_code
def yX1_remember : MethodName := ⟨RX1, "remember", "(LIdleDiscards$Device;)V"⟩
abbrev cX1_takeBack : ByteArray := prog_3_method_5_code
def yX1_takeBack : MethodName := ⟨RX1, "takeBack", "(LIdleDiscards$Device;)V"⟩
abbrev cX1_newest : ByteArray := prog_3_method_6_code
def yX1_newest : MethodName := ⟨RX1, "newest", "()I"⟩
def RX2 : String := "IdleDiscards$Text"
def TX2 : u_T := fun k => match k with
  | 0 => ("IdleDiscards$Text", "chars", "[C", true)
  | 1 => ("IdleDiscards$Text", "numbers", "[I", true)
  | 2 => ("IdleDiscards$Text", "length", "I", false)
  | 3 => ("IdleDiscards$Text", "at", "I", false)
  | _ => ("IdleDiscards$Text", "letter", "I", false)
def tyX2 : Nat → FieldType := fun k => match k with
  | 0 => .array .char
  | 1 => .array .int
  | 2 => .int
  | 3 => .int
  | _ => .int
abbrev wsX20 : List Cond := u_ws RX2 TX2 5
theorem nmX2 : ∀ a, a < 5 → ∀ b, b < 5 → a ≠ b → (TX2 a).2.1 ≠ (TX2 b).2.1 := by decide +kernel
theorem tyX2_ok : ∀ k, k < 5 → parseFieldDescriptor (TX2 k).2.2.1 = some (tyX2 k) := by decide +kernel
abbrev cX2_init : ByteArray := prog_4_method_1_code
def yX2_init : MethodName := ⟨RX2, "<init>", "()V"⟩
abbrev cX2_isFull : ByteArray := prog_4_method_2_code
def yX2_isFull : MethodName := ⟨RX2, "isFull", "()Z"⟩
abbrev cX2_add : ByteArray := prog_4_method_3_code
def yX2_add : MethodName := ⟨RX2, "add", "(C)I"⟩
abbrev cX2_empty : ByteArray := prog_4_method_4_code
def yX2_empty : MethodName := ⟨RX2, "empty", "()I"⟩
abbrev cX2_firstError : ByteArray := prog_4_method_5_code
def yX2_firstError : MethodName := ⟨RX2, "firstError", "()I"⟩
abbrev cX2_beginCommands : ByteArray := prog_4_method_6_code
def yX2_beginCommands : MethodName := ⟨RX2, "beginCommands", "()V"⟩
abbrev cX2_letter : ByteArray := prog_4_method_7_code
def yX2_letter : MethodName := ⟨RX2, "letter", "()I"⟩
abbrev cX2_number : ByteArray := prog_4_method_8_code
def yX2_number : MethodName := ⟨RX2, "number", "(I)I"⟩
abbrev cX2_readCommand : ByteArray := prog_4_method_9_code
def yX2_readCommand : MethodName := ⟨RX2, "readCommand", "()Z"⟩
abbrev cX2_readSpan : ByteArray := prog_4_method_10_code
def yX2_readSpan : MethodName := ⟨RX2, "readSpan", "(I)Z"⟩
abbrev cX2_readNumber : ByteArray := prog_4_method_11_code
def yX2_readNumber : MethodName := ⟨RX2, "readNumber", "(IIII)Z"⟩
def RX3 : String := "IdleDiscards"
def TX3 : u_T := fun k => match k with
  | 0 => ("IdleDiscards", "text", "LIdleDiscards$Text;", true)
  | 1 => ("IdleDiscards", "device", "LIdleDiscards$Device;", true)
  | 2 => ("IdleDiscards", "copy", "LIdleDiscards$Device;", true)
  | 3 => ("IdleDiscards", "past", "LIdleDiscards$Past;", true)
  | 4 => ("IdleDiscards", "slots", "[LIdleDiscards$Device;", true)
  | _ => ("IdleDiscards", "slotUsed", "[Z", true)
def tyX3 : Nat → FieldType := fun k => match k with
  | 0 => .object "IdleDiscards$Text"
  | 1 => .object "IdleDiscards$Device"
  | 2 => .object "IdleDiscards$Device"
  | 3 => .object "IdleDiscards$Past"
  | 4 => .array (.object "IdleDiscards$Device")
  | _ => .array .boolean
abbrev wsX30 : List Cond := u_ws RX3 TX3 6
theorem nmX3 : ∀ a, a < 6 → ∀ b, b < 6 → a ≠ b → (TX3 a).2.1 ≠ (TX3 b).2.1 := by decide +kernel
theorem tyX3_ok : ∀ k, k < 6 → parseFieldDescriptor (TX3 k).2.2.1 = some (tyX3 k) := by decide +kernel
abbrev cX3_init : ByteArray := prog_1_method_1_code
def yX3_init : MethodName := ⟨RX3, "<init>", "()V"⟩
abbrev cX3_append : ByteArray := prog_1_method_2_code
def yX3_append : MethodName := ⟨RX3, "append", "(I)I"⟩
abbrev cX3_clearText : ByteArray := prog_1_method_3_code
def yX3_clearText : MethodName := ⟨RX3, "clearText", "()I"⟩
abbrev cX3_errorPosition : ByteArray := prog_1_method_4_code
def yX3_errorPosition : MethodName := ⟨RX3, "errorPosition", "()I"⟩
abbrev cX3_load : ByteArray := prog_1_method_5_code
def yX3_load : MethodName := ⟨RX3, "load", "()I"⟩
abbrev cX3_doTextCommand : ByteArray := prog_1_method_6_code
def yX3_doTextCommand : MethodName := ⟨RX3, "doTextCommand", "()Z"⟩
abbrev cX3_about : ByteArray := prog_1_method_7_code
def yX3_about : MethodName := ⟨RX3, "about", "(I)I"⟩
abbrev cX3_block : ByteArray := prog_1_method_8_code
def yX3_block : MethodName := ⟨RX3, "block", "(II)I"⟩
abbrev cX3_range : ByteArray := prog_1_method_9_code
def yX3_range : MethodName := ⟨RX3, "range", "(II)I"⟩
abbrev cX3_pinned : ByteArray := prog_1_method_10_code
def yX3_pinned : MethodName := ⟨RX3, "pinned", "(II)I"⟩
abbrev cX3_setting : ByteArray := prog_1_method_11_code
def yX3_setting : MethodName := ⟨RX3, "setting", "(I)I"⟩
abbrev cX3_write : ByteArray := prog_1_method_12_code
def yX3_write : MethodName := ⟨RX3, "write", "(II)I"⟩
abbrev cX3_free : ByteArray := prog_1_method_13_code
def yX3_free : MethodName := ⟨RX3, "free", "(II)I"⟩
abbrev cX3_pin : ByteArray := prog_1_method_14_code
def yX3_pin : MethodName := ⟨RX3, "pin", "(III)I"⟩
abbrev cX3_unpin : ByteArray := prog_1_method_15_code
def yX3_unpin : MethodName := ⟨RX3, "unpin", "(I)I"⟩
abbrev cX3_run : ByteArray := prog_1_method_16_code
def yX3_run : MethodName := ⟨RX3, "run", "(I)I"⟩
abbrev cX3_flush : ByteArray := prog_1_method_17_code
def yX3_flush : MethodName := ⟨RX3, "flush", "()I"⟩
abbrev cX3_set : ByteArray := prog_1_method_18_code
def yX3_set : MethodName := ⟨RX3, "set", "(II)I"⟩
abbrev cX3_undo : ByteArray := prog_1_method_19_code
def yX3_undo : MethodName := ⟨RX3, "undo", "()I"⟩
abbrev cX3_next : ByteArray := prog_1_method_20_code
def yX3_next : MethodName := ⟨RX3, "next", "(I)I"⟩
abbrev cX3_ofCommand : ByteArray := prog_1_method_21_code
def yX3_ofCommand : MethodName := ⟨RX3, "ofCommand", "(II)I"⟩
abbrev cX3_goneIn : ByteArray := prog_1_method_22_code
def yX3_goneIn : MethodName := ⟨RX3, "goneIn", "(I)I"⟩
abbrev cX3_coming : ByteArray := prog_1_method_23_code
def yX3_coming : MethodName := ⟨RX3, "coming", "(II)I"⟩
abbrev cX3_bestGranule : ByteArray := prog_1_method_24_code
def yX3_bestGranule : MethodName := ⟨RX3, "bestGranule", "(I)I"⟩
abbrev cX3_ifWritten : ByteArray := prog_1_method_25_code
def yX3_ifWritten : MethodName := ⟨RX3, "ifWritten", "(II)I"⟩
abbrev cX3_stuck : ByteArray := prog_1_method_26_code
def yX3_stuck : MethodName := ⟨RX3, "stuck", "()I"⟩
abbrev cX3_runScript : ByteArray := prog_1_method_27_code
def yX3_runScript : MethodName := ⟨RX3, "runScript", "(IJ)I"⟩
abbrev cX3_groupsFrom : ByteArray := prog_1_method_28_code
def yX3_groupsFrom : MethodName := ⟨RX3, "groupsFrom", "(JI)J"⟩
abbrev cX3_doScriptCommand : ByteArray := prog_1_method_29_code
def yX3_doScriptCommand : MethodName := ⟨RX3, "doScriptCommand", "(I)Z"⟩
abbrev cX3_simulate : ByteArray := prog_1_method_30_code
def yX3_simulate : MethodName := ⟨RX3, "simulate", "(JI)I"⟩
abbrev cX3_takeTurn : ByteArray := prog_1_method_31_code
def yX3_takeTurn : MethodName := ⟨RX3, "takeTurn", "(I)V"⟩
abbrev cX3_save : ByteArray := prog_1_method_32_code
def yX3_save : MethodName := ⟨RX3, "save", "(I)I"⟩
abbrev cX3_restore : ByteArray := prog_1_method_33_code
def yX3_restore : MethodName := ⟨RX3, "restore", "(I)I"⟩
abbrev cX3_isBlock : ByteArray := prog_1_method_34_code
def yX3_isBlock : MethodName := ⟨RX3, "isBlock", "(I)Z"⟩
abbrev cX3_isLength : ByteArray := prog_1_method_35_code
def yX3_isLength : MethodName := ⟨RX3, "isLength", "(I)Z"⟩
abbrev cX3_isSpan : ByteArray := prog_1_method_36_code
def yX3_isSpan : MethodName := ⟨RX3, "isSpan", "(II)Z"⟩
abbrev cX3_isTicks : ByteArray := prog_1_method_37_code
def yX3_isTicks : MethodName := ⟨RX3, "isTicks", "(II)Z"⟩
abbrev cX3_isPin : ByteArray := prog_1_method_38_code
def yX3_isPin : MethodName := ⟨RX3, "isPin", "(I)Z"⟩
abbrev cX3_isSetting : ByteArray := prog_1_method_39_code
def yX3_isSetting : MethodName := ⟨RX3, "isSetting", "(I)Z"⟩
abbrev cX3_isValue : ByteArray := prog_1_method_40_code
def yX3_isValue : MethodName := ⟨RX3, "isValue", "(II)Z"⟩
abbrev cX3_checkBlock : ByteArray := prog_1_method_41_code
def yX3_checkBlock : MethodName := ⟨RX3, "checkBlock", "(I)V"⟩
abbrev cX3_checkSpan : ByteArray := prog_1_method_42_code
def yX3_checkSpan : MethodName := ⟨RX3, "checkSpan", "(II)V"⟩
abbrev cX3_checkPin : ByteArray := prog_1_method_43_code
def yX3_checkPin : MethodName := ⟨RX3, "checkPin", "(I)V"⟩
abbrev cX3_checkTicks : ByteArray := prog_1_method_44_code
def yX3_checkTicks : MethodName := ⟨RX3, "checkTicks", "(II)V"⟩
abbrev cX3_checkSlot : ByteArray := prog_1_method_45_code
def yX3_checkSlot : MethodName := ⟨RX3, "checkSlot", "(I)V"⟩
abbrev cX3_writeIfAllowed : ByteArray := prog_1_method_46_code
def yX3_writeIfAllowed : MethodName := ⟨RX3, "writeIfAllowed", "(IILIdleDiscards$Device;)Z"⟩
abbrev cX3_freeIfAllowed : ByteArray := prog_1_method_47_code
def yX3_freeIfAllowed : MethodName := ⟨RX3, "freeIfAllowed", "(IILIdleDiscards$Device;)Z"⟩
abbrev cX3_pinIfAllowed : ByteArray := prog_1_method_48_code
def yX3_pinIfAllowed : MethodName := ⟨RX3, "pinIfAllowed", "(IIILIdleDiscards$Device;)Z"⟩
abbrev cX3_setIfAllowed : ByteArray := prog_1_method_49_code
def yX3_setIfAllowed : MethodName := ⟨RX3, "setIfAllowed", "(IILIdleDiscards$Device;)Z"⟩
def RX4 : String := "IdleDiscardsModel"
def TX4 : u_T := fun k => match k with
  | 0 => ("IdleDiscardsModel", "refusal", "I", false)
  | 1 => ("IdleDiscardsModel", "text", "[I", true)
  | 2 => ("IdleDiscardsModel", "size", "I", false)
  | 3 => ("IdleDiscardsModel", "now", "[I", true)
  | 4 => ("IdleDiscardsModel", "trial", "[I", true)
  | 5 => ("IdleDiscardsModel", "diary", "[I", true)
  | 6 => ("IdleDiscardsModel", "acts", "I", false)
  | 7 => ("IdleDiscardsModel", "kept", "[I", true)
  | 8 => ("IdleDiscardsModel", "isKept", "[Z", true)
  | 9 => ("IdleDiscardsModel", "sentFrom", "I", false)
  | 10 => ("IdleDiscardsModel", "sentBlocks", "I", false)
  | 11 => ("IdleDiscardsModel", "spot", "I", false)
  | _ => ("IdleDiscardsModel", "out", "I", false)
def tyX4 : Nat → FieldType := fun k => match k with
  | 0 => .int
  | 1 => .array .int
  | 2 => .int
  | 3 => .array .int
  | 4 => .array .int
  | 5 => .array .int
  | 6 => .int
  | 7 => .array .int
  | 8 => .array .boolean
  | 9 => .int
  | 10 => .int
  | 11 => .int
  | _ => .int
abbrev wsX40 : List Cond := u_ws RX4 TX4 13
theorem nmX4 : ∀ a, a < 13 → ∀ b, b < 13 → a ≠ b → (TX4 a).2.1 ≠ (TX4 b).2.1 := by decide +kernel
theorem tyX4_ok : ∀ k, k < 13 → parseFieldDescriptor (TX4 k).2.2.1 = some (tyX4 k) := by decide +kernel
abbrev cX4_init : ByteArray := prog_6_method_1_code
def yX4_init : MethodName := ⟨RX4, "<init>", "()V"⟩
abbrev cX4_thrown : ByteArray := prog_6_method_2_code
def yX4_thrown : MethodName := ⟨RX4, "thrown", "()I"⟩
abbrev cX4_refused : ByteArray := prog_6_method_3_code
def yX4_refused : MethodName := ⟨RX4, "refused", "(I)Z"⟩
abbrev cX4_in : ByteArray := prog_6_method_4_code
def yX4_in : MethodName := ⟨RX4, "in", "(JJJ)Z"⟩
abbrev cX4_copyState : ByteArray := prog_6_method_5_code
def yX4_copyState : MethodName := ⟨RX4, "copyState", "([II[II)V"⟩
abbrev cX4_begin : ByteArray := prog_6_method_6_code
def yX4_begin : MethodName := ⟨RX4, "begin", "([I)V"⟩
abbrev cX4_isBlock : ByteArray := prog_6_method_7_code
def yX4_isBlock : MethodName := ⟨RX4, "isBlock", "(I)Z"⟩
abbrev cX4_whyNotSpan : ByteArray := prog_6_method_8_code
def yX4_whyNotSpan : MethodName := ⟨RX4, "whyNotSpan", "(II)I"⟩
abbrev cX4_isQueued : ByteArray := prog_6_method_9_code
def yX4_isQueued : MethodName := ⟨RX4, "isQueued", "([II)Z"⟩
abbrev cX4_isPinned : ByteArray := prog_6_method_10_code
def yX4_isPinned : MethodName := ⟨RX4, "isPinned", "([II)Z"⟩
abbrev cX4_allPinned : ByteArray := prog_6_method_11_code
def yX4_allPinned : MethodName := ⟨RX4, "allPinned", "([I)I"⟩
abbrev cX4_begins : ByteArray := prog_6_method_12_code
def yX4_begins : MethodName := ⟨RX4, "begins", "([II)Z"⟩
abbrev cX4_ranges : ByteArray := prog_6_method_13_code
def yX4_ranges : MethodName := ⟨RX4, "ranges", "([I)I"⟩
abbrev cX4_queuedBlocks : ByteArray := prog_6_method_14_code
def yX4_queuedBlocks : MethodName := ⟨RX4, "queuedBlocks", "([I)I"⟩
abbrev cX4_endOf : ByteArray := prog_6_method_15_code
def yX4_endOf : MethodName := ⟨RX4, "endOf", "([II)I"⟩
abbrev cX4_startOf : ByteArray := prog_6_method_16_code
def yX4_startOf : MethodName := ⟨RX4, "startOf", "([II)I"⟩
abbrev cX4_limit : ByteArray := prog_6_method_17_code
def yX4_limit : MethodName := ⟨RX4, "limit", "([I)V"⟩
abbrev cX4_writeOn : ByteArray := prog_6_method_18_code
def yX4_writeOn : MethodName := ⟨RX4, "writeOn", "([III)I"⟩
abbrev cX4_freeOn : ByteArray := prog_6_method_19_code
def yX4_freeOn : MethodName := ⟨RX4, "freeOn", "([III)I"⟩
abbrev cX4_pinOn : ByteArray := prog_6_method_20_code
def yX4_pinOn : MethodName := ⟨RX4, "pinOn", "([IIII)I"⟩
abbrev cX4_granule : ByteArray := prog_6_method_21_code
def yX4_granule : MethodName := ⟨RX4, "granule", "([I)I"⟩
abbrev cX4_isGood : ByteArray := prog_6_method_22_code
def yX4_isGood : MethodName := ⟨RX4, "isGood", "([II)Z"⟩
abbrev cX4_piece : ByteArray := prog_6_method_23_code
def yX4_piece : MethodName := ⟨RX4, "piece", "([II)I"⟩
abbrev cX4_isDue : ByteArray := prog_6_method_24_code
def yX4_isDue : MethodName := ⟨RX4, "isDue", "([II)Z"⟩
abbrev cX4_chosen : ByteArray := prog_6_method_25_code
def yX4_chosen : MethodName := ⟨RX4, "chosen", "([IIZ)I"⟩
abbrev cX4_send : ByteArray := prog_6_method_26_code
def yX4_send : MethodName := ⟨RX4, "send", "([III)V"⟩
abbrev cX4_least : ByteArray := prog_6_method_27_code
def yX4_least : MethodName := ⟨RX4, "least", "(II)I"⟩
abbrev cX4_tick : ByteArray := prog_6_method_28_code
def yX4_tick : MethodName := ⟨RX4, "tick", "([I)V"⟩
abbrev cX4_runOn : ByteArray := prog_6_method_29_code
def yX4_runOn : MethodName := ⟨RX4, "runOn", "([II)I"⟩
abbrev cX4_flushOn : ByteArray := prog_6_method_30_code
def yX4_flushOn : MethodName := ⟨RX4, "flushOn", "([I)I"⟩
abbrev cX4_greatest : ByteArray := prog_6_method_31_code
def yX4_greatest : MethodName := ⟨RX4, "greatest", "(I)I"⟩
abbrev cX4_isSetting : ByteArray := prog_6_method_32_code
def yX4_isSetting : MethodName := ⟨RX4, "isSetting", "(II)Z"⟩
abbrev cX4_lay : ByteArray := prog_6_method_33_code
def yX4_lay : MethodName := ⟨RX4, "lay", "([III)I"⟩
abbrev cX4_append : ByteArray := prog_6_method_34_code
def yX4_append : MethodName := ⟨RX4, "append", "(I)I"⟩
abbrev cX4_clearText : ByteArray := prog_6_method_35_code
def yX4_clearText : MethodName := ⟨RX4, "clearText", "()I"⟩
abbrev cX4_figures : ByteArray := prog_6_method_36_code
def yX4_figures : MethodName := ⟨RX4, "figures", "(IIII)I"⟩
abbrev cX4_done : ByteArray := prog_6_method_37_code
def yX4_done : MethodName := ⟨RX4, "done", "(Z)Z"⟩
abbrev cX4_readCommand : ByteArray := prog_6_method_38_code
def yX4_readCommand : MethodName := ⟨RX4, "readCommand", "([I)Z"⟩
abbrev cX4_readText : ByteArray := prog_6_method_39_code
def yX4_readText : MethodName := ⟨RX4, "readText", "([I)I"⟩
abbrev cX4_errorPosition : ByteArray := prog_6_method_40_code
def yX4_errorPosition : MethodName := ⟨RX4, "errorPosition", "()I"⟩
abbrev cX4_load : ByteArray := prog_6_method_41_code
def yX4_load : MethodName := ⟨RX4, "load", "()I"⟩
abbrev cX4_sum : ByteArray := prog_6_method_42_code
def yX4_sum : MethodName := ⟨RX4, "sum", "([II)I"⟩
abbrev cX4_lost : ByteArray := prog_6_method_43_code
def yX4_lost : MethodName := ⟨RX4, "lost", "([I)I"⟩
abbrev cX4_about : ByteArray := prog_6_method_44_code
def yX4_about : MethodName := ⟨RX4, "about", "(I)I"⟩
abbrev cX4_block : ByteArray := prog_6_method_45_code
def yX4_block : MethodName := ⟨RX4, "block", "(II)I"⟩
abbrev cX4_rangeAt : ByteArray := prog_6_method_46_code
def yX4_rangeAt : MethodName := ⟨RX4, "rangeAt", "([II)I"⟩
abbrev cX4_range : ByteArray := prog_6_method_47_code
def yX4_range : MethodName := ⟨RX4, "range", "(II)I"⟩
abbrev cX4_pinned : ByteArray := prog_6_method_48_code
def yX4_pinned : MethodName := ⟨RX4, "pinned", "(II)I"⟩
abbrev cX4_setting : ByteArray := prog_6_method_49_code
def yX4_setting : MethodName := ⟨RX4, "setting", "(I)I"⟩
abbrev cX4_remember : ByteArray := prog_6_method_50_code
def yX4_remember : MethodName := ⟨RX4, "remember", "()V"⟩
abbrev cX4_write : ByteArray := prog_6_method_51_code
def yX4_write : MethodName := ⟨RX4, "write", "(II)I"⟩
abbrev cX4_free : ByteArray := prog_6_method_52_code
def yX4_free : MethodName := ⟨RX4, "free", "(II)I"⟩
abbrev cX4_pin : ByteArray := prog_6_method_53_code
def yX4_pin : MethodName := ⟨RX4, "pin", "(III)I"⟩
abbrev cX4_unpin : ByteArray := prog_6_method_54_code
def yX4_unpin : MethodName := ⟨RX4, "unpin", "(I)I"⟩
abbrev cX4_run : ByteArray := prog_6_method_55_code
def yX4_run : MethodName := ⟨RX4, "run", "(I)I"⟩
abbrev cX4_flush : ByteArray := prog_6_method_56_code
def yX4_flush : MethodName := ⟨RX4, "flush", "()I"⟩
abbrev cX4_set : ByteArray := prog_6_method_57_code
def yX4_set : MethodName := ⟨RX4, "set", "(II)I"⟩
abbrev cX4_undo : ByteArray := prog_6_method_58_code
def yX4_undo : MethodName := ⟨RX4, "undo", "()I"⟩
abbrev cX4_next : ByteArray := prog_6_method_59_code
def yX4_next : MethodName := ⟨RX4, "next", "(I)I"⟩
abbrev cX4_goneIn : ByteArray := prog_6_method_60_code
def yX4_goneIn : MethodName := ⟨RX4, "goneIn", "(I)I"⟩
abbrev cX4_coming : ByteArray := prog_6_method_61_code
def yX4_coming : MethodName := ⟨RX4, "coming", "(II)I"⟩
abbrev cX4_bestGranule : ByteArray := prog_6_method_62_code
def yX4_bestGranule : MethodName := ⟨RX4, "bestGranule", "(I)I"⟩
abbrev cX4_ifWritten : ByteArray := prog_6_method_63_code
def yX4_ifWritten : MethodName := ⟨RX4, "ifWritten", "(II)I"⟩
abbrev cX4_stuck : ByteArray := prog_6_method_64_code
def yX4_stuck : MethodName := ⟨RX4, "stuck", "()I"⟩
abbrev cX4_command : ByteArray := prog_6_method_65_code
def yX4_command : MethodName := ⟨RX4, "command", "(II)Z"⟩
abbrev cX4_runScript : ByteArray := prog_6_method_66_code
def yX4_runScript : MethodName := ⟨RX4, "runScript", "(IJ)I"⟩
abbrev cX4_turn : ByteArray := prog_6_method_67_code
def yX4_turn : MethodName := ⟨RX4, "turn", "(I)V"⟩
abbrev cX4_simulate : ByteArray := prog_6_method_68_code
def yX4_simulate : MethodName := ⟨RX4, "simulate", "(JI)I"⟩
abbrev cX4_save : ByteArray := prog_6_method_69_code
def yX4_save : MethodName := ⟨RX4, "save", "(I)I"⟩
abbrev cX4_restore : ByteArray := prog_6_method_70_code
def yX4_restore : MethodName := ⟨RX4, "restore", "(I)I"⟩
def RJx145de : String := "java/io/Serializable"
def TJx145de : u_T := fun k => match k with
  | _ => ("", "", "", false)
def tyJx145de : Nat → FieldType := fun k => match k with
  | _ => .int
abbrev wsJx145de0 : List Cond := u_ws RJx145de TJx145de 0
theorem nmJx145de : ∀ a, a < 0 → ∀ b, b < 0 → a ≠ b → (TJx145de a).2.1 ≠ (TJx145de b).2.1 := by decide +kernel
theorem tyJx145de_ok : ∀ k, k < 0 → parseFieldDescriptor (TJx145de k).2.2.1 = some (tyJx145de k) := by decide +kernel
def RJ9 : String := "java/lang/Math"
def TJ9 : u_T := fun k => match k with
  | _ => ("", "", "", false)
def tyJ9 : Nat → FieldType := fun k => match k with
  | _ => .int
abbrev wsJ90 : List Cond := u_ws RJ9 TJ9 0
theorem nmJ9 : ∀ a, a < 0 → ∀ b, b < 0 → a ≠ b → (TJ9 a).2.1 ≠ (TJ9 b).2.1 := by decide +kernel
theorem tyJ9_ok : ∀ k, k < 0 → parseFieldDescriptor (TJ9 k).2.2.1 = some (tyJ9 k) := by decide +kernel
abbrev cJ9_min_7cf53 : ByteArray := prog_11_method_69_code
def yJ9_min_7cf53 : MethodName := ⟨RJ9, "min", "(II)I"⟩
def RJ0 : String := "java/lang/String"
def TJ0 : u_T := fun k => match k with
  | _ => ("", "", "", false)
def tyJ0 : Nat → FieldType := fun k => match k with
  | _ => .int
abbrev wsJ00 : List Cond := u_ws RJ0 TJ0 0
theorem nmJ0 : ∀ a, a < 0 → ∀ b, b < 0 → a ≠ b → (TJ0 a).2.1 ≠ (TJ0 b).2.1 := by decide +kernel
theorem tyJ0_ok : ∀ k, k < 0 → parseFieldDescriptor (TJ0 k).2.2.1 = some (tyJ0 k) := by decide +kernel
def RJ10 : String := "java/lang/System"
def TJ10 : u_T := fun k => match k with
  | _ => ("", "", "", false)
def tyJ10 : Nat → FieldType := fun k => match k with
  | _ => .int
abbrev wsJ100 : List Cond := u_ws RJ10 TJ10 0
theorem nmJ10 : ∀ a, a < 0 → ∀ b, b < 0 → a ≠ b → (TJ10 a).2.1 ≠ (TJ10 b).2.1 := by decide +kernel
theorem tyJ10_ok : ∀ k, k < 0 → parseFieldDescriptor (TJ10 k).2.2.1 = some (tyJ10 k) := by decide +kernel
def RJ7 : String := "java/util/Arrays"
def TJ7 : u_T := fun k => match k with
  | _ => ("", "", "", false)
def tyJ7 : Nat → FieldType := fun k => match k with
  | _ => .int
abbrev wsJ70 : List Cond := u_ws RJ7 TJ7 0
theorem nmJ7 : ∀ a, a < 0 → ∀ b, b < 0 → a ≠ b → (TJ7 a).2.1 ≠ (TJ7 b).2.1 := by decide +kernel
theorem tyJ7_ok : ∀ k, k < 0 → parseFieldDescriptor (TJ7 k).2.2.1 = some (tyJ7 k) := by decide +kernel
abbrev cJ7_fill_53178 : ByteArray := prog_16_method_103_code
def yJ7_fill_53178 : MethodName := ⟨RJ7, "fill", "([II)V"⟩
def RL : String := "IdleDiscardsLaw"
abbrev cL_append : ByteArray := method_3_code
def yL_append : MethodName := ⟨RL, "append", "(LIdleDiscards;I[J)I"⟩
abbrev cL_load : ByteArray := method_4_code
def yL_load : MethodName := ⟨RL, "load", "(LIdleDiscards;[J)I"⟩
abbrev cL_about : ByteArray := method_5_code
def yL_about : MethodName := ⟨RL, "about", "(LIdleDiscards;I[J)I"⟩
abbrev cL_block : ByteArray := method_6_code
def yL_block : MethodName := ⟨RL, "block", "(LIdleDiscards;II[J)I"⟩
abbrev cL_range : ByteArray := method_7_code
def yL_range : MethodName := ⟨RL, "range", "(LIdleDiscards;II[J)I"⟩
abbrev cL_pinned : ByteArray := method_8_code
def yL_pinned : MethodName := ⟨RL, "pinned", "(LIdleDiscards;II[J)I"⟩
abbrev cL_setting : ByteArray := method_9_code
def yL_setting : MethodName := ⟨RL, "setting", "(LIdleDiscards;I[J)I"⟩
abbrev cL_write : ByteArray := method_10_code
def yL_write : MethodName := ⟨RL, "write", "(LIdleDiscards;II[J)I"⟩
abbrev cL_free : ByteArray := method_11_code
def yL_free : MethodName := ⟨RL, "free", "(LIdleDiscards;II[J)I"⟩
abbrev cL_pin : ByteArray := method_12_code
def yL_pin : MethodName := ⟨RL, "pin", "(LIdleDiscards;III[J)I"⟩
abbrev cL_unpin : ByteArray := method_13_code
def yL_unpin : MethodName := ⟨RL, "unpin", "(LIdleDiscards;I[J)I"⟩
abbrev cL_run : ByteArray := method_14_code
def yL_run : MethodName := ⟨RL, "run", "(LIdleDiscards;I[J)I"⟩
abbrev cL_set : ByteArray := method_15_code
def yL_set : MethodName := ⟨RL, "set", "(LIdleDiscards;II[J)I"⟩
abbrev cL_undo : ByteArray := method_16_code
def yL_undo : MethodName := ⟨RL, "undo", "(LIdleDiscards;[J)I"⟩
abbrev cL_next : ByteArray := method_17_code
def yL_next : MethodName := ⟨RL, "next", "(LIdleDiscards;I[J)I"⟩
abbrev cL_goneIn : ByteArray := method_18_code
def yL_goneIn : MethodName := ⟨RL, "goneIn", "(LIdleDiscards;I[J)I"⟩
abbrev cL_coming : ByteArray := method_19_code
def yL_coming : MethodName := ⟨RL, "coming", "(LIdleDiscards;II[J)I"⟩
abbrev cL_bestGranule : ByteArray := method_20_code
def yL_bestGranule : MethodName := ⟨RL, "bestGranule", "(LIdleDiscards;I[J)I"⟩
abbrev cL_ifWritten : ByteArray := method_21_code
def yL_ifWritten : MethodName := ⟨RL, "ifWritten", "(LIdleDiscards;II[J)I"⟩
abbrev cL_runScript : ByteArray := method_22_code
def yL_runScript : MethodName := ⟨RL, "runScript", "(LIdleDiscards;IJ[J)I"⟩
abbrev cL_simulate : ByteArray := method_23_code
def yL_simulate : MethodName := ⟨RL, "simulate", "(LIdleDiscards;JI[J)I"⟩
abbrev cL_save : ByteArray := method_24_code
def yL_save : MethodName := ⟨RL, "save", "(LIdleDiscards;I[J)I"⟩
abbrev cL_restore : ByteArray := method_25_code
def yL_restore : MethodName := ⟨RL, "restore", "(LIdleDiscards;I[J)I"⟩
abbrev cL_law : ByteArray := code
def yL_law : MethodName := ⟨RL, "law", "([I)Z"⟩
def wsJ7_fill_53178 : List Cond := .code yJ7_fill_53178 cJ7_fill_53178 4 none :: ([])
def wsX0_makeNew : List Cond := .code yX0_makeNew cX0_makeNew 1 none :: ([.fieldLink RX0 9 "IdleDiscards$Device" "blocks" "[I", .fieldLink RX0 15 "IdleDiscards$Device" "pinFirst" "[I", .fieldLink RX0 18 "IdleDiscards$Device" "pinLength" "[I", .fieldLink RX0 21 "IdleDiscards$Device" "settings" "[I", .methodLink RX0 36 arraycopyName, .native arraycopyName, .static arraycopyName, .initialized "java/lang/System", .fieldLink RX0 42 "IdleDiscards$Device" "time" "I", .fieldLink RX0 46 "IdleDiscards$Device" "quiet" "I", .fieldLink RX0 49 "IdleDiscards$Device" "commands" "I", .fieldLink RX0 52 "IdleDiscards$Device" "discarded" "I", .fieldLink RX0 55 "IdleDiscards$Device" "dropped" "I", .methodLink RX0 27 yJ7_fill_53178, .static yJ7_fill_53178, .initialized RJ7, .code yJ7_fill_53178 cJ7_fill_53178 4 none] ++ wsX00)
def wsX0_init_r1 : List Cond := [Cond.methodLink RX0 3 objectInit, Cond.instanceMethod objectInit, Cond.code objectInit ⟨#[0xb1]⟩ 1 none, Cond.arrayClass .int, Cond.fieldLink RX0 9 "IdleDiscards$Device" "blocks" "[I", Cond.fieldLink RX0 15 "IdleDiscards$Device" "pinFirst" "[I", Cond.fieldLink RX0 18 "IdleDiscards$Device" "pinLength" "[I", Cond.fieldLink RX0 21 "IdleDiscards$Device" "settings" "[I", Cond.methodLink RX0 24 yX0_makeNew, Cond.instanceMethod yX0_makeNew, Cond.selects RX0 yX0_makeNew yX0_makeNew, Cond.initialized RX0, Cond.code yX0_makeNew cX0_makeNew 1 none, Cond.methodLink RX0 36 arraycopyName, Cond.native arraycopyName, Cond.static arraycopyName, Cond.initialized "java/lang/System", Cond.fieldLink RX0 42 "IdleDiscards$Device" "time" "I", Cond.fieldLink RX0 46 "IdleDiscards$Device" "quiet" "I", Cond.fieldLink RX0 49 "IdleDiscards$Device" "commands" "I", Cond.fieldLink RX0 52 "IdleDiscards$Device" "discarded" "I", Cond.fieldLink RX0 55 "IdleDiscards$Device" "dropped" "I", Cond.methodLink RX0 27 yJ7_fill_53178, Cond.static yJ7_fill_53178]
def wsX0_init_r2 : List Cond := [Cond.initialized RJ7, Cond.code yJ7_fill_53178 cJ7_fill_53178 4 none]
def wsX0_init : List Cond := .code yX0_init cX0_init 1 none :: ((wsX0_init_r1 ++ wsX0_init_r2) ++ wsX00)
def wsX0_copyFrom : List Cond := .code yX0_copyFrom cX0_copyFrom 2 none :: ([.fieldLink RX0 9 "IdleDiscards$Device" "blocks" "[I", .methodLink RX0 36 arraycopyName, .native arraycopyName, .static arraycopyName, .initialized "java/lang/System", .fieldLink RX0 15 "IdleDiscards$Device" "pinFirst" "[I", .fieldLink RX0 18 "IdleDiscards$Device" "pinLength" "[I", .fieldLink RX0 21 "IdleDiscards$Device" "settings" "[I", .fieldLink RX0 42 "IdleDiscards$Device" "time" "I", .fieldLink RX0 46 "IdleDiscards$Device" "quiet" "I", .fieldLink RX0 49 "IdleDiscards$Device" "commands" "I", .fieldLink RX0 52 "IdleDiscards$Device" "discarded" "I", .fieldLink RX0 55 "IdleDiscards$Device" "dropped" "I"] ++ wsX00)
def wsX0_time : List Cond := .code yX0_time cX0_time 1 (some .int) :: ([.fieldLink RX0 42 "IdleDiscards$Device" "time" "I"] ++ wsX00)
def wsX0_quietTicks : List Cond := .code yX0_quietTicks cX0_quietTicks 1 (some .int) :: ([.fieldLink RX0 46 "IdleDiscards$Device" "quiet" "I"] ++ wsX00)
def wsX0_commands : List Cond := .code yX0_commands cX0_commands 1 (some .int) :: ([.fieldLink RX0 49 "IdleDiscards$Device" "commands" "I"] ++ wsX00)
def wsX0_discarded : List Cond := .code yX0_discarded cX0_discarded 1 (some .int) :: ([.fieldLink RX0 52 "IdleDiscards$Device" "discarded" "I"] ++ wsX00)
def wsX0_dropped : List Cond := .code yX0_dropped cX0_dropped 1 (some .int) :: ([.fieldLink RX0 55 "IdleDiscards$Device" "dropped" "I"] ++ wsX00)
def wsX0_settingAt : List Cond := .code yX0_settingAt cX0_settingAt 2 (some .int) :: ([.fieldLink RX0 21 "IdleDiscards$Device" "settings" "[I"] ++ wsX00)
def wsX0_changeSetting : List Cond := .code yX0_changeSetting cX0_changeSetting 3 none :: ([.fieldLink RX0 21 "IdleDiscards$Device" "settings" "[I"] ++ wsX00)
def wsX0_isAlive : List Cond := .code yX0_isAlive cX0_isAlive 2 (some .boolean) :: ([.fieldLink RX0 9 "IdleDiscards$Device" "blocks" "[I"] ++ wsX00)
def wsX0_isHeld : List Cond := .code yX0_isHeld cX0_isHeld 2 (some .boolean) :: ([.fieldLink RX0 9 "IdleDiscards$Device" "blocks" "[I"] ++ wsX00)
def wsX0_isQueued : List Cond := .code yX0_isQueued cX0_isQueued 2 (some .boolean) :: ([.fieldLink RX0 9 "IdleDiscards$Device" "blocks" "[I"] ++ wsX00)
def wsX0_count : List Cond := .code yX0_count cX0_count 4 (some .int) :: ([.fieldLink RX0 9 "IdleDiscards$Device" "blocks" "[I"] ++ wsX00)
def wsX0_countQueued : List Cond := .code yX0_countQueued cX0_countQueued 3 (some .int) :: ([.fieldLink RX0 9 "IdleDiscards$Device" "blocks" "[I"] ++ wsX00)
def wsX0_countRangesAhead : List Cond := .code yX0_countRangesAhead cX0_countRangesAhead 6 (some .int) :: ([.fieldLink RX0 9 "IdleDiscards$Device" "blocks" "[I"] ++ wsX00)
def wsX0_shortestRange : List Cond := .code yX0_shortestRange cX0_shortestRange 5 (some .int) :: ([.fieldLink RX0 9 "IdleDiscards$Device" "blocks" "[I"] ++ wsX00)
def wsX0_dropSurplus : List Cond := .code yX0_dropSurplus cX0_dropSurplus 4 none :: ([.fieldLink RX0 9 "IdleDiscards$Device" "blocks" "[I", .fieldLink RX0 55 "IdleDiscards$Device" "dropped" "I", .methodLink RX0 69 yX0_countRangesAhead, .instanceMethod yX0_countRangesAhead, .selects RX0 yX0_countRangesAhead yX0_countRangesAhead, .initialized RX0, .code yX0_countRangesAhead cX0_countRangesAhead 6 (some .int), .methodLink RX0 73 yX0_shortestRange, .instanceMethod yX0_shortestRange, .selects RX0 yX0_shortestRange yX0_shortestRange, .code yX0_shortestRange cX0_shortestRange 5 (some .int)] ++ wsX00)
def wsX0_writeSpan : List Cond := .code yX0_writeSpan cX0_writeSpan 5 (some .int) :: ([.fieldLink RX0 9 "IdleDiscards$Device" "blocks" "[I", .fieldLink RX0 46 "IdleDiscards$Device" "quiet" "I", .methodLink RX0 58 yX0_dropSurplus, .instanceMethod yX0_dropSurplus, .selects RX0 yX0_dropSurplus yX0_dropSurplus, .initialized RX0, .code yX0_dropSurplus cX0_dropSurplus 4 none, .fieldLink RX0 55 "IdleDiscards$Device" "dropped" "I", .methodLink RX0 69 yX0_countRangesAhead, .instanceMethod yX0_countRangesAhead, .selects RX0 yX0_countRangesAhead yX0_countRangesAhead, .code yX0_countRangesAhead cX0_countRangesAhead 6 (some .int), .methodLink RX0 73 yX0_shortestRange, .instanceMethod yX0_shortestRange, .selects RX0 yX0_shortestRange yX0_shortestRange, .code yX0_shortestRange cX0_shortestRange 5 (some .int)] ++ wsX00)
def wsX0_queueNow : List Cond := .code yX0_queueNow cX0_queueNow 3 none :: ([.fieldLink RX0 9 "IdleDiscards$Device" "blocks" "[I", .fieldLink RX0 42 "IdleDiscards$Device" "time" "I"] ++ wsX00)
def wsX0_freeSpan : List Cond := .code yX0_freeSpan cX0_freeSpan 5 (some .int) :: ([.fieldLink RX0 9 "IdleDiscards$Device" "blocks" "[I", .fieldLink RX0 46 "IdleDiscards$Device" "quiet" "I", .methodLink RX0 61 yX0_queueNow, .instanceMethod yX0_queueNow, .selects RX0 yX0_queueNow yX0_queueNow, .initialized RX0, .code yX0_queueNow cX0_queueNow 3 none, .fieldLink RX0 42 "IdleDiscards$Device" "time" "I", .methodLink RX0 58 yX0_dropSurplus, .instanceMethod yX0_dropSurplus, .selects RX0 yX0_dropSurplus yX0_dropSurplus, .code yX0_dropSurplus cX0_dropSurplus 4 none, .fieldLink RX0 55 "IdleDiscards$Device" "dropped" "I", .methodLink RX0 69 yX0_countRangesAhead, .instanceMethod yX0_countRangesAhead, .selects RX0 yX0_countRangesAhead yX0_countRangesAhead, .code yX0_countRangesAhead cX0_countRangesAhead 6 (some .int), .methodLink RX0 73 yX0_shortestRange, .instanceMethod yX0_shortestRange, .selects RX0 yX0_shortestRange yX0_shortestRange, .code yX0_shortestRange cX0_shortestRange 5 (some .int)] ++ wsX00)
def wsX0_pinSpan : List Cond := .code yX0_pinSpan cX0_pinSpan 4 none :: ([.fieldLink RX0 15 "IdleDiscards$Device" "pinFirst" "[I", .fieldLink RX0 18 "IdleDiscards$Device" "pinLength" "[I"] ++ wsX00)
def wsX0_hasPin : List Cond := .code yX0_hasPin cX0_hasPin 2 (some .boolean) :: ([.fieldLink RX0 18 "IdleDiscards$Device" "pinLength" "[I"] ++ wsX00)
def wsX0_firstPinned : List Cond := .code yX0_firstPinned cX0_firstPinned 2 (some .int) :: ([.fieldLink RX0 15 "IdleDiscards$Device" "pinFirst" "[I"] ++ wsX00)
def wsX0_lengthPinned : List Cond := .code yX0_lengthPinned cX0_lengthPinned 2 (some .int) :: ([.fieldLink RX0 18 "IdleDiscards$Device" "pinLength" "[I"] ++ wsX00)
def wsX0_isAnyPinned : List Cond := .code yX0_isAnyPinned cX0_isAnyPinned 4 (some .boolean) :: ([.fieldLink RX0 18 "IdleDiscards$Device" "pinLength" "[I", .fieldLink RX0 15 "IdleDiscards$Device" "pinFirst" "[I"] ++ wsX00)
def wsX0_countPinned : List Cond := .code yX0_countPinned cX0_countPinned 3 (some .int) :: ([.methodLink RX0 65 yX0_isAnyPinned, .instanceMethod yX0_isAnyPinned, .selects RX0 yX0_isAnyPinned yX0_isAnyPinned, .initialized RX0, .code yX0_isAnyPinned cX0_isAnyPinned 4 (some .boolean), .fieldLink RX0 18 "IdleDiscards$Device" "pinLength" "[I", .fieldLink RX0 15 "IdleDiscards$Device" "pinFirst" "[I"] ++ wsX00)
def wsX0_countRanges : List Cond := .code yX0_countRanges cX0_countRanges 1 (some .int) :: ([.methodLink RX0 69 yX0_countRangesAhead, .instanceMethod yX0_countRangesAhead, .selects RX0 yX0_countRangesAhead yX0_countRangesAhead, .initialized RX0, .code yX0_countRangesAhead cX0_countRangesAhead 6 (some .int), .fieldLink RX0 9 "IdleDiscards$Device" "blocks" "[I"] ++ wsX00)
def wsX0_rangeOf : List Cond := .code yX0_rangeOf cX0_rangeOf 2 (some .int) :: ([.fieldLink RX0 9 "IdleDiscards$Device" "blocks" "[I", .methodLink RX0 69 yX0_countRangesAhead, .instanceMethod yX0_countRangesAhead, .selects RX0 yX0_countRangesAhead yX0_countRangesAhead, .initialized RX0, .code yX0_countRangesAhead cX0_countRangesAhead 6 (some .int)] ++ wsX00)
def wsX0_firstOfRange : List Cond := .code yX0_firstOfRange cX0_firstOfRange 6 (some .int) :: ([.fieldLink RX0 9 "IdleDiscards$Device" "blocks" "[I"] ++ wsX00)
def wsX0_endOfRange : List Cond := .code yX0_endOfRange cX0_endOfRange 3 (some .int) :: ([.fieldLink RX0 9 "IdleDiscards$Device" "blocks" "[I"] ++ wsX00)
def wsX0_timeOf : List Cond := .code yX0_timeOf cX0_timeOf 2 (some .int) :: ([.fieldLink RX0 9 "IdleDiscards$Device" "blocks" "[I"] ++ wsX00)
def wsX0_isDue : List Cond := .code yX0_isDue cX0_isDue 2 (some .boolean) :: ([.fieldLink RX0 42 "IdleDiscards$Device" "time" "I", .fieldLink RX0 9 "IdleDiscards$Device" "blocks" "[I", .fieldLink RX0 21 "IdleDiscards$Device" "settings" "[I"] ++ wsX00)
def wsX0_granuleSize : List Cond := .code yX0_granuleSize cX0_granuleSize 1 (some .int) :: ([.fieldLink RX0 21 "IdleDiscards$Device" "settings" "[I"] ++ wsX00)
def wsX0_isFree : List Cond := .code yX0_isFree cX0_isFree 5 (some .boolean) :: ([.fieldLink RX0 21 "IdleDiscards$Device" "settings" "[I", .fieldLink RX0 9 "IdleDiscards$Device" "blocks" "[I", .methodLink RX0 77 yX0_granuleSize, .instanceMethod yX0_granuleSize, .selects RX0 yX0_granuleSize yX0_granuleSize, .initialized RX0, .code yX0_granuleSize cX0_granuleSize 1 (some .int), .methodLink RX0 65 yX0_isAnyPinned, .instanceMethod yX0_isAnyPinned, .selects RX0 yX0_isAnyPinned yX0_isAnyPinned, .code yX0_isAnyPinned cX0_isAnyPinned 4 (some .boolean), .fieldLink RX0 18 "IdleDiscards$Device" "pinLength" "[I", .fieldLink RX0 15 "IdleDiscards$Device" "pinFirst" "[I"] ++ wsX00)
def wsX0_granuleFrom : List Cond := .code yX0_granuleFrom cX0_granuleFrom 2 (some .int) :: ([.fieldLink RX0 21 "IdleDiscards$Device" "settings" "[I", .methodLink RX0 77 yX0_granuleSize, .instanceMethod yX0_granuleSize, .selects RX0 yX0_granuleSize yX0_granuleSize, .initialized RX0, .code yX0_granuleSize cX0_granuleSize 1 (some .int)] ++ wsX00)
def wsX0_countPieces : List Cond := .code yX0_countPieces cX0_countPieces 8 (some .int) :: ([.fieldLink RX0 21 "IdleDiscards$Device" "settings" "[I", .methodLink RX0 80 yX0_granuleFrom, .instanceMethod yX0_granuleFrom, .selects RX0 yX0_granuleFrom yX0_granuleFrom, .initialized RX0, .code yX0_granuleFrom cX0_granuleFrom 2 (some .int), .methodLink RX0 77 yX0_granuleSize, .instanceMethod yX0_granuleSize, .selects RX0 yX0_granuleSize yX0_granuleSize, .code yX0_granuleSize cX0_granuleSize 1 (some .int), .methodLink RX0 83 yX0_isFree, .instanceMethod yX0_isFree, .selects RX0 yX0_isFree yX0_isFree, .code yX0_isFree cX0_isFree 5 (some .boolean), .fieldLink RX0 9 "IdleDiscards$Device" "blocks" "[I", .methodLink RX0 65 yX0_isAnyPinned, .instanceMethod yX0_isAnyPinned, .selects RX0 yX0_isAnyPinned yX0_isAnyPinned, .code yX0_isAnyPinned cX0_isAnyPinned 4 (some .boolean), .fieldLink RX0 18 "IdleDiscards$Device" "pinLength" "[I", .fieldLink RX0 15 "IdleDiscards$Device" "pinFirst" "[I"] ++ wsX00)
def wsX0_countGranules : List Cond := .code yX0_countGranules cX0_countGranules 6 (some .int) :: ([.fieldLink RX0 21 "IdleDiscards$Device" "settings" "[I", .methodLink RX0 80 yX0_granuleFrom, .instanceMethod yX0_granuleFrom, .selects RX0 yX0_granuleFrom yX0_granuleFrom, .initialized RX0, .code yX0_granuleFrom cX0_granuleFrom 2 (some .int), .methodLink RX0 77 yX0_granuleSize, .instanceMethod yX0_granuleSize, .selects RX0 yX0_granuleSize yX0_granuleSize, .code yX0_granuleSize cX0_granuleSize 1 (some .int), .methodLink RX0 83 yX0_isFree, .instanceMethod yX0_isFree, .selects RX0 yX0_isFree yX0_isFree, .code yX0_isFree cX0_isFree 5 (some .boolean), .fieldLink RX0 9 "IdleDiscards$Device" "blocks" "[I", .methodLink RX0 65 yX0_isAnyPinned, .instanceMethod yX0_isAnyPinned, .selects RX0 yX0_isAnyPinned yX0_isAnyPinned, .code yX0_isAnyPinned cX0_isAnyPinned 4 (some .boolean), .fieldLink RX0 18 "IdleDiscards$Device" "pinLength" "[I", .fieldLink RX0 15 "IdleDiscards$Device" "pinFirst" "[I"] ++ wsX00)
def wsX0_granulesFrom : List Cond := .code yX0_granulesFrom cX0_granulesFrom 4 (some .int) :: ([.methodLink RX0 83 yX0_isFree, .instanceMethod yX0_isFree, .selects RX0 yX0_isFree yX0_isFree, .initialized RX0, .code yX0_isFree cX0_isFree 5 (some .boolean), .fieldLink RX0 21 "IdleDiscards$Device" "settings" "[I", .fieldLink RX0 9 "IdleDiscards$Device" "blocks" "[I", .methodLink RX0 77 yX0_granuleSize, .instanceMethod yX0_granuleSize, .selects RX0 yX0_granuleSize yX0_granuleSize, .code yX0_granuleSize cX0_granuleSize 1 (some .int), .methodLink RX0 65 yX0_isAnyPinned, .instanceMethod yX0_isAnyPinned, .selects RX0 yX0_isAnyPinned yX0_isAnyPinned, .code yX0_isAnyPinned cX0_isAnyPinned 4 (some .boolean), .fieldLink RX0 18 "IdleDiscards$Device" "pinLength" "[I", .fieldLink RX0 15 "IdleDiscards$Device" "pinFirst" "[I"] ++ wsX00)
def wsX0_choosePiece : List Cond := .code yX0_choosePiece cX0_choosePiece 10 (some .int) :: ([.fieldLink RX0 21 "IdleDiscards$Device" "settings" "[I", .fieldLink RX0 9 "IdleDiscards$Device" "blocks" "[I", .methodLink RX0 87 yX0_isDue, .instanceMethod yX0_isDue, .selects RX0 yX0_isDue yX0_isDue, .initialized RX0, .code yX0_isDue cX0_isDue 2 (some .boolean), .fieldLink RX0 42 "IdleDiscards$Device" "time" "I", .methodLink RX0 83 yX0_isFree, .instanceMethod yX0_isFree, .selects RX0 yX0_isFree yX0_isFree, .code yX0_isFree cX0_isFree 5 (some .boolean), .methodLink RX0 77 yX0_granuleSize, .instanceMethod yX0_granuleSize, .selects RX0 yX0_granuleSize yX0_granuleSize, .code yX0_granuleSize cX0_granuleSize 1 (some .int), .methodLink RX0 65 yX0_isAnyPinned, .instanceMethod yX0_isAnyPinned, .selects RX0 yX0_isAnyPinned yX0_isAnyPinned, .code yX0_isAnyPinned cX0_isAnyPinned 4 (some .boolean), .fieldLink RX0 18 "IdleDiscards$Device" "pinLength" "[I", .fieldLink RX0 15 "IdleDiscards$Device" "pinFirst" "[I"] ++ wsX00)
def wsX0_budgetOfTick : List Cond := .code yX0_budgetOfTick cX0_budgetOfTick 1 (some .int) :: ([.fieldLink RX0 46 "IdleDiscards$Device" "quiet" "I", .fieldLink RX0 21 "IdleDiscards$Device" "settings" "[I"] ++ wsX00)
def wsX0_mostGranules : List Cond := .code yX0_mostGranules cX0_mostGranules 2 (some .int) :: ([.fieldLink RX0 21 "IdleDiscards$Device" "settings" "[I", .methodLink RX0 111 Lib.Math.min.name, .static Lib.Math.min.name, .initialized "java/lang/Math", .code Lib.Math.min.name Lib.Math.min.code 2 (some .int)] ++ wsX00)
def wsX0_discard : List Cond := .code yX0_discard cX0_discard 6 none :: ([.fieldLink RX0 21 "IdleDiscards$Device" "settings" "[I", .fieldLink RX0 9 "IdleDiscards$Device" "blocks" "[I", .fieldLink RX0 49 "IdleDiscards$Device" "commands" "I", .fieldLink RX0 52 "IdleDiscards$Device" "discarded" "I", .methodLink RX0 58 yX0_dropSurplus, .instanceMethod yX0_dropSurplus, .selects RX0 yX0_dropSurplus yX0_dropSurplus, .initialized RX0, .code yX0_dropSurplus cX0_dropSurplus 4 none, .fieldLink RX0 55 "IdleDiscards$Device" "dropped" "I", .methodLink RX0 69 yX0_countRangesAhead, .instanceMethod yX0_countRangesAhead, .selects RX0 yX0_countRangesAhead yX0_countRangesAhead, .code yX0_countRangesAhead cX0_countRangesAhead 6 (some .int), .methodLink RX0 73 yX0_shortestRange, .instanceMethod yX0_shortestRange, .selects RX0 yX0_shortestRange yX0_shortestRange, .code yX0_shortestRange cX0_shortestRange 5 (some .int)] ++ wsX00)
def wsX0_tick_r1 : List Cond := [Cond.fieldLink RX0 21 "IdleDiscards$Device" "settings" "[I", Cond.fieldLink RX0 42 "IdleDiscards$Device" "time" "I", Cond.fieldLink RX0 46 "IdleDiscards$Device" "quiet" "I", Cond.methodLink RX0 93 yX0_budgetOfTick, Cond.instanceMethod yX0_budgetOfTick, Cond.selects RX0 yX0_budgetOfTick yX0_budgetOfTick, Cond.initialized RX0, Cond.code yX0_budgetOfTick cX0_budgetOfTick 1 (some .int), Cond.methodLink RX0 96 yX0_choosePiece, Cond.instanceMethod yX0_choosePiece, Cond.selects RX0 yX0_choosePiece yX0_choosePiece, Cond.code yX0_choosePiece cX0_choosePiece 10 (some .int), Cond.fieldLink RX0 9 "IdleDiscards$Device" "blocks" "[I", Cond.methodLink RX0 87 yX0_isDue, Cond.instanceMethod yX0_isDue, Cond.selects RX0 yX0_isDue yX0_isDue, Cond.code yX0_isDue cX0_isDue 2 (some .boolean), Cond.methodLink RX0 83 yX0_isFree, Cond.instanceMethod yX0_isFree, Cond.selects RX0 yX0_isFree yX0_isFree, Cond.code yX0_isFree cX0_isFree 5 (some .boolean), Cond.methodLink RX0 77 yX0_granuleSize, Cond.instanceMethod yX0_granuleSize, Cond.selects RX0 yX0_granuleSize yX0_granuleSize]
def wsX0_tick_r2 : List Cond := [Cond.code yX0_granuleSize cX0_granuleSize 1 (some .int), Cond.methodLink RX0 65 yX0_isAnyPinned, Cond.instanceMethod yX0_isAnyPinned, Cond.selects RX0 yX0_isAnyPinned yX0_isAnyPinned, Cond.code yX0_isAnyPinned cX0_isAnyPinned 4 (some .boolean), Cond.fieldLink RX0 18 "IdleDiscards$Device" "pinLength" "[I", Cond.fieldLink RX0 15 "IdleDiscards$Device" "pinFirst" "[I", Cond.methodLink RX0 100 yX0_mostGranules, Cond.instanceMethod yX0_mostGranules, Cond.selects RX0 yX0_mostGranules yX0_mostGranules, Cond.code yX0_mostGranules cX0_mostGranules 2 (some .int), Cond.methodLink RX0 111 Lib.Math.min.name, Cond.static Lib.Math.min.name, Cond.initialized "java/lang/Math", Cond.code Lib.Math.min.name Lib.Math.min.code 2 (some .int), Cond.methodLink RX0 103 yX0_granulesFrom, Cond.instanceMethod yX0_granulesFrom, Cond.selects RX0 yX0_granulesFrom yX0_granulesFrom, Cond.code yX0_granulesFrom cX0_granulesFrom 4 (some .int), Cond.methodLink RX0 107 yX0_discard, Cond.instanceMethod yX0_discard, Cond.selects RX0 yX0_discard yX0_discard, Cond.code yX0_discard cX0_discard 6 none, Cond.fieldLink RX0 49 "IdleDiscards$Device" "commands" "I"]
def wsX0_tick_r3 : List Cond := [Cond.fieldLink RX0 52 "IdleDiscards$Device" "discarded" "I", Cond.methodLink RX0 58 yX0_dropSurplus, Cond.instanceMethod yX0_dropSurplus, Cond.selects RX0 yX0_dropSurplus yX0_dropSurplus, Cond.code yX0_dropSurplus cX0_dropSurplus 4 none, Cond.fieldLink RX0 55 "IdleDiscards$Device" "dropped" "I", Cond.methodLink RX0 69 yX0_countRangesAhead, Cond.instanceMethod yX0_countRangesAhead, Cond.selects RX0 yX0_countRangesAhead yX0_countRangesAhead, Cond.code yX0_countRangesAhead cX0_countRangesAhead 6 (some .int), Cond.methodLink RX0 73 yX0_shortestRange, Cond.instanceMethod yX0_shortestRange, Cond.selects RX0 yX0_shortestRange yX0_shortestRange, Cond.code yX0_shortestRange cX0_shortestRange 5 (some .int)]
def wsX0_tick : List Cond := .code yX0_tick cX0_tick 5 none :: ((wsX0_tick_r1 ++ (wsX0_tick_r2 ++ wsX0_tick_r3)) ++ wsX00)
def wsX0_passTicks_r1 : List Cond := [Cond.fieldLink RX0 52 "IdleDiscards$Device" "discarded" "I", Cond.methodLink RX0 90 yX0_tick, Cond.instanceMethod yX0_tick, Cond.selects RX0 yX0_tick yX0_tick, Cond.initialized RX0, Cond.code yX0_tick cX0_tick 5 none, Cond.fieldLink RX0 21 "IdleDiscards$Device" "settings" "[I", Cond.fieldLink RX0 42 "IdleDiscards$Device" "time" "I", Cond.fieldLink RX0 46 "IdleDiscards$Device" "quiet" "I", Cond.methodLink RX0 93 yX0_budgetOfTick, Cond.instanceMethod yX0_budgetOfTick, Cond.selects RX0 yX0_budgetOfTick yX0_budgetOfTick, Cond.code yX0_budgetOfTick cX0_budgetOfTick 1 (some .int), Cond.methodLink RX0 96 yX0_choosePiece, Cond.instanceMethod yX0_choosePiece, Cond.selects RX0 yX0_choosePiece yX0_choosePiece, Cond.code yX0_choosePiece cX0_choosePiece 10 (some .int), Cond.fieldLink RX0 9 "IdleDiscards$Device" "blocks" "[I", Cond.methodLink RX0 87 yX0_isDue, Cond.instanceMethod yX0_isDue, Cond.selects RX0 yX0_isDue yX0_isDue, Cond.code yX0_isDue cX0_isDue 2 (some .boolean), Cond.methodLink RX0 83 yX0_isFree, Cond.instanceMethod yX0_isFree]
def wsX0_passTicks_r2 : List Cond := [Cond.selects RX0 yX0_isFree yX0_isFree, Cond.code yX0_isFree cX0_isFree 5 (some .boolean), Cond.methodLink RX0 77 yX0_granuleSize, Cond.instanceMethod yX0_granuleSize, Cond.selects RX0 yX0_granuleSize yX0_granuleSize, Cond.code yX0_granuleSize cX0_granuleSize 1 (some .int), Cond.methodLink RX0 65 yX0_isAnyPinned, Cond.instanceMethod yX0_isAnyPinned, Cond.selects RX0 yX0_isAnyPinned yX0_isAnyPinned, Cond.code yX0_isAnyPinned cX0_isAnyPinned 4 (some .boolean), Cond.fieldLink RX0 18 "IdleDiscards$Device" "pinLength" "[I", Cond.fieldLink RX0 15 "IdleDiscards$Device" "pinFirst" "[I", Cond.methodLink RX0 100 yX0_mostGranules, Cond.instanceMethod yX0_mostGranules, Cond.selects RX0 yX0_mostGranules yX0_mostGranules, Cond.code yX0_mostGranules cX0_mostGranules 2 (some .int), Cond.methodLink RX0 111 Lib.Math.min.name, Cond.static Lib.Math.min.name, Cond.initialized "java/lang/Math", Cond.code Lib.Math.min.name Lib.Math.min.code 2 (some .int), Cond.methodLink RX0 103 yX0_granulesFrom, Cond.instanceMethod yX0_granulesFrom, Cond.selects RX0 yX0_granulesFrom yX0_granulesFrom, Cond.code yX0_granulesFrom cX0_granulesFrom 4 (some .int)]
def wsX0_passTicks_r3 : List Cond := [Cond.methodLink RX0 107 yX0_discard, Cond.instanceMethod yX0_discard, Cond.selects RX0 yX0_discard yX0_discard, Cond.code yX0_discard cX0_discard 6 none, Cond.fieldLink RX0 49 "IdleDiscards$Device" "commands" "I", Cond.methodLink RX0 58 yX0_dropSurplus, Cond.instanceMethod yX0_dropSurplus, Cond.selects RX0 yX0_dropSurplus yX0_dropSurplus, Cond.code yX0_dropSurplus cX0_dropSurplus 4 none, Cond.fieldLink RX0 55 "IdleDiscards$Device" "dropped" "I", Cond.methodLink RX0 69 yX0_countRangesAhead, Cond.instanceMethod yX0_countRangesAhead, Cond.selects RX0 yX0_countRangesAhead yX0_countRangesAhead, Cond.code yX0_countRangesAhead cX0_countRangesAhead 6 (some .int), Cond.methodLink RX0 73 yX0_shortestRange, Cond.instanceMethod yX0_shortestRange, Cond.selects RX0 yX0_shortestRange yX0_shortestRange, Cond.code yX0_shortestRange cX0_shortestRange 5 (some .int)]
def wsX0_passTicks : List Cond := .code yX0_passTicks cX0_passTicks 4 (some .int) :: ((wsX0_passTicks_r1 ++ (wsX0_passTicks_r2 ++ wsX0_passTicks_r3)) ++ wsX00)
def wsX0_pieceOfTick_r1 : List Cond := [Cond.fieldLink RX0 21 "IdleDiscards$Device" "settings" "[I", Cond.methodLink RX0 93 yX0_budgetOfTick, Cond.instanceMethod yX0_budgetOfTick, Cond.selects RX0 yX0_budgetOfTick yX0_budgetOfTick, Cond.initialized RX0, Cond.code yX0_budgetOfTick cX0_budgetOfTick 1 (some .int), Cond.fieldLink RX0 46 "IdleDiscards$Device" "quiet" "I", Cond.methodLink RX0 96 yX0_choosePiece, Cond.instanceMethod yX0_choosePiece, Cond.selects RX0 yX0_choosePiece yX0_choosePiece, Cond.code yX0_choosePiece cX0_choosePiece 10 (some .int), Cond.fieldLink RX0 9 "IdleDiscards$Device" "blocks" "[I", Cond.methodLink RX0 87 yX0_isDue, Cond.instanceMethod yX0_isDue, Cond.selects RX0 yX0_isDue yX0_isDue, Cond.code yX0_isDue cX0_isDue 2 (some .boolean), Cond.fieldLink RX0 42 "IdleDiscards$Device" "time" "I", Cond.methodLink RX0 83 yX0_isFree, Cond.instanceMethod yX0_isFree, Cond.selects RX0 yX0_isFree yX0_isFree, Cond.code yX0_isFree cX0_isFree 5 (some .boolean), Cond.methodLink RX0 77 yX0_granuleSize, Cond.instanceMethod yX0_granuleSize, Cond.selects RX0 yX0_granuleSize yX0_granuleSize]
def wsX0_pieceOfTick_r2 : List Cond := [Cond.code yX0_granuleSize cX0_granuleSize 1 (some .int), Cond.methodLink RX0 65 yX0_isAnyPinned, Cond.instanceMethod yX0_isAnyPinned, Cond.selects RX0 yX0_isAnyPinned yX0_isAnyPinned, Cond.code yX0_isAnyPinned cX0_isAnyPinned 4 (some .boolean), Cond.fieldLink RX0 18 "IdleDiscards$Device" "pinLength" "[I", Cond.fieldLink RX0 15 "IdleDiscards$Device" "pinFirst" "[I"]
def wsX0_pieceOfTick : List Cond := .code yX0_pieceOfTick cX0_pieceOfTick 1 (some .int) :: ((wsX0_pieceOfTick_r1 ++ wsX0_pieceOfTick_r2) ++ wsX00)
def wsX0_granulesOfTick_r1 : List Cond := [Cond.methodLink RX0 93 yX0_budgetOfTick, Cond.instanceMethod yX0_budgetOfTick, Cond.selects RX0 yX0_budgetOfTick yX0_budgetOfTick, Cond.initialized RX0, Cond.code yX0_budgetOfTick cX0_budgetOfTick 1 (some .int), Cond.fieldLink RX0 46 "IdleDiscards$Device" "quiet" "I", Cond.fieldLink RX0 21 "IdleDiscards$Device" "settings" "[I", Cond.methodLink RX0 100 yX0_mostGranules, Cond.instanceMethod yX0_mostGranules, Cond.selects RX0 yX0_mostGranules yX0_mostGranules, Cond.code yX0_mostGranules cX0_mostGranules 2 (some .int), Cond.methodLink RX0 111 Lib.Math.min.name, Cond.static Lib.Math.min.name, Cond.initialized "java/lang/Math", Cond.code Lib.Math.min.name Lib.Math.min.code 2 (some .int), Cond.methodLink RX0 103 yX0_granulesFrom, Cond.instanceMethod yX0_granulesFrom, Cond.selects RX0 yX0_granulesFrom yX0_granulesFrom, Cond.code yX0_granulesFrom cX0_granulesFrom 4 (some .int), Cond.methodLink RX0 83 yX0_isFree, Cond.instanceMethod yX0_isFree, Cond.selects RX0 yX0_isFree yX0_isFree, Cond.code yX0_isFree cX0_isFree 5 (some .boolean), Cond.fieldLink RX0 9 "IdleDiscards$Device" "blocks" "[I"]
def wsX0_granulesOfTick_r2 : List Cond := [Cond.methodLink RX0 77 yX0_granuleSize, Cond.instanceMethod yX0_granuleSize, Cond.selects RX0 yX0_granuleSize yX0_granuleSize, Cond.code yX0_granuleSize cX0_granuleSize 1 (some .int), Cond.methodLink RX0 65 yX0_isAnyPinned, Cond.instanceMethod yX0_isAnyPinned, Cond.selects RX0 yX0_isAnyPinned yX0_isAnyPinned, Cond.code yX0_isAnyPinned cX0_isAnyPinned 4 (some .boolean), Cond.fieldLink RX0 18 "IdleDiscards$Device" "pinLength" "[I", Cond.fieldLink RX0 15 "IdleDiscards$Device" "pinFirst" "[I"]
def wsX0_granulesOfTick : List Cond := .code yX0_granulesOfTick cX0_granulesOfTick 2 (some .int) :: ((wsX0_granulesOfTick_r1 ++ wsX0_granulesOfTick_r2) ++ wsX00)
def wsX0_sendAll_r1 : List Cond := [Cond.fieldLink RX0 49 "IdleDiscards$Device" "commands" "I", Cond.methodLink RX0 96 yX0_choosePiece, Cond.instanceMethod yX0_choosePiece, Cond.selects RX0 yX0_choosePiece yX0_choosePiece, Cond.initialized RX0, Cond.code yX0_choosePiece cX0_choosePiece 10 (some .int), Cond.fieldLink RX0 21 "IdleDiscards$Device" "settings" "[I", Cond.fieldLink RX0 9 "IdleDiscards$Device" "blocks" "[I", Cond.methodLink RX0 87 yX0_isDue, Cond.instanceMethod yX0_isDue, Cond.selects RX0 yX0_isDue yX0_isDue, Cond.code yX0_isDue cX0_isDue 2 (some .boolean), Cond.fieldLink RX0 42 "IdleDiscards$Device" "time" "I", Cond.methodLink RX0 83 yX0_isFree, Cond.instanceMethod yX0_isFree, Cond.selects RX0 yX0_isFree yX0_isFree, Cond.code yX0_isFree cX0_isFree 5 (some .boolean), Cond.methodLink RX0 77 yX0_granuleSize, Cond.instanceMethod yX0_granuleSize, Cond.selects RX0 yX0_granuleSize yX0_granuleSize, Cond.code yX0_granuleSize cX0_granuleSize 1 (some .int), Cond.methodLink RX0 65 yX0_isAnyPinned, Cond.instanceMethod yX0_isAnyPinned, Cond.selects RX0 yX0_isAnyPinned yX0_isAnyPinned]
def wsX0_sendAll_r2 : List Cond := [Cond.code yX0_isAnyPinned cX0_isAnyPinned 4 (some .boolean), Cond.fieldLink RX0 18 "IdleDiscards$Device" "pinLength" "[I", Cond.fieldLink RX0 15 "IdleDiscards$Device" "pinFirst" "[I", Cond.methodLink RX0 103 yX0_granulesFrom, Cond.instanceMethod yX0_granulesFrom, Cond.selects RX0 yX0_granulesFrom yX0_granulesFrom, Cond.code yX0_granulesFrom cX0_granulesFrom 4 (some .int), Cond.methodLink RX0 107 yX0_discard, Cond.instanceMethod yX0_discard, Cond.selects RX0 yX0_discard yX0_discard, Cond.code yX0_discard cX0_discard 6 none, Cond.fieldLink RX0 52 "IdleDiscards$Device" "discarded" "I", Cond.methodLink RX0 58 yX0_dropSurplus, Cond.instanceMethod yX0_dropSurplus, Cond.selects RX0 yX0_dropSurplus yX0_dropSurplus, Cond.code yX0_dropSurplus cX0_dropSurplus 4 none, Cond.fieldLink RX0 55 "IdleDiscards$Device" "dropped" "I", Cond.methodLink RX0 69 yX0_countRangesAhead, Cond.instanceMethod yX0_countRangesAhead, Cond.selects RX0 yX0_countRangesAhead yX0_countRangesAhead, Cond.code yX0_countRangesAhead cX0_countRangesAhead 6 (some .int), Cond.methodLink RX0 73 yX0_shortestRange, Cond.instanceMethod yX0_shortestRange, Cond.selects RX0 yX0_shortestRange yX0_shortestRange]
def wsX0_sendAll_r3 : List Cond := [Cond.code yX0_shortestRange cX0_shortestRange 5 (some .int)]
def wsX0_sendAll : List Cond := .code yX0_sendAll cX0_sendAll 4 (some .int) :: ((wsX0_sendAll_r1 ++ (wsX0_sendAll_r2 ++ wsX0_sendAll_r3)) ++ wsX00)
def wsX1_init_r1 : List Cond := [Cond.methodLink RX1 3 objectInit, Cond.instanceMethod objectInit, Cond.code objectInit ⟨#[0xb1]⟩ 1 none, Cond.classLink RX1 9 RX0, Cond.fieldLink RX1 11 "IdleDiscards$Past" "states" "[LIdleDiscards$Device;", Cond.instantiable RX0 9, Cond.initialized RX0, Cond.methodLink RX1 17 yX0_init, Cond.instanceMethod yX0_init, Cond.code yX0_init cX0_init 1 none, Cond.methodLink RX0 3 objectInit, Cond.arrayClass .int, Cond.fieldLink RX0 9 "IdleDiscards$Device" "blocks" "[I", Cond.fieldLink RX0 15 "IdleDiscards$Device" "pinFirst" "[I", Cond.fieldLink RX0 18 "IdleDiscards$Device" "pinLength" "[I", Cond.fieldLink RX0 21 "IdleDiscards$Device" "settings" "[I", Cond.methodLink RX0 24 yX0_makeNew, Cond.instanceMethod yX0_makeNew, Cond.selects RX0 yX0_makeNew yX0_makeNew, Cond.code yX0_makeNew cX0_makeNew 1 none, Cond.methodLink RX0 36 arraycopyName, Cond.native arraycopyName, Cond.static arraycopyName, Cond.initialized "java/lang/System"]
def wsX1_init_r2 : List Cond := [Cond.fieldLink RX0 42 "IdleDiscards$Device" "time" "I", Cond.fieldLink RX0 46 "IdleDiscards$Device" "quiet" "I", Cond.fieldLink RX0 49 "IdleDiscards$Device" "commands" "I", Cond.fieldLink RX0 52 "IdleDiscards$Device" "discarded" "I", Cond.fieldLink RX0 55 "IdleDiscards$Device" "dropped" "I", Cond.methodLink RX0 27 yJ7_fill_53178, Cond.static yJ7_fill_53178, Cond.initialized RJ7, Cond.code yJ7_fill_53178 cJ7_fill_53178 4 none]
def wsX1_init : List Cond := .code yX1_init cX1_init 2 none :: ((wsX1_init_r1 ++ wsX1_init_r2) ++ wsX10 ++ wsX00)
def wsX1_size : List Cond := .code yX1_size cX1_size 1 (some .int) :: ([.fieldLink RX1 18 "IdleDiscards$Past" "size" "I"] ++ wsX10)
def wsX1_forget : List Cond := .code yX1_forget cX1_forget 1 none :: ([.fieldLink RX1 18 "IdleDiscards$Past" "size" "I"] ++ wsX10)
def wsX1_newest : List Cond := .code yX1_newest cX1_newest 1 (some .int) :: ([.fieldLink RX1 22 "IdleDiscards$Past" "oldest" "I", .fieldLink RX1 18 "IdleDiscards$Past" "size" "I"] ++ wsX10)
def wsX1_remember_r1 : List Cond := [Cond.fieldLink RX1 18 "IdleDiscards$Past" "size" "I", Cond.fieldLink RX1 22 "IdleDiscards$Past" "oldest" "I", Cond.fieldLink RX1 11 "IdleDiscards$Past" "states" "[LIdleDiscards$Device;", Cond.methodLink RX1 25 yX1_newest, Cond.instanceMethod yX1_newest, Cond.selects RX1 yX1_newest yX1_newest, Cond.initialized RX1, Cond.code yX1_newest cX1_newest 1 (some .int), Cond.methodLink RX1 29 yX0_copyFrom, Cond.instanceMethod yX0_copyFrom, Cond.selects RX0 yX0_copyFrom yX0_copyFrom, Cond.initialized RX0, Cond.code yX0_copyFrom cX0_copyFrom 2 none, Cond.fieldLink RX0 9 "IdleDiscards$Device" "blocks" "[I", Cond.methodLink RX0 36 arraycopyName, Cond.native arraycopyName, Cond.static arraycopyName, Cond.initialized "java/lang/System", Cond.fieldLink RX0 15 "IdleDiscards$Device" "pinFirst" "[I", Cond.fieldLink RX0 18 "IdleDiscards$Device" "pinLength" "[I", Cond.fieldLink RX0 21 "IdleDiscards$Device" "settings" "[I", Cond.fieldLink RX0 42 "IdleDiscards$Device" "time" "I", Cond.fieldLink RX0 46 "IdleDiscards$Device" "quiet" "I", Cond.fieldLink RX0 49 "IdleDiscards$Device" "commands" "I"]
def wsX1_remember_r2 : List Cond := [Cond.fieldLink RX0 52 "IdleDiscards$Device" "discarded" "I", Cond.fieldLink RX0 55 "IdleDiscards$Device" "dropped" "I"]
def wsX1_remember : List Cond := .code yX1_remember cX1_remember 2 none :: ((wsX1_remember_r1 ++ wsX1_remember_r2) ++ wsX10 ++ wsX00)
def wsX1_takeBack_r1 : List Cond := [Cond.fieldLink RX1 11 "IdleDiscards$Past" "states" "[LIdleDiscards$Device;", Cond.fieldLink RX1 18 "IdleDiscards$Past" "size" "I", Cond.methodLink RX1 25 yX1_newest, Cond.instanceMethod yX1_newest, Cond.selects RX1 yX1_newest yX1_newest, Cond.initialized RX1, Cond.code yX1_newest cX1_newest 1 (some .int), Cond.fieldLink RX1 22 "IdleDiscards$Past" "oldest" "I", Cond.methodLink RX1 29 yX0_copyFrom, Cond.instanceMethod yX0_copyFrom, Cond.selects RX0 yX0_copyFrom yX0_copyFrom, Cond.initialized RX0, Cond.code yX0_copyFrom cX0_copyFrom 2 none, Cond.fieldLink RX0 9 "IdleDiscards$Device" "blocks" "[I", Cond.methodLink RX0 36 arraycopyName, Cond.native arraycopyName, Cond.static arraycopyName, Cond.initialized "java/lang/System", Cond.fieldLink RX0 15 "IdleDiscards$Device" "pinFirst" "[I", Cond.fieldLink RX0 18 "IdleDiscards$Device" "pinLength" "[I", Cond.fieldLink RX0 21 "IdleDiscards$Device" "settings" "[I", Cond.fieldLink RX0 42 "IdleDiscards$Device" "time" "I", Cond.fieldLink RX0 46 "IdleDiscards$Device" "quiet" "I", Cond.fieldLink RX0 49 "IdleDiscards$Device" "commands" "I"]
def wsX1_takeBack_r2 : List Cond := [Cond.fieldLink RX0 52 "IdleDiscards$Device" "discarded" "I", Cond.fieldLink RX0 55 "IdleDiscards$Device" "dropped" "I"]
def wsX1_takeBack : List Cond := .code yX1_takeBack cX1_takeBack 2 none :: ((wsX1_takeBack_r1 ++ wsX1_takeBack_r2) ++ wsX10 ++ wsX00)
def wsX2_init : List Cond := .code yX2_init cX2_init 1 none :: ([.methodLink RX2 3 objectInit, .instanceMethod objectInit, .code objectInit ⟨#[0xb1]⟩ 1 none, .arrayClass .char, .fieldLink RX2 9 "IdleDiscards$Text" "chars" "[C", .arrayClass .int, .fieldLink RX2 15 "IdleDiscards$Text" "numbers" "[I"] ++ wsX20)
def wsX2_isFull : List Cond := .code yX2_isFull cX2_isFull 1 (some .boolean) :: ([.fieldLink RX2 19 "IdleDiscards$Text" "length" "I"] ++ wsX20)
def wsX2_add : List Cond := .code yX2_add cX2_add 2 (some .int) :: ([.fieldLink RX2 9 "IdleDiscards$Text" "chars" "[C", .fieldLink RX2 19 "IdleDiscards$Text" "length" "I"] ++ wsX20)
def wsX2_empty : List Cond := .code yX2_empty cX2_empty 2 (some .int) :: ([.fieldLink RX2 19 "IdleDiscards$Text" "length" "I"] ++ wsX20)
def wsX2_readNumber : List Cond := .code yX2_readNumber cX2_readNumber 8 (some .boolean) :: ([.fieldLink RX2 23 "IdleDiscards$Text" "at" "I", .fieldLink RX2 19 "IdleDiscards$Text" "length" "I", .fieldLink RX2 9 "IdleDiscards$Text" "chars" "[C", .fieldLink RX2 15 "IdleDiscards$Text" "numbers" "[I"] ++ wsX20)
def wsX2_readSpan : List Cond := .code yX2_readSpan cX2_readSpan 2 (some .boolean) :: ([.methodLink RX2 37 yX2_readNumber, .instanceMethod yX2_readNumber, .selects RX2 yX2_readNumber yX2_readNumber, .initialized RX2, .code yX2_readNumber cX2_readNumber 8 (some .boolean), .fieldLink RX2 23 "IdleDiscards$Text" "at" "I", .fieldLink RX2 19 "IdleDiscards$Text" "length" "I", .fieldLink RX2 9 "IdleDiscards$Text" "chars" "[C", .fieldLink RX2 15 "IdleDiscards$Text" "numbers" "[I"] ++ wsX20)
def wsX2_readCommand : List Cond := .code yX2_readCommand cX2_readCommand 1 (some .boolean) :: ([.fieldLink RX2 23 "IdleDiscards$Text" "at" "I", .fieldLink RX2 19 "IdleDiscards$Text" "length" "I", .fieldLink RX2 9 "IdleDiscards$Text" "chars" "[C", .fieldLink RX2 30 "IdleDiscards$Text" "letter" "I", .methodLink RX2 33 yX2_readSpan, .instanceMethod yX2_readSpan, .selects RX2 yX2_readSpan yX2_readSpan, .initialized RX2, .code yX2_readSpan cX2_readSpan 2 (some .boolean), .methodLink RX2 37 yX2_readNumber, .instanceMethod yX2_readNumber, .selects RX2 yX2_readNumber yX2_readNumber, .code yX2_readNumber cX2_readNumber 8 (some .boolean), .fieldLink RX2 15 "IdleDiscards$Text" "numbers" "[I"] ++ wsX20)
def wsX2_firstError : List Cond := .code yX2_firstError cX2_firstError 2 (some .int) :: ([.fieldLink RX2 19 "IdleDiscards$Text" "length" "I", .fieldLink RX2 9 "IdleDiscards$Text" "chars" "[C", .fieldLink RX2 23 "IdleDiscards$Text" "at" "I", .methodLink RX2 26 yX2_readCommand, .instanceMethod yX2_readCommand, .selects RX2 yX2_readCommand yX2_readCommand, .initialized RX2, .code yX2_readCommand cX2_readCommand 1 (some .boolean), .fieldLink RX2 30 "IdleDiscards$Text" "letter" "I", .methodLink RX2 33 yX2_readSpan, .instanceMethod yX2_readSpan, .selects RX2 yX2_readSpan yX2_readSpan, .code yX2_readSpan cX2_readSpan 2 (some .boolean), .methodLink RX2 37 yX2_readNumber, .instanceMethod yX2_readNumber, .selects RX2 yX2_readNumber yX2_readNumber, .code yX2_readNumber cX2_readNumber 8 (some .boolean), .fieldLink RX2 15 "IdleDiscards$Text" "numbers" "[I"] ++ wsX20)
def wsX2_beginCommands : List Cond := .code yX2_beginCommands cX2_beginCommands 1 none :: ([.fieldLink RX2 23 "IdleDiscards$Text" "at" "I"] ++ wsX20)
def wsX2_letter : List Cond := .code yX2_letter cX2_letter 1 (some .int) :: ([.fieldLink RX2 30 "IdleDiscards$Text" "letter" "I"] ++ wsX20)
def wsX2_number : List Cond := .code yX2_number cX2_number 2 (some .int) :: ([.fieldLink RX2 15 "IdleDiscards$Text" "numbers" "[I"] ++ wsX20)
def wsX3_init_r1 : List Cond := [Cond.methodLink RX3 1 objectInit, Cond.instanceMethod objectInit, Cond.code objectInit ⟨#[0xb1]⟩ 1 none, Cond.classLink RX3 7 RX2, Cond.instantiable RX2 5, Cond.initialized RX2, Cond.fieldLink RX3 10 "IdleDiscards" "text" "LIdleDiscards$Text;", Cond.classLink RX3 16 RX0, Cond.instantiable RX0 9, Cond.initialized RX0, Cond.fieldLink RX3 19 "IdleDiscards" "device" "LIdleDiscards$Device;", Cond.fieldLink RX3 23 "IdleDiscards" "copy" "LIdleDiscards$Device;", Cond.classLink RX3 26 RX1, Cond.instantiable RX1 3, Cond.initialized RX1, Cond.fieldLink RX3 29 "IdleDiscards" "past" "LIdleDiscards$Past;", Cond.fieldLink RX3 33 "IdleDiscards" "slots" "[LIdleDiscards$Device;", Cond.arrayClass .boolean, Cond.fieldLink RX3 37 "IdleDiscards" "slotUsed" "[Z", Cond.instanceMethod yX2_init, Cond.code yX2_init cX2_init 1 none, Cond.methodLink RX2 3 objectInit, Cond.arrayClass .char, Cond.fieldLink RX2 9 "IdleDiscards$Text" "chars" "[C"]
def wsX3_init_r2 : List Cond := [Cond.arrayClass .int, Cond.fieldLink RX2 15 "IdleDiscards$Text" "numbers" "[I", Cond.methodLink RX3 18 yX0_init, Cond.instanceMethod yX0_init, Cond.code yX0_init cX0_init 1 none, Cond.methodLink RX0 3 objectInit, Cond.fieldLink RX0 9 "IdleDiscards$Device" "blocks" "[I", Cond.fieldLink RX0 15 "IdleDiscards$Device" "pinFirst" "[I", Cond.fieldLink RX0 18 "IdleDiscards$Device" "pinLength" "[I", Cond.fieldLink RX0 21 "IdleDiscards$Device" "settings" "[I", Cond.methodLink RX0 24 yX0_makeNew, Cond.instanceMethod yX0_makeNew, Cond.selects RX0 yX0_makeNew yX0_makeNew, Cond.code yX0_makeNew cX0_makeNew 1 none, Cond.methodLink RX0 36 arraycopyName, Cond.native arraycopyName, Cond.static arraycopyName, Cond.initialized "java/lang/System", Cond.fieldLink RX0 42 "IdleDiscards$Device" "time" "I", Cond.fieldLink RX0 46 "IdleDiscards$Device" "quiet" "I", Cond.fieldLink RX0 49 "IdleDiscards$Device" "commands" "I", Cond.fieldLink RX0 52 "IdleDiscards$Device" "discarded" "I", Cond.fieldLink RX0 55 "IdleDiscards$Device" "dropped" "I", Cond.methodLink RX0 27 yJ7_fill_53178]
def wsX3_init_r3 : List Cond := [Cond.static yJ7_fill_53178, Cond.initialized RJ7, Cond.code yJ7_fill_53178 cJ7_fill_53178 4 none, Cond.methodLink RX3 28 yX1_init, Cond.instanceMethod yX1_init, Cond.code yX1_init cX1_init 2 none, Cond.methodLink RX1 3 objectInit, Cond.classLink RX1 9 RX0, Cond.fieldLink RX1 11 "IdleDiscards$Past" "states" "[LIdleDiscards$Device;", Cond.methodLink RX1 17 yX0_init]
def wsX3_init : List Cond := .code yX3_init cX3_init 2 none :: ((wsX3_init_r1 ++ (wsX3_init_r2 ++ wsX3_init_r3)) ++ wsX20 ++ wsX30 ++ wsX00 ++ wsX10)
def wsX3_append : List Cond := .code yX3_append cX3_append 2 (some .int) :: ([.classLink RX3 41 "java/lang/IllegalArgumentException", .initialized "java/lang/IllegalArgumentException", .classLink RX3 52 "java/lang/IllegalStateException", .initialized "java/lang/IllegalStateException", .fieldLink RX3 10 "IdleDiscards" "text" "LIdleDiscards$Text;", .methodLink RX3 48 yX2_isFull, .instanceMethod yX2_isFull, .selects RX2 yX2_isFull yX2_isFull, .initialized RX2, .code yX2_isFull cX2_isFull 1 (some .boolean), .fieldLink RX2 19 "IdleDiscards$Text" "length" "I", .methodLink RX3 57 yX2_add, .instanceMethod yX2_add, .selects RX2 yX2_add yX2_add, .code yX2_add cX2_add 2 (some .int), .fieldLink RX2 9 "IdleDiscards$Text" "chars" "[C"] ++ wsX30 ++ wsX20 ++ (vx_atS RX3 45 "java/lang/IllegalArgumentException" ["java/lang/RuntimeException", "java/lang/Exception"]).filter goodWord ++ (vx_atS RX3 56 "java/lang/IllegalStateException" ["java/lang/RuntimeException", "java/lang/Exception"]).filter goodWord)
def wsX3_clearText : List Cond := .code yX3_clearText cX3_clearText 1 (some .int) :: ([.fieldLink RX3 10 "IdleDiscards" "text" "LIdleDiscards$Text;", .methodLink RX3 61 yX2_empty, .instanceMethod yX2_empty, .selects RX2 yX2_empty yX2_empty, .initialized RX2, .code yX2_empty cX2_empty 2 (some .int), .fieldLink RX2 19 "IdleDiscards$Text" "length" "I"] ++ wsX30 ++ wsX20)
def wsX3_errorPosition : List Cond := .code yX3_errorPosition cX3_errorPosition 1 (some .int) :: ([.fieldLink RX3 10 "IdleDiscards" "text" "LIdleDiscards$Text;", .methodLink RX3 65 yX2_firstError, .instanceMethod yX2_firstError, .selects RX2 yX2_firstError yX2_firstError, .initialized RX2, .code yX2_firstError cX2_firstError 2 (some .int), .fieldLink RX2 19 "IdleDiscards$Text" "length" "I", .fieldLink RX2 9 "IdleDiscards$Text" "chars" "[C", .fieldLink RX2 23 "IdleDiscards$Text" "at" "I", .methodLink RX2 26 yX2_readCommand, .instanceMethod yX2_readCommand, .selects RX2 yX2_readCommand yX2_readCommand, .code yX2_readCommand cX2_readCommand 1 (some .boolean), .fieldLink RX2 30 "IdleDiscards$Text" "letter" "I", .methodLink RX2 33 yX2_readSpan, .instanceMethod yX2_readSpan, .selects RX2 yX2_readSpan yX2_readSpan, .code yX2_readSpan cX2_readSpan 2 (some .boolean), .methodLink RX2 37 yX2_readNumber, .instanceMethod yX2_readNumber, .selects RX2 yX2_readNumber yX2_readNumber, .code yX2_readNumber cX2_readNumber 8 (some .boolean), .fieldLink RX2 15 "IdleDiscards$Text" "numbers" "[I"] ++ wsX30 ++ wsX20)
def wsX3_isBlock : List Cond := .code yX3_isBlock cX3_isBlock 1 (some .boolean) :: ([])
def wsX3_isLength : List Cond := .code yX3_isLength cX3_isLength 1 (some .boolean) :: ([])
def wsX3_isSpan : List Cond := .code yX3_isSpan cX3_isSpan 2 (some .boolean) :: ([.methodLink RX3 294 yX3_isBlock, .static yX3_isBlock, .initialized RX3, .code yX3_isBlock cX3_isBlock 1 (some .boolean), .methodLink RX3 311 yX3_isLength, .static yX3_isLength, .code yX3_isLength cX3_isLength 1 (some .boolean)])
def wsX3_writeIfAllowed_r1 : List Cond := [Cond.methodLink RX3 318 yX3_isSpan, Cond.static yX3_isSpan, Cond.initialized RX3, Cond.code yX3_isSpan cX3_isSpan 2 (some .boolean), Cond.methodLink RX3 294 yX3_isBlock, Cond.static yX3_isBlock, Cond.code yX3_isBlock cX3_isBlock 1 (some .boolean), Cond.methodLink RX3 311 yX3_isLength, Cond.static yX3_isLength, Cond.code yX3_isLength cX3_isLength 1 (some .boolean), Cond.methodLink RX3 214 yX0_writeSpan, Cond.instanceMethod yX0_writeSpan, Cond.selects RX0 yX0_writeSpan yX0_writeSpan, Cond.initialized RX0, Cond.code yX0_writeSpan cX0_writeSpan 5 (some .int), Cond.fieldLink RX0 9 "IdleDiscards$Device" "blocks" "[I", Cond.fieldLink RX0 46 "IdleDiscards$Device" "quiet" "I", Cond.methodLink RX0 58 yX0_dropSurplus, Cond.instanceMethod yX0_dropSurplus, Cond.selects RX0 yX0_dropSurplus yX0_dropSurplus, Cond.code yX0_dropSurplus cX0_dropSurplus 4 none, Cond.fieldLink RX0 55 "IdleDiscards$Device" "dropped" "I", Cond.methodLink RX0 69 yX0_countRangesAhead, Cond.instanceMethod yX0_countRangesAhead]
def wsX3_writeIfAllowed_r2 : List Cond := [Cond.selects RX0 yX0_countRangesAhead yX0_countRangesAhead, Cond.code yX0_countRangesAhead cX0_countRangesAhead 6 (some .int), Cond.methodLink RX0 73 yX0_shortestRange, Cond.instanceMethod yX0_shortestRange, Cond.selects RX0 yX0_shortestRange yX0_shortestRange, Cond.code yX0_shortestRange cX0_shortestRange 5 (some .int)]
def wsX3_writeIfAllowed : List Cond := .code yX3_writeIfAllowed cX3_writeIfAllowed 3 (some .boolean) :: ((wsX3_writeIfAllowed_r1 ++ wsX3_writeIfAllowed_r2) ++ wsX00)
def wsX3_freeIfAllowed_r1 : List Cond := [Cond.methodLink RX3 318 yX3_isSpan, Cond.static yX3_isSpan, Cond.initialized RX3, Cond.code yX3_isSpan cX3_isSpan 2 (some .boolean), Cond.methodLink RX3 294 yX3_isBlock, Cond.static yX3_isBlock, Cond.code yX3_isBlock cX3_isBlock 1 (some .boolean), Cond.methodLink RX3 311 yX3_isLength, Cond.static yX3_isLength, Cond.code yX3_isLength cX3_isLength 1 (some .boolean), Cond.methodLink RX3 217 yX0_freeSpan, Cond.instanceMethod yX0_freeSpan, Cond.selects RX0 yX0_freeSpan yX0_freeSpan, Cond.initialized RX0, Cond.code yX0_freeSpan cX0_freeSpan 5 (some .int), Cond.fieldLink RX0 9 "IdleDiscards$Device" "blocks" "[I", Cond.fieldLink RX0 46 "IdleDiscards$Device" "quiet" "I", Cond.methodLink RX0 61 yX0_queueNow, Cond.instanceMethod yX0_queueNow, Cond.selects RX0 yX0_queueNow yX0_queueNow, Cond.code yX0_queueNow cX0_queueNow 3 none, Cond.fieldLink RX0 42 "IdleDiscards$Device" "time" "I", Cond.methodLink RX0 58 yX0_dropSurplus, Cond.instanceMethod yX0_dropSurplus]
def wsX3_freeIfAllowed_r2 : List Cond := [Cond.selects RX0 yX0_dropSurplus yX0_dropSurplus, Cond.code yX0_dropSurplus cX0_dropSurplus 4 none, Cond.fieldLink RX0 55 "IdleDiscards$Device" "dropped" "I", Cond.methodLink RX0 69 yX0_countRangesAhead, Cond.instanceMethod yX0_countRangesAhead, Cond.selects RX0 yX0_countRangesAhead yX0_countRangesAhead, Cond.code yX0_countRangesAhead cX0_countRangesAhead 6 (some .int), Cond.methodLink RX0 73 yX0_shortestRange, Cond.instanceMethod yX0_shortestRange, Cond.selects RX0 yX0_shortestRange yX0_shortestRange, Cond.code yX0_shortestRange cX0_shortestRange 5 (some .int)]
def wsX3_freeIfAllowed : List Cond := .code yX3_freeIfAllowed cX3_freeIfAllowed 3 (some .boolean) :: ((wsX3_freeIfAllowed_r1 ++ wsX3_freeIfAllowed_r2) ++ wsX00)
def wsX3_isPin : List Cond := .code yX3_isPin cX3_isPin 1 (some .boolean) :: ([])
def wsX3_pinIfAllowed : List Cond := .code yX3_pinIfAllowed cX3_pinIfAllowed 4 (some .boolean) :: ([.methodLink RX3 323 yX3_isPin, .static yX3_isPin, .initialized RX3, .code yX3_isPin cX3_isPin 1 (some .boolean), .methodLink RX3 318 yX3_isSpan, .static yX3_isSpan, .code yX3_isSpan cX3_isSpan 2 (some .boolean), .methodLink RX3 294 yX3_isBlock, .static yX3_isBlock, .code yX3_isBlock cX3_isBlock 1 (some .boolean), .methodLink RX3 311 yX3_isLength, .static yX3_isLength, .code yX3_isLength cX3_isLength 1 (some .boolean), .methodLink RX3 220 yX0_pinSpan, .instanceMethod yX0_pinSpan, .selects RX0 yX0_pinSpan yX0_pinSpan, .initialized RX0, .code yX0_pinSpan cX0_pinSpan 4 none, .fieldLink RX0 15 "IdleDiscards$Device" "pinFirst" "[I", .fieldLink RX0 18 "IdleDiscards$Device" "pinLength" "[I"] ++ wsX00)
def wsX3_isSetting : List Cond := .code yX3_isSetting cX3_isSetting 1 (some .boolean) :: ([])
def wsX3_isValue : List Cond := .code yX3_isValue cX3_isValue 2 (some .boolean) :: ([.fieldLink RX3 273 "IdleDiscards" "GREATEST_SETTINGS" "[I", .methodLink RX3 198 yX3_isSetting, .static yX3_isSetting, .initialized RX3, .code yX3_isSetting cX3_isSetting 1 (some .boolean)])
def wsX3_setIfAllowed : List Cond := .code yX3_setIfAllowed cX3_setIfAllowed 3 (some .boolean) :: ([.methodLink RX3 232 yX3_isValue, .static yX3_isValue, .initialized RX3, .code yX3_isValue cX3_isValue 2 (some .boolean), .fieldLink RX3 273 "IdleDiscards" "GREATEST_SETTINGS" "[I", .methodLink RX3 198 yX3_isSetting, .static yX3_isSetting, .code yX3_isSetting cX3_isSetting 1 (some .boolean), .methodLink RX3 237 yX0_changeSetting, .instanceMethod yX0_changeSetting, .selects RX0 yX0_changeSetting yX0_changeSetting, .initialized RX0, .code yX0_changeSetting cX0_changeSetting 3 none, .fieldLink RX0 21 "IdleDiscards$Device" "settings" "[I"] ++ wsX00)
def wsX3_doTextCommand_r1 : List Cond := [Cond.fieldLink RX3 10 "IdleDiscards" "text" "LIdleDiscards$Text;", Cond.fieldLink RX3 19 "IdleDiscards" "device" "LIdleDiscards$Device;", Cond.methodLink RX3 85 yX2_number, Cond.instanceMethod yX2_number, Cond.selects RX2 yX2_number yX2_number, Cond.initialized RX2, Cond.code yX2_number cX2_number 2 (some .int), Cond.fieldLink RX2 15 "IdleDiscards$Text" "numbers" "[I", Cond.methodLink RX3 89 yX2_letter, Cond.instanceMethod yX2_letter, Cond.selects RX2 yX2_letter yX2_letter, Cond.code yX2_letter cX2_letter 1 (some .int), Cond.fieldLink RX2 30 "IdleDiscards$Text" "letter" "I", Cond.methodLink RX3 92 yX3_writeIfAllowed, Cond.static yX3_writeIfAllowed, Cond.initialized RX3, Cond.code yX3_writeIfAllowed cX3_writeIfAllowed 3 (some .boolean), Cond.methodLink RX3 318 yX3_isSpan, Cond.static yX3_isSpan, Cond.code yX3_isSpan cX3_isSpan 2 (some .boolean), Cond.methodLink RX3 294 yX3_isBlock, Cond.static yX3_isBlock, Cond.code yX3_isBlock cX3_isBlock 1 (some .boolean), Cond.methodLink RX3 311 yX3_isLength]
def wsX3_doTextCommand_r2 : List Cond := [Cond.static yX3_isLength, Cond.code yX3_isLength cX3_isLength 1 (some .boolean), Cond.methodLink RX3 214 yX0_writeSpan, Cond.instanceMethod yX0_writeSpan, Cond.selects RX0 yX0_writeSpan yX0_writeSpan, Cond.initialized RX0, Cond.code yX0_writeSpan cX0_writeSpan 5 (some .int), Cond.fieldLink RX0 9 "IdleDiscards$Device" "blocks" "[I", Cond.fieldLink RX0 46 "IdleDiscards$Device" "quiet" "I", Cond.methodLink RX0 58 yX0_dropSurplus, Cond.instanceMethod yX0_dropSurplus, Cond.selects RX0 yX0_dropSurplus yX0_dropSurplus, Cond.code yX0_dropSurplus cX0_dropSurplus 4 none, Cond.fieldLink RX0 55 "IdleDiscards$Device" "dropped" "I", Cond.methodLink RX0 69 yX0_countRangesAhead, Cond.instanceMethod yX0_countRangesAhead, Cond.selects RX0 yX0_countRangesAhead yX0_countRangesAhead, Cond.code yX0_countRangesAhead cX0_countRangesAhead 6 (some .int), Cond.methodLink RX0 73 yX0_shortestRange, Cond.instanceMethod yX0_shortestRange, Cond.selects RX0 yX0_shortestRange yX0_shortestRange, Cond.code yX0_shortestRange cX0_shortestRange 5 (some .int), Cond.methodLink RX3 96 yX3_freeIfAllowed, Cond.static yX3_freeIfAllowed]
def wsX3_doTextCommand_r3 : List Cond := [Cond.code yX3_freeIfAllowed cX3_freeIfAllowed 3 (some .boolean), Cond.methodLink RX3 217 yX0_freeSpan, Cond.instanceMethod yX0_freeSpan, Cond.selects RX0 yX0_freeSpan yX0_freeSpan, Cond.code yX0_freeSpan cX0_freeSpan 5 (some .int), Cond.methodLink RX0 61 yX0_queueNow, Cond.instanceMethod yX0_queueNow, Cond.selects RX0 yX0_queueNow yX0_queueNow, Cond.code yX0_queueNow cX0_queueNow 3 none, Cond.fieldLink RX0 42 "IdleDiscards$Device" "time" "I", Cond.methodLink RX3 99 yX0_passTicks, Cond.instanceMethod yX0_passTicks, Cond.selects RX0 yX0_passTicks yX0_passTicks, Cond.code yX0_passTicks cX0_passTicks 4 (some .int), Cond.fieldLink RX0 52 "IdleDiscards$Device" "discarded" "I", Cond.methodLink RX0 90 yX0_tick, Cond.instanceMethod yX0_tick, Cond.selects RX0 yX0_tick yX0_tick, Cond.code yX0_tick cX0_tick 5 none, Cond.fieldLink RX0 21 "IdleDiscards$Device" "settings" "[I", Cond.methodLink RX0 93 yX0_budgetOfTick, Cond.instanceMethod yX0_budgetOfTick, Cond.selects RX0 yX0_budgetOfTick yX0_budgetOfTick, Cond.code yX0_budgetOfTick cX0_budgetOfTick 1 (some .int)]
def wsX3_doTextCommand_r4 : List Cond := [Cond.methodLink RX0 96 yX0_choosePiece, Cond.instanceMethod yX0_choosePiece, Cond.selects RX0 yX0_choosePiece yX0_choosePiece, Cond.code yX0_choosePiece cX0_choosePiece 10 (some .int), Cond.methodLink RX0 87 yX0_isDue, Cond.instanceMethod yX0_isDue, Cond.selects RX0 yX0_isDue yX0_isDue, Cond.code yX0_isDue cX0_isDue 2 (some .boolean), Cond.methodLink RX0 83 yX0_isFree, Cond.instanceMethod yX0_isFree, Cond.selects RX0 yX0_isFree yX0_isFree, Cond.code yX0_isFree cX0_isFree 5 (some .boolean), Cond.methodLink RX0 77 yX0_granuleSize, Cond.instanceMethod yX0_granuleSize, Cond.selects RX0 yX0_granuleSize yX0_granuleSize, Cond.code yX0_granuleSize cX0_granuleSize 1 (some .int), Cond.methodLink RX0 65 yX0_isAnyPinned, Cond.instanceMethod yX0_isAnyPinned, Cond.selects RX0 yX0_isAnyPinned yX0_isAnyPinned, Cond.code yX0_isAnyPinned cX0_isAnyPinned 4 (some .boolean), Cond.fieldLink RX0 18 "IdleDiscards$Device" "pinLength" "[I", Cond.fieldLink RX0 15 "IdleDiscards$Device" "pinFirst" "[I", Cond.methodLink RX0 100 yX0_mostGranules, Cond.instanceMethod yX0_mostGranules]
def wsX3_doTextCommand_r5 : List Cond := [Cond.selects RX0 yX0_mostGranules yX0_mostGranules, Cond.code yX0_mostGranules cX0_mostGranules 2 (some .int), Cond.methodLink RX0 111 Lib.Math.min.name, Cond.static Lib.Math.min.name, Cond.initialized "java/lang/Math", Cond.code Lib.Math.min.name Lib.Math.min.code 2 (some .int), Cond.methodLink RX0 103 yX0_granulesFrom, Cond.instanceMethod yX0_granulesFrom, Cond.selects RX0 yX0_granulesFrom yX0_granulesFrom, Cond.code yX0_granulesFrom cX0_granulesFrom 4 (some .int), Cond.methodLink RX0 107 yX0_discard, Cond.instanceMethod yX0_discard, Cond.selects RX0 yX0_discard yX0_discard, Cond.code yX0_discard cX0_discard 6 none, Cond.fieldLink RX0 49 "IdleDiscards$Device" "commands" "I", Cond.methodLink RX3 102 yX3_pinIfAllowed, Cond.static yX3_pinIfAllowed, Cond.code yX3_pinIfAllowed cX3_pinIfAllowed 4 (some .boolean), Cond.methodLink RX3 323 yX3_isPin, Cond.static yX3_isPin, Cond.code yX3_isPin cX3_isPin 1 (some .boolean), Cond.methodLink RX3 220 yX0_pinSpan, Cond.instanceMethod yX0_pinSpan, Cond.selects RX0 yX0_pinSpan yX0_pinSpan]
def wsX3_doTextCommand_r6 : List Cond := [Cond.code yX0_pinSpan cX0_pinSpan 4 none, Cond.methodLink RX3 106 yX3_setIfAllowed, Cond.static yX3_setIfAllowed, Cond.code yX3_setIfAllowed cX3_setIfAllowed 3 (some .boolean), Cond.methodLink RX3 232 yX3_isValue, Cond.static yX3_isValue, Cond.code yX3_isValue cX3_isValue 2 (some .boolean), Cond.fieldLink RX3 273 "IdleDiscards" "GREATEST_SETTINGS" "[I", Cond.methodLink RX3 198 yX3_isSetting, Cond.static yX3_isSetting, Cond.code yX3_isSetting cX3_isSetting 1 (some .boolean), Cond.methodLink RX3 237 yX0_changeSetting, Cond.instanceMethod yX0_changeSetting, Cond.selects RX0 yX0_changeSetting yX0_changeSetting, Cond.code yX0_changeSetting cX0_changeSetting 3 none]
def wsX3_doTextCommand : List Cond := .code yX3_doTextCommand cX3_doTextCommand 3 (some .boolean) :: ((wsX3_doTextCommand_r1 ++ (wsX3_doTextCommand_r2 ++ (wsX3_doTextCommand_r3 ++ (wsX3_doTextCommand_r4 ++ (wsX3_doTextCommand_r5 ++ wsX3_doTextCommand_r6))))) ++ wsX30 ++ wsX20 ++ wsX00)
def wsX3_load_r1 : List Cond := [Cond.classLink RX3 52 "java/lang/IllegalStateException", Cond.initialized "java/lang/IllegalStateException", Cond.fieldLink RX3 10 "IdleDiscards" "text" "LIdleDiscards$Text;", Cond.fieldLink RX3 19 "IdleDiscards" "device" "LIdleDiscards$Device;", Cond.fieldLink RX3 29 "IdleDiscards" "past" "LIdleDiscards$Past;", Cond.fieldLink RX3 37 "IdleDiscards" "slotUsed" "[Z", Cond.methodLink RX3 65 yX2_firstError, Cond.instanceMethod yX2_firstError, Cond.selects RX2 yX2_firstError yX2_firstError, Cond.initialized RX2, Cond.code yX2_firstError cX2_firstError 2 (some .int), Cond.fieldLink RX2 19 "IdleDiscards$Text" "length" "I", Cond.fieldLink RX2 9 "IdleDiscards$Text" "chars" "[C", Cond.fieldLink RX2 23 "IdleDiscards$Text" "at" "I", Cond.methodLink RX2 26 yX2_readCommand, Cond.instanceMethod yX2_readCommand, Cond.selects RX2 yX2_readCommand yX2_readCommand, Cond.code yX2_readCommand cX2_readCommand 1 (some .boolean), Cond.fieldLink RX2 30 "IdleDiscards$Text" "letter" "I", Cond.methodLink RX2 33 yX2_readSpan, Cond.instanceMethod yX2_readSpan, Cond.selects RX2 yX2_readSpan yX2_readSpan, Cond.code yX2_readSpan cX2_readSpan 2 (some .boolean), Cond.methodLink RX2 37 yX2_readNumber]
def wsX3_load_r2 : List Cond := [Cond.instanceMethod yX2_readNumber, Cond.selects RX2 yX2_readNumber yX2_readNumber, Cond.code yX2_readNumber cX2_readNumber 8 (some .boolean), Cond.fieldLink RX2 15 "IdleDiscards$Text" "numbers" "[I", Cond.methodLink RX3 70 yX0_makeNew, Cond.instanceMethod yX0_makeNew, Cond.selects RX0 yX0_makeNew yX0_makeNew, Cond.initialized RX0, Cond.code yX0_makeNew cX0_makeNew 1 none, Cond.fieldLink RX0 9 "IdleDiscards$Device" "blocks" "[I", Cond.fieldLink RX0 15 "IdleDiscards$Device" "pinFirst" "[I", Cond.fieldLink RX0 18 "IdleDiscards$Device" "pinLength" "[I", Cond.fieldLink RX0 21 "IdleDiscards$Device" "settings" "[I", Cond.methodLink RX0 36 arraycopyName, Cond.native arraycopyName, Cond.static arraycopyName, Cond.initialized "java/lang/System", Cond.fieldLink RX0 42 "IdleDiscards$Device" "time" "I", Cond.fieldLink RX0 46 "IdleDiscards$Device" "quiet" "I", Cond.fieldLink RX0 49 "IdleDiscards$Device" "commands" "I", Cond.fieldLink RX0 52 "IdleDiscards$Device" "discarded" "I", Cond.fieldLink RX0 55 "IdleDiscards$Device" "dropped" "I", Cond.methodLink RX0 27 yJ7_fill_53178, Cond.static yJ7_fill_53178]
def wsX3_load_r3 : List Cond := [Cond.initialized RJ7, Cond.code yJ7_fill_53178 cJ7_fill_53178 4 none, Cond.methodLink RX3 73 yX1_forget, Cond.instanceMethod yX1_forget, Cond.selects RX1 yX1_forget yX1_forget, Cond.initialized RX1, Cond.code yX1_forget cX1_forget 1 none, Cond.fieldLink RX1 18 "IdleDiscards$Past" "size" "I", Cond.methodLink RX3 76 yX2_beginCommands, Cond.instanceMethod yX2_beginCommands, Cond.selects RX2 yX2_beginCommands yX2_beginCommands, Cond.code yX2_beginCommands cX2_beginCommands 1 none, Cond.methodLink RX3 79 yX2_readCommand, Cond.methodLink RX3 82 yX3_doTextCommand, Cond.instanceMethod yX3_doTextCommand, Cond.selects RX3 yX3_doTextCommand yX3_doTextCommand, Cond.initialized RX3, Cond.code yX3_doTextCommand cX3_doTextCommand 3 (some .boolean), Cond.methodLink RX3 85 yX2_number, Cond.instanceMethod yX2_number, Cond.selects RX2 yX2_number yX2_number, Cond.code yX2_number cX2_number 2 (some .int), Cond.methodLink RX3 89 yX2_letter, Cond.instanceMethod yX2_letter]
def wsX3_load_r4 : List Cond := [Cond.selects RX2 yX2_letter yX2_letter, Cond.code yX2_letter cX2_letter 1 (some .int), Cond.methodLink RX3 92 yX3_writeIfAllowed, Cond.static yX3_writeIfAllowed, Cond.code yX3_writeIfAllowed cX3_writeIfAllowed 3 (some .boolean), Cond.methodLink RX3 318 yX3_isSpan, Cond.static yX3_isSpan, Cond.code yX3_isSpan cX3_isSpan 2 (some .boolean), Cond.methodLink RX3 294 yX3_isBlock, Cond.static yX3_isBlock, Cond.code yX3_isBlock cX3_isBlock 1 (some .boolean), Cond.methodLink RX3 311 yX3_isLength, Cond.static yX3_isLength, Cond.code yX3_isLength cX3_isLength 1 (some .boolean), Cond.methodLink RX3 214 yX0_writeSpan, Cond.instanceMethod yX0_writeSpan, Cond.selects RX0 yX0_writeSpan yX0_writeSpan, Cond.code yX0_writeSpan cX0_writeSpan 5 (some .int), Cond.methodLink RX0 58 yX0_dropSurplus, Cond.instanceMethod yX0_dropSurplus, Cond.selects RX0 yX0_dropSurplus yX0_dropSurplus, Cond.code yX0_dropSurplus cX0_dropSurplus 4 none, Cond.methodLink RX0 69 yX0_countRangesAhead, Cond.instanceMethod yX0_countRangesAhead]
def wsX3_load_r5 : List Cond := [Cond.selects RX0 yX0_countRangesAhead yX0_countRangesAhead, Cond.code yX0_countRangesAhead cX0_countRangesAhead 6 (some .int), Cond.methodLink RX0 73 yX0_shortestRange, Cond.instanceMethod yX0_shortestRange, Cond.selects RX0 yX0_shortestRange yX0_shortestRange, Cond.code yX0_shortestRange cX0_shortestRange 5 (some .int), Cond.methodLink RX3 96 yX3_freeIfAllowed, Cond.static yX3_freeIfAllowed, Cond.code yX3_freeIfAllowed cX3_freeIfAllowed 3 (some .boolean), Cond.methodLink RX3 217 yX0_freeSpan, Cond.instanceMethod yX0_freeSpan, Cond.selects RX0 yX0_freeSpan yX0_freeSpan, Cond.code yX0_freeSpan cX0_freeSpan 5 (some .int), Cond.methodLink RX0 61 yX0_queueNow, Cond.instanceMethod yX0_queueNow, Cond.selects RX0 yX0_queueNow yX0_queueNow, Cond.code yX0_queueNow cX0_queueNow 3 none, Cond.methodLink RX3 99 yX0_passTicks, Cond.instanceMethod yX0_passTicks, Cond.selects RX0 yX0_passTicks yX0_passTicks, Cond.code yX0_passTicks cX0_passTicks 4 (some .int), Cond.methodLink RX0 90 yX0_tick, Cond.instanceMethod yX0_tick, Cond.selects RX0 yX0_tick yX0_tick]
def wsX3_load_r6 : List Cond := [Cond.code yX0_tick cX0_tick 5 none, Cond.methodLink RX0 93 yX0_budgetOfTick, Cond.instanceMethod yX0_budgetOfTick, Cond.selects RX0 yX0_budgetOfTick yX0_budgetOfTick, Cond.code yX0_budgetOfTick cX0_budgetOfTick 1 (some .int), Cond.methodLink RX0 96 yX0_choosePiece, Cond.instanceMethod yX0_choosePiece, Cond.selects RX0 yX0_choosePiece yX0_choosePiece, Cond.code yX0_choosePiece cX0_choosePiece 10 (some .int), Cond.methodLink RX0 87 yX0_isDue, Cond.instanceMethod yX0_isDue, Cond.selects RX0 yX0_isDue yX0_isDue, Cond.code yX0_isDue cX0_isDue 2 (some .boolean), Cond.methodLink RX0 83 yX0_isFree, Cond.instanceMethod yX0_isFree, Cond.selects RX0 yX0_isFree yX0_isFree, Cond.code yX0_isFree cX0_isFree 5 (some .boolean), Cond.methodLink RX0 77 yX0_granuleSize, Cond.instanceMethod yX0_granuleSize, Cond.selects RX0 yX0_granuleSize yX0_granuleSize, Cond.code yX0_granuleSize cX0_granuleSize 1 (some .int), Cond.methodLink RX0 65 yX0_isAnyPinned, Cond.instanceMethod yX0_isAnyPinned, Cond.selects RX0 yX0_isAnyPinned yX0_isAnyPinned]
def wsX3_load_r7 : List Cond := [Cond.code yX0_isAnyPinned cX0_isAnyPinned 4 (some .boolean), Cond.methodLink RX0 100 yX0_mostGranules, Cond.instanceMethod yX0_mostGranules, Cond.selects RX0 yX0_mostGranules yX0_mostGranules, Cond.code yX0_mostGranules cX0_mostGranules 2 (some .int), Cond.methodLink RX0 111 Lib.Math.min.name, Cond.static Lib.Math.min.name, Cond.initialized "java/lang/Math", Cond.code Lib.Math.min.name Lib.Math.min.code 2 (some .int), Cond.methodLink RX0 103 yX0_granulesFrom, Cond.instanceMethod yX0_granulesFrom, Cond.selects RX0 yX0_granulesFrom yX0_granulesFrom, Cond.code yX0_granulesFrom cX0_granulesFrom 4 (some .int), Cond.methodLink RX0 107 yX0_discard, Cond.instanceMethod yX0_discard, Cond.selects RX0 yX0_discard yX0_discard, Cond.code yX0_discard cX0_discard 6 none, Cond.methodLink RX3 102 yX3_pinIfAllowed, Cond.static yX3_pinIfAllowed, Cond.code yX3_pinIfAllowed cX3_pinIfAllowed 4 (some .boolean), Cond.methodLink RX3 323 yX3_isPin, Cond.static yX3_isPin, Cond.code yX3_isPin cX3_isPin 1 (some .boolean), Cond.methodLink RX3 220 yX0_pinSpan]
def wsX3_load_r8 : List Cond := [Cond.instanceMethod yX0_pinSpan, Cond.selects RX0 yX0_pinSpan yX0_pinSpan, Cond.code yX0_pinSpan cX0_pinSpan 4 none, Cond.methodLink RX3 106 yX3_setIfAllowed, Cond.static yX3_setIfAllowed, Cond.code yX3_setIfAllowed cX3_setIfAllowed 3 (some .boolean), Cond.methodLink RX3 232 yX3_isValue, Cond.static yX3_isValue, Cond.code yX3_isValue cX3_isValue 2 (some .boolean), Cond.fieldLink RX3 273 "IdleDiscards" "GREATEST_SETTINGS" "[I", Cond.methodLink RX3 198 yX3_isSetting, Cond.static yX3_isSetting, Cond.code yX3_isSetting cX3_isSetting 1 (some .boolean), Cond.methodLink RX3 237 yX0_changeSetting, Cond.instanceMethod yX0_changeSetting, Cond.selects RX0 yX0_changeSetting yX0_changeSetting, Cond.code yX0_changeSetting cX0_changeSetting 3 none]
def wsX3_load : List Cond := .code yX3_load cX3_load 3 (some .int) :: ((wsX3_load_r1 ++ (wsX3_load_r2 ++ (wsX3_load_r3 ++ (wsX3_load_r4 ++ (wsX3_load_r5 ++ (wsX3_load_r6 ++ (wsX3_load_r7 ++ wsX3_load_r8))))))) ++ wsX30 ++ wsX20 ++ wsX00 ++ wsX10 ++ (vx_atS RX3 56 "java/lang/IllegalStateException" ["java/lang/RuntimeException", "java/lang/Exception"]).filter goodWord)
def wsX3_about_r1 : List Cond := [Cond.classLink RX3 41 "java/lang/IllegalArgumentException", Cond.initialized "java/lang/IllegalArgumentException", Cond.fieldLink RX3 19 "IdleDiscards" "device" "LIdleDiscards$Device;", Cond.methodLink RX3 109 yX0_count, Cond.instanceMethod yX0_count, Cond.selects RX0 yX0_count yX0_count, Cond.initialized RX0, Cond.code yX0_count cX0_count 4 (some .int), Cond.fieldLink RX0 9 "IdleDiscards$Device" "blocks" "[I", Cond.methodLink RX3 112 yX0_countRanges, Cond.instanceMethod yX0_countRanges, Cond.selects RX0 yX0_countRanges yX0_countRanges, Cond.code yX0_countRanges cX0_countRanges 1 (some .int), Cond.methodLink RX0 69 yX0_countRangesAhead, Cond.instanceMethod yX0_countRangesAhead, Cond.selects RX0 yX0_countRangesAhead yX0_countRangesAhead, Cond.code yX0_countRangesAhead cX0_countRangesAhead 6 (some .int), Cond.methodLink RX3 115 yX0_countQueued, Cond.instanceMethod yX0_countQueued, Cond.selects RX0 yX0_countQueued yX0_countQueued, Cond.code yX0_countQueued cX0_countQueued 3 (some .int), Cond.methodLink RX3 118 yX0_time, Cond.instanceMethod yX0_time, Cond.selects RX0 yX0_time yX0_time]
def wsX3_about_r2 : List Cond := [Cond.code yX0_time cX0_time 1 (some .int), Cond.fieldLink RX0 42 "IdleDiscards$Device" "time" "I", Cond.methodLink RX3 121 yX0_quietTicks, Cond.instanceMethod yX0_quietTicks, Cond.selects RX0 yX0_quietTicks yX0_quietTicks, Cond.code yX0_quietTicks cX0_quietTicks 1 (some .int), Cond.fieldLink RX0 46 "IdleDiscards$Device" "quiet" "I", Cond.methodLink RX3 124 yX0_commands, Cond.instanceMethod yX0_commands, Cond.selects RX0 yX0_commands yX0_commands, Cond.code yX0_commands cX0_commands 1 (some .int), Cond.fieldLink RX0 49 "IdleDiscards$Device" "commands" "I", Cond.methodLink RX3 127 yX0_discarded, Cond.instanceMethod yX0_discarded, Cond.selects RX0 yX0_discarded yX0_discarded, Cond.code yX0_discarded cX0_discarded 1 (some .int), Cond.fieldLink RX0 52 "IdleDiscards$Device" "discarded" "I", Cond.methodLink RX3 130 yX0_dropped, Cond.instanceMethod yX0_dropped, Cond.selects RX0 yX0_dropped yX0_dropped, Cond.code yX0_dropped cX0_dropped 1 (some .int), Cond.fieldLink RX0 55 "IdleDiscards$Device" "dropped" "I", Cond.methodLink RX3 133 yX0_countPinned, Cond.instanceMethod yX0_countPinned]
def wsX3_about_r3 : List Cond := [Cond.selects RX0 yX0_countPinned yX0_countPinned, Cond.code yX0_countPinned cX0_countPinned 3 (some .int), Cond.methodLink RX0 65 yX0_isAnyPinned, Cond.instanceMethod yX0_isAnyPinned, Cond.selects RX0 yX0_isAnyPinned yX0_isAnyPinned, Cond.code yX0_isAnyPinned cX0_isAnyPinned 4 (some .boolean), Cond.fieldLink RX0 18 "IdleDiscards$Device" "pinLength" "[I", Cond.fieldLink RX0 15 "IdleDiscards$Device" "pinFirst" "[I"]
def wsX3_about : List Cond := .code yX3_about cX3_about 2 (some .int) :: ((wsX3_about_r1 ++ (wsX3_about_r2 ++ wsX3_about_r3)) ++ wsX30 ++ wsX00 ++ (vx_atS RX3 45 "java/lang/IllegalArgumentException" ["java/lang/RuntimeException", "java/lang/Exception"]).filter goodWord)
def wsX3_checkBlock : List Cond := .code yX3_checkBlock cX3_checkBlock 1 none :: ([.classLink RX3 158 "java/lang/IndexOutOfBoundsException", .initialized "java/lang/IndexOutOfBoundsException", .methodLink RX3 294 yX3_isBlock, .static yX3_isBlock, .initialized RX3, .code yX3_isBlock cX3_isBlock 1 (some .boolean)] ++ (vx_atS RX3 162 "java/lang/IndexOutOfBoundsException" ["java/lang/RuntimeException", "java/lang/Exception"]).filter goodWord)
def wsX3_block_r1 : List Cond := [Cond.classLink RX3 41 "java/lang/IllegalArgumentException", Cond.initialized "java/lang/IllegalArgumentException", Cond.fieldLink RX3 19 "IdleDiscards" "device" "LIdleDiscards$Device;", Cond.methodLink RX3 138 yX3_checkBlock, Cond.static yX3_checkBlock, Cond.initialized RX3, Cond.code yX3_checkBlock cX3_checkBlock 1 none, Cond.classLink RX3 158 "java/lang/IndexOutOfBoundsException", Cond.initialized "java/lang/IndexOutOfBoundsException", Cond.methodLink RX3 294 yX3_isBlock, Cond.static yX3_isBlock, Cond.code yX3_isBlock cX3_isBlock 1 (some .boolean), Cond.methodLink RX3 142 yX0_isAlive, Cond.instanceMethod yX0_isAlive, Cond.selects RX0 yX0_isAlive yX0_isAlive, Cond.initialized RX0, Cond.code yX0_isAlive cX0_isAlive 2 (some .boolean), Cond.fieldLink RX0 9 "IdleDiscards$Device" "blocks" "[I", Cond.methodLink RX3 146 yX0_isHeld, Cond.instanceMethod yX0_isHeld, Cond.selects RX0 yX0_isHeld yX0_isHeld, Cond.code yX0_isHeld cX0_isHeld 2 (some .boolean), Cond.methodLink RX3 149 yX0_rangeOf, Cond.instanceMethod yX0_rangeOf]
def wsX3_block_r2 : List Cond := [Cond.selects RX0 yX0_rangeOf yX0_rangeOf, Cond.code yX0_rangeOf cX0_rangeOf 2 (some .int), Cond.methodLink RX0 69 yX0_countRangesAhead, Cond.instanceMethod yX0_countRangesAhead, Cond.selects RX0 yX0_countRangesAhead yX0_countRangesAhead, Cond.code yX0_countRangesAhead cX0_countRangesAhead 6 (some .int), Cond.methodLink RX3 152 yX0_isAnyPinned, Cond.instanceMethod yX0_isAnyPinned, Cond.selects RX0 yX0_isAnyPinned yX0_isAnyPinned, Cond.code yX0_isAnyPinned cX0_isAnyPinned 4 (some .boolean), Cond.fieldLink RX0 18 "IdleDiscards$Device" "pinLength" "[I", Cond.fieldLink RX0 15 "IdleDiscards$Device" "pinFirst" "[I"]
def wsX3_block : List Cond := .code yX3_block cX3_block 3 (some .int) :: ((wsX3_block_r1 ++ wsX3_block_r2) ++ wsX30 ++ wsX00 ++ (vx_atS RX3 45 "java/lang/IllegalArgumentException" ["java/lang/RuntimeException", "java/lang/Exception"]).filter goodWord ++ (vx_atS RX3 162 "java/lang/IndexOutOfBoundsException" ["java/lang/RuntimeException", "java/lang/Exception"]).filter goodWord)
def wsX3_range_r1 : List Cond := [Cond.classLink RX3 158 "java/lang/IndexOutOfBoundsException", Cond.initialized "java/lang/IndexOutOfBoundsException", Cond.classLink RX3 41 "java/lang/IllegalArgumentException", Cond.initialized "java/lang/IllegalArgumentException", Cond.fieldLink RX3 19 "IdleDiscards" "device" "LIdleDiscards$Device;", Cond.methodLink RX3 112 yX0_countRanges, Cond.instanceMethod yX0_countRanges, Cond.selects RX0 yX0_countRanges yX0_countRanges, Cond.initialized RX0, Cond.code yX0_countRanges cX0_countRanges 1 (some .int), Cond.methodLink RX0 69 yX0_countRangesAhead, Cond.instanceMethod yX0_countRangesAhead, Cond.selects RX0 yX0_countRangesAhead yX0_countRangesAhead, Cond.code yX0_countRangesAhead cX0_countRangesAhead 6 (some .int), Cond.fieldLink RX0 9 "IdleDiscards$Device" "blocks" "[I", Cond.methodLink RX3 163 yX0_firstOfRange, Cond.instanceMethod yX0_firstOfRange, Cond.selects RX0 yX0_firstOfRange yX0_firstOfRange, Cond.code yX0_firstOfRange cX0_firstOfRange 6 (some .int), Cond.methodLink RX3 166 yX0_endOfRange, Cond.instanceMethod yX0_endOfRange, Cond.selects RX0 yX0_endOfRange yX0_endOfRange, Cond.code yX0_endOfRange cX0_endOfRange 3 (some .int), Cond.methodLink RX3 169 yX0_timeOf]
def wsX3_range_r2 : List Cond := [Cond.instanceMethod yX0_timeOf, Cond.selects RX0 yX0_timeOf yX0_timeOf, Cond.code yX0_timeOf cX0_timeOf 2 (some .int), Cond.methodLink RX3 172 yX0_countPieces, Cond.instanceMethod yX0_countPieces, Cond.selects RX0 yX0_countPieces yX0_countPieces, Cond.code yX0_countPieces cX0_countPieces 8 (some .int), Cond.fieldLink RX0 21 "IdleDiscards$Device" "settings" "[I", Cond.methodLink RX0 80 yX0_granuleFrom, Cond.instanceMethod yX0_granuleFrom, Cond.selects RX0 yX0_granuleFrom yX0_granuleFrom, Cond.code yX0_granuleFrom cX0_granuleFrom 2 (some .int), Cond.methodLink RX0 77 yX0_granuleSize, Cond.instanceMethod yX0_granuleSize, Cond.selects RX0 yX0_granuleSize yX0_granuleSize, Cond.code yX0_granuleSize cX0_granuleSize 1 (some .int), Cond.methodLink RX0 83 yX0_isFree, Cond.instanceMethod yX0_isFree, Cond.selects RX0 yX0_isFree yX0_isFree, Cond.code yX0_isFree cX0_isFree 5 (some .boolean), Cond.methodLink RX0 65 yX0_isAnyPinned, Cond.instanceMethod yX0_isAnyPinned, Cond.selects RX0 yX0_isAnyPinned yX0_isAnyPinned, Cond.code yX0_isAnyPinned cX0_isAnyPinned 4 (some .boolean)]
def wsX3_range_r3 : List Cond := [Cond.fieldLink RX0 18 "IdleDiscards$Device" "pinLength" "[I", Cond.fieldLink RX0 15 "IdleDiscards$Device" "pinFirst" "[I", Cond.methodLink RX3 176 yX0_countGranules, Cond.instanceMethod yX0_countGranules, Cond.selects RX0 yX0_countGranules yX0_countGranules, Cond.code yX0_countGranules cX0_countGranules 6 (some .int), Cond.methodLink RX3 179 yX0_isDue, Cond.instanceMethod yX0_isDue, Cond.selects RX0 yX0_isDue yX0_isDue, Cond.code yX0_isDue cX0_isDue 2 (some .boolean), Cond.fieldLink RX0 42 "IdleDiscards$Device" "time" "I"]
def wsX3_range : List Cond := .code yX3_range cX3_range 5 (some .int) :: ((wsX3_range_r1 ++ (wsX3_range_r2 ++ wsX3_range_r3)) ++ wsX30 ++ wsX00 ++ (vx_atS RX3 162 "java/lang/IndexOutOfBoundsException" ["java/lang/RuntimeException", "java/lang/Exception"]).filter goodWord ++ (vx_atS RX3 45 "java/lang/IllegalArgumentException" ["java/lang/RuntimeException", "java/lang/Exception"]).filter goodWord)
def wsX3_checkPin : List Cond := .code yX3_checkPin cX3_checkPin 1 none :: ([.classLink RX3 158 "java/lang/IndexOutOfBoundsException", .initialized "java/lang/IndexOutOfBoundsException", .methodLink RX3 323 yX3_isPin, .static yX3_isPin, .initialized RX3, .code yX3_isPin cX3_isPin 1 (some .boolean)] ++ (vx_atS RX3 162 "java/lang/IndexOutOfBoundsException" ["java/lang/RuntimeException", "java/lang/Exception"]).filter goodWord)
def wsX3_pinned_r1 : List Cond := [Cond.classLink RX3 41 "java/lang/IllegalArgumentException", Cond.initialized "java/lang/IllegalArgumentException", Cond.fieldLink RX3 19 "IdleDiscards" "device" "LIdleDiscards$Device;", Cond.methodLink RX3 184 yX3_checkPin, Cond.static yX3_checkPin, Cond.initialized RX3, Cond.code yX3_checkPin cX3_checkPin 1 none, Cond.classLink RX3 158 "java/lang/IndexOutOfBoundsException", Cond.initialized "java/lang/IndexOutOfBoundsException", Cond.methodLink RX3 323 yX3_isPin, Cond.static yX3_isPin, Cond.code yX3_isPin cX3_isPin 1 (some .boolean), Cond.methodLink RX3 189 yX0_hasPin, Cond.instanceMethod yX0_hasPin, Cond.selects RX0 yX0_hasPin yX0_hasPin, Cond.initialized RX0, Cond.code yX0_hasPin cX0_hasPin 2 (some .boolean), Cond.fieldLink RX0 18 "IdleDiscards$Device" "pinLength" "[I", Cond.methodLink RX3 192 yX0_firstPinned, Cond.instanceMethod yX0_firstPinned, Cond.selects RX0 yX0_firstPinned yX0_firstPinned, Cond.code yX0_firstPinned cX0_firstPinned 2 (some .int), Cond.fieldLink RX0 15 "IdleDiscards$Device" "pinFirst" "[I", Cond.methodLink RX3 195 yX0_lengthPinned]
def wsX3_pinned_r2 : List Cond := [Cond.instanceMethod yX0_lengthPinned, Cond.selects RX0 yX0_lengthPinned yX0_lengthPinned, Cond.code yX0_lengthPinned cX0_lengthPinned 2 (some .int)]
def wsX3_pinned : List Cond := .code yX3_pinned cX3_pinned 3 (some .int) :: ((wsX3_pinned_r1 ++ wsX3_pinned_r2) ++ wsX30 ++ wsX00 ++ (vx_atS RX3 45 "java/lang/IllegalArgumentException" ["java/lang/RuntimeException", "java/lang/Exception"]).filter goodWord ++ (vx_atS RX3 162 "java/lang/IndexOutOfBoundsException" ["java/lang/RuntimeException", "java/lang/Exception"]).filter goodWord)
def wsX3_setting : List Cond := .code yX3_setting cX3_setting 2 (some .int) :: ([.classLink RX3 41 "java/lang/IllegalArgumentException", .initialized "java/lang/IllegalArgumentException", .fieldLink RX3 19 "IdleDiscards" "device" "LIdleDiscards$Device;", .methodLink RX3 198 yX3_isSetting, .static yX3_isSetting, .initialized RX3, .code yX3_isSetting cX3_isSetting 1 (some .boolean), .methodLink RX3 203 yX0_settingAt, .instanceMethod yX0_settingAt, .selects RX0 yX0_settingAt yX0_settingAt, .initialized RX0, .code yX0_settingAt cX0_settingAt 2 (some .int), .fieldLink RX0 21 "IdleDiscards$Device" "settings" "[I"] ++ wsX30 ++ wsX00 ++ (vx_atS RX3 45 "java/lang/IllegalArgumentException" ["java/lang/RuntimeException", "java/lang/Exception"]).filter goodWord)
def wsX3_checkSpan : List Cond := .code yX3_checkSpan cX3_checkSpan 2 none :: ([.classLink RX3 41 "java/lang/IllegalArgumentException", .initialized "java/lang/IllegalArgumentException", .classLink RX3 52 "java/lang/IllegalStateException", .initialized "java/lang/IllegalStateException", .methodLink RX3 138 yX3_checkBlock, .static yX3_checkBlock, .initialized RX3, .code yX3_checkBlock cX3_checkBlock 1 none, .classLink RX3 158 "java/lang/IndexOutOfBoundsException", .initialized "java/lang/IndexOutOfBoundsException", .methodLink RX3 294 yX3_isBlock, .static yX3_isBlock, .code yX3_isBlock cX3_isBlock 1 (some .boolean), .methodLink RX3 311 yX3_isLength, .static yX3_isLength, .code yX3_isLength cX3_isLength 1 (some .boolean), .methodLink RX3 318 yX3_isSpan, .static yX3_isSpan, .code yX3_isSpan cX3_isSpan 2 (some .boolean)] ++ (vx_atS RX3 45 "java/lang/IllegalArgumentException" ["java/lang/RuntimeException", "java/lang/Exception"]).filter goodWord ++ (vx_atS RX3 56 "java/lang/IllegalStateException" ["java/lang/RuntimeException", "java/lang/Exception"]).filter goodWord ++ (vx_atS RX3 162 "java/lang/IndexOutOfBoundsException" ["java/lang/RuntimeException", "java/lang/Exception"]).filter goodWord)
def wsX3_write_r1 : List Cond := [Cond.fieldLink RX3 29 "IdleDiscards" "past" "LIdleDiscards$Past;", Cond.fieldLink RX3 19 "IdleDiscards" "device" "LIdleDiscards$Device;", Cond.methodLink RX3 206 yX3_checkSpan, Cond.static yX3_checkSpan, Cond.initialized RX3, Cond.code yX3_checkSpan cX3_checkSpan 2 none, Cond.classLink RX3 41 "java/lang/IllegalArgumentException", Cond.initialized "java/lang/IllegalArgumentException", Cond.classLink RX3 52 "java/lang/IllegalStateException", Cond.initialized "java/lang/IllegalStateException", Cond.methodLink RX3 138 yX3_checkBlock, Cond.static yX3_checkBlock, Cond.code yX3_checkBlock cX3_checkBlock 1 none, Cond.classLink RX3 158 "java/lang/IndexOutOfBoundsException", Cond.initialized "java/lang/IndexOutOfBoundsException", Cond.methodLink RX3 294 yX3_isBlock, Cond.static yX3_isBlock, Cond.code yX3_isBlock cX3_isBlock 1 (some .boolean), Cond.methodLink RX3 311 yX3_isLength, Cond.static yX3_isLength, Cond.code yX3_isLength cX3_isLength 1 (some .boolean), Cond.methodLink RX3 318 yX3_isSpan, Cond.static yX3_isSpan, Cond.code yX3_isSpan cX3_isSpan 2 (some .boolean)]
def wsX3_write_r2 : List Cond := [Cond.methodLink RX3 210 yX1_remember, Cond.instanceMethod yX1_remember, Cond.selects RX1 yX1_remember yX1_remember, Cond.initialized RX1, Cond.code yX1_remember cX1_remember 2 none, Cond.fieldLink RX1 18 "IdleDiscards$Past" "size" "I", Cond.fieldLink RX1 22 "IdleDiscards$Past" "oldest" "I", Cond.fieldLink RX1 11 "IdleDiscards$Past" "states" "[LIdleDiscards$Device;", Cond.methodLink RX1 25 yX1_newest, Cond.instanceMethod yX1_newest, Cond.selects RX1 yX1_newest yX1_newest, Cond.code yX1_newest cX1_newest 1 (some .int), Cond.methodLink RX1 29 yX0_copyFrom, Cond.instanceMethod yX0_copyFrom, Cond.selects RX0 yX0_copyFrom yX0_copyFrom, Cond.initialized RX0, Cond.code yX0_copyFrom cX0_copyFrom 2 none, Cond.fieldLink RX0 9 "IdleDiscards$Device" "blocks" "[I", Cond.methodLink RX0 36 arraycopyName, Cond.native arraycopyName, Cond.static arraycopyName, Cond.initialized "java/lang/System", Cond.fieldLink RX0 15 "IdleDiscards$Device" "pinFirst" "[I", Cond.fieldLink RX0 18 "IdleDiscards$Device" "pinLength" "[I"]
def wsX3_write_r3 : List Cond := [Cond.fieldLink RX0 21 "IdleDiscards$Device" "settings" "[I", Cond.fieldLink RX0 42 "IdleDiscards$Device" "time" "I", Cond.fieldLink RX0 46 "IdleDiscards$Device" "quiet" "I", Cond.fieldLink RX0 49 "IdleDiscards$Device" "commands" "I", Cond.fieldLink RX0 52 "IdleDiscards$Device" "discarded" "I", Cond.fieldLink RX0 55 "IdleDiscards$Device" "dropped" "I", Cond.methodLink RX3 214 yX0_writeSpan, Cond.instanceMethod yX0_writeSpan, Cond.selects RX0 yX0_writeSpan yX0_writeSpan, Cond.code yX0_writeSpan cX0_writeSpan 5 (some .int), Cond.methodLink RX0 58 yX0_dropSurplus, Cond.instanceMethod yX0_dropSurplus, Cond.selects RX0 yX0_dropSurplus yX0_dropSurplus, Cond.code yX0_dropSurplus cX0_dropSurplus 4 none, Cond.methodLink RX0 69 yX0_countRangesAhead, Cond.instanceMethod yX0_countRangesAhead, Cond.selects RX0 yX0_countRangesAhead yX0_countRangesAhead, Cond.code yX0_countRangesAhead cX0_countRangesAhead 6 (some .int), Cond.methodLink RX0 73 yX0_shortestRange, Cond.instanceMethod yX0_shortestRange, Cond.selects RX0 yX0_shortestRange yX0_shortestRange, Cond.code yX0_shortestRange cX0_shortestRange 5 (some .int)]
def wsX3_write : List Cond := .code yX3_write cX3_write 3 (some .int) :: ((wsX3_write_r1 ++ (wsX3_write_r2 ++ wsX3_write_r3)) ++ wsX30 ++ wsX10 ++ wsX00 ++ (vx_atS RX3 45 "java/lang/IllegalArgumentException" ["java/lang/RuntimeException", "java/lang/Exception"]).filter goodWord ++ (vx_atS RX3 56 "java/lang/IllegalStateException" ["java/lang/RuntimeException", "java/lang/Exception"]).filter goodWord ++ (vx_atS RX3 162 "java/lang/IndexOutOfBoundsException" ["java/lang/RuntimeException", "java/lang/Exception"]).filter goodWord)
def wsX3_free_r1 : List Cond := [Cond.fieldLink RX3 29 "IdleDiscards" "past" "LIdleDiscards$Past;", Cond.fieldLink RX3 19 "IdleDiscards" "device" "LIdleDiscards$Device;", Cond.methodLink RX3 206 yX3_checkSpan, Cond.static yX3_checkSpan, Cond.initialized RX3, Cond.code yX3_checkSpan cX3_checkSpan 2 none, Cond.classLink RX3 41 "java/lang/IllegalArgumentException", Cond.initialized "java/lang/IllegalArgumentException", Cond.classLink RX3 52 "java/lang/IllegalStateException", Cond.initialized "java/lang/IllegalStateException", Cond.methodLink RX3 138 yX3_checkBlock, Cond.static yX3_checkBlock, Cond.code yX3_checkBlock cX3_checkBlock 1 none, Cond.classLink RX3 158 "java/lang/IndexOutOfBoundsException", Cond.initialized "java/lang/IndexOutOfBoundsException", Cond.methodLink RX3 294 yX3_isBlock, Cond.static yX3_isBlock, Cond.code yX3_isBlock cX3_isBlock 1 (some .boolean), Cond.methodLink RX3 311 yX3_isLength, Cond.static yX3_isLength, Cond.code yX3_isLength cX3_isLength 1 (some .boolean), Cond.methodLink RX3 318 yX3_isSpan, Cond.static yX3_isSpan, Cond.code yX3_isSpan cX3_isSpan 2 (some .boolean)]
def wsX3_free_r2 : List Cond := [Cond.methodLink RX3 210 yX1_remember, Cond.instanceMethod yX1_remember, Cond.selects RX1 yX1_remember yX1_remember, Cond.initialized RX1, Cond.code yX1_remember cX1_remember 2 none, Cond.fieldLink RX1 18 "IdleDiscards$Past" "size" "I", Cond.fieldLink RX1 22 "IdleDiscards$Past" "oldest" "I", Cond.fieldLink RX1 11 "IdleDiscards$Past" "states" "[LIdleDiscards$Device;", Cond.methodLink RX1 25 yX1_newest, Cond.instanceMethod yX1_newest, Cond.selects RX1 yX1_newest yX1_newest, Cond.code yX1_newest cX1_newest 1 (some .int), Cond.methodLink RX1 29 yX0_copyFrom, Cond.instanceMethod yX0_copyFrom, Cond.selects RX0 yX0_copyFrom yX0_copyFrom, Cond.initialized RX0, Cond.code yX0_copyFrom cX0_copyFrom 2 none, Cond.fieldLink RX0 9 "IdleDiscards$Device" "blocks" "[I", Cond.methodLink RX0 36 arraycopyName, Cond.native arraycopyName, Cond.static arraycopyName, Cond.initialized "java/lang/System", Cond.fieldLink RX0 15 "IdleDiscards$Device" "pinFirst" "[I", Cond.fieldLink RX0 18 "IdleDiscards$Device" "pinLength" "[I"]
def wsX3_free_r3 : List Cond := [Cond.fieldLink RX0 21 "IdleDiscards$Device" "settings" "[I", Cond.fieldLink RX0 42 "IdleDiscards$Device" "time" "I", Cond.fieldLink RX0 46 "IdleDiscards$Device" "quiet" "I", Cond.fieldLink RX0 49 "IdleDiscards$Device" "commands" "I", Cond.fieldLink RX0 52 "IdleDiscards$Device" "discarded" "I", Cond.fieldLink RX0 55 "IdleDiscards$Device" "dropped" "I", Cond.methodLink RX3 217 yX0_freeSpan, Cond.instanceMethod yX0_freeSpan, Cond.selects RX0 yX0_freeSpan yX0_freeSpan, Cond.code yX0_freeSpan cX0_freeSpan 5 (some .int), Cond.methodLink RX0 61 yX0_queueNow, Cond.instanceMethod yX0_queueNow, Cond.selects RX0 yX0_queueNow yX0_queueNow, Cond.code yX0_queueNow cX0_queueNow 3 none, Cond.methodLink RX0 58 yX0_dropSurplus, Cond.instanceMethod yX0_dropSurplus, Cond.selects RX0 yX0_dropSurplus yX0_dropSurplus, Cond.code yX0_dropSurplus cX0_dropSurplus 4 none, Cond.methodLink RX0 69 yX0_countRangesAhead, Cond.instanceMethod yX0_countRangesAhead, Cond.selects RX0 yX0_countRangesAhead yX0_countRangesAhead, Cond.code yX0_countRangesAhead cX0_countRangesAhead 6 (some .int), Cond.methodLink RX0 73 yX0_shortestRange, Cond.instanceMethod yX0_shortestRange]
def wsX3_free_r4 : List Cond := [Cond.selects RX0 yX0_shortestRange yX0_shortestRange, Cond.code yX0_shortestRange cX0_shortestRange 5 (some .int)]
def wsX3_free : List Cond := .code yX3_free cX3_free 3 (some .int) :: ((wsX3_free_r1 ++ (wsX3_free_r2 ++ (wsX3_free_r3 ++ wsX3_free_r4))) ++ wsX30 ++ wsX10 ++ wsX00 ++ (vx_atS RX3 45 "java/lang/IllegalArgumentException" ["java/lang/RuntimeException", "java/lang/Exception"]).filter goodWord ++ (vx_atS RX3 56 "java/lang/IllegalStateException" ["java/lang/RuntimeException", "java/lang/Exception"]).filter goodWord ++ (vx_atS RX3 162 "java/lang/IndexOutOfBoundsException" ["java/lang/RuntimeException", "java/lang/Exception"]).filter goodWord)
def wsX3_pin_r1 : List Cond := [Cond.fieldLink RX3 29 "IdleDiscards" "past" "LIdleDiscards$Past;", Cond.fieldLink RX3 19 "IdleDiscards" "device" "LIdleDiscards$Device;", Cond.methodLink RX3 184 yX3_checkPin, Cond.static yX3_checkPin, Cond.initialized RX3, Cond.code yX3_checkPin cX3_checkPin 1 none, Cond.classLink RX3 158 "java/lang/IndexOutOfBoundsException", Cond.initialized "java/lang/IndexOutOfBoundsException", Cond.methodLink RX3 323 yX3_isPin, Cond.static yX3_isPin, Cond.code yX3_isPin cX3_isPin 1 (some .boolean), Cond.methodLink RX3 206 yX3_checkSpan, Cond.static yX3_checkSpan, Cond.code yX3_checkSpan cX3_checkSpan 2 none, Cond.classLink RX3 41 "java/lang/IllegalArgumentException", Cond.initialized "java/lang/IllegalArgumentException", Cond.classLink RX3 52 "java/lang/IllegalStateException", Cond.initialized "java/lang/IllegalStateException", Cond.methodLink RX3 138 yX3_checkBlock, Cond.static yX3_checkBlock, Cond.code yX3_checkBlock cX3_checkBlock 1 none, Cond.methodLink RX3 294 yX3_isBlock, Cond.static yX3_isBlock, Cond.code yX3_isBlock cX3_isBlock 1 (some .boolean)]
def wsX3_pin_r2 : List Cond := [Cond.methodLink RX3 311 yX3_isLength, Cond.static yX3_isLength, Cond.code yX3_isLength cX3_isLength 1 (some .boolean), Cond.methodLink RX3 318 yX3_isSpan, Cond.static yX3_isSpan, Cond.code yX3_isSpan cX3_isSpan 2 (some .boolean), Cond.methodLink RX3 210 yX1_remember, Cond.instanceMethod yX1_remember, Cond.selects RX1 yX1_remember yX1_remember, Cond.initialized RX1, Cond.code yX1_remember cX1_remember 2 none, Cond.fieldLink RX1 18 "IdleDiscards$Past" "size" "I", Cond.fieldLink RX1 22 "IdleDiscards$Past" "oldest" "I", Cond.fieldLink RX1 11 "IdleDiscards$Past" "states" "[LIdleDiscards$Device;", Cond.methodLink RX1 25 yX1_newest, Cond.instanceMethod yX1_newest, Cond.selects RX1 yX1_newest yX1_newest, Cond.code yX1_newest cX1_newest 1 (some .int), Cond.methodLink RX1 29 yX0_copyFrom, Cond.instanceMethod yX0_copyFrom, Cond.selects RX0 yX0_copyFrom yX0_copyFrom, Cond.initialized RX0, Cond.code yX0_copyFrom cX0_copyFrom 2 none, Cond.fieldLink RX0 9 "IdleDiscards$Device" "blocks" "[I"]
def wsX3_pin_r3 : List Cond := [Cond.methodLink RX0 36 arraycopyName, Cond.native arraycopyName, Cond.static arraycopyName, Cond.initialized "java/lang/System", Cond.fieldLink RX0 15 "IdleDiscards$Device" "pinFirst" "[I", Cond.fieldLink RX0 18 "IdleDiscards$Device" "pinLength" "[I", Cond.fieldLink RX0 21 "IdleDiscards$Device" "settings" "[I", Cond.fieldLink RX0 42 "IdleDiscards$Device" "time" "I", Cond.fieldLink RX0 46 "IdleDiscards$Device" "quiet" "I", Cond.fieldLink RX0 49 "IdleDiscards$Device" "commands" "I", Cond.fieldLink RX0 52 "IdleDiscards$Device" "discarded" "I", Cond.fieldLink RX0 55 "IdleDiscards$Device" "dropped" "I", Cond.methodLink RX3 220 yX0_pinSpan, Cond.instanceMethod yX0_pinSpan, Cond.selects RX0 yX0_pinSpan yX0_pinSpan, Cond.code yX0_pinSpan cX0_pinSpan 4 none, Cond.methodLink RX3 133 yX0_countPinned, Cond.instanceMethod yX0_countPinned, Cond.selects RX0 yX0_countPinned yX0_countPinned, Cond.code yX0_countPinned cX0_countPinned 3 (some .int), Cond.methodLink RX0 65 yX0_isAnyPinned, Cond.instanceMethod yX0_isAnyPinned, Cond.selects RX0 yX0_isAnyPinned yX0_isAnyPinned, Cond.code yX0_isAnyPinned cX0_isAnyPinned 4 (some .boolean)]
def wsX3_pin : List Cond := .code yX3_pin cX3_pin 4 (some .int) :: ((wsX3_pin_r1 ++ (wsX3_pin_r2 ++ wsX3_pin_r3)) ++ wsX30 ++ wsX10 ++ wsX00 ++ (vx_atS RX3 162 "java/lang/IndexOutOfBoundsException" ["java/lang/RuntimeException", "java/lang/Exception"]).filter goodWord ++ (vx_atS RX3 45 "java/lang/IllegalArgumentException" ["java/lang/RuntimeException", "java/lang/Exception"]).filter goodWord ++ (vx_atS RX3 56 "java/lang/IllegalStateException" ["java/lang/RuntimeException", "java/lang/Exception"]).filter goodWord)
def wsX3_unpin_r1 : List Cond := [Cond.classLink RX3 52 "java/lang/IllegalStateException", Cond.initialized "java/lang/IllegalStateException", Cond.fieldLink RX3 19 "IdleDiscards" "device" "LIdleDiscards$Device;", Cond.fieldLink RX3 29 "IdleDiscards" "past" "LIdleDiscards$Past;", Cond.methodLink RX3 184 yX3_checkPin, Cond.static yX3_checkPin, Cond.initialized RX3, Cond.code yX3_checkPin cX3_checkPin 1 none, Cond.classLink RX3 158 "java/lang/IndexOutOfBoundsException", Cond.initialized "java/lang/IndexOutOfBoundsException", Cond.methodLink RX3 323 yX3_isPin, Cond.static yX3_isPin, Cond.code yX3_isPin cX3_isPin 1 (some .boolean), Cond.methodLink RX3 189 yX0_hasPin, Cond.instanceMethod yX0_hasPin, Cond.selects RX0 yX0_hasPin yX0_hasPin, Cond.initialized RX0, Cond.code yX0_hasPin cX0_hasPin 2 (some .boolean), Cond.fieldLink RX0 18 "IdleDiscards$Device" "pinLength" "[I", Cond.methodLink RX3 210 yX1_remember, Cond.instanceMethod yX1_remember, Cond.selects RX1 yX1_remember yX1_remember, Cond.initialized RX1, Cond.code yX1_remember cX1_remember 2 none]
def wsX3_unpin_r2 : List Cond := [Cond.fieldLink RX1 18 "IdleDiscards$Past" "size" "I", Cond.fieldLink RX1 22 "IdleDiscards$Past" "oldest" "I", Cond.fieldLink RX1 11 "IdleDiscards$Past" "states" "[LIdleDiscards$Device;", Cond.methodLink RX1 25 yX1_newest, Cond.instanceMethod yX1_newest, Cond.selects RX1 yX1_newest yX1_newest, Cond.code yX1_newest cX1_newest 1 (some .int), Cond.methodLink RX1 29 yX0_copyFrom, Cond.instanceMethod yX0_copyFrom, Cond.selects RX0 yX0_copyFrom yX0_copyFrom, Cond.code yX0_copyFrom cX0_copyFrom 2 none, Cond.fieldLink RX0 9 "IdleDiscards$Device" "blocks" "[I", Cond.methodLink RX0 36 arraycopyName, Cond.native arraycopyName, Cond.static arraycopyName, Cond.initialized "java/lang/System", Cond.fieldLink RX0 15 "IdleDiscards$Device" "pinFirst" "[I", Cond.fieldLink RX0 21 "IdleDiscards$Device" "settings" "[I", Cond.fieldLink RX0 42 "IdleDiscards$Device" "time" "I", Cond.fieldLink RX0 46 "IdleDiscards$Device" "quiet" "I", Cond.fieldLink RX0 49 "IdleDiscards$Device" "commands" "I", Cond.fieldLink RX0 52 "IdleDiscards$Device" "discarded" "I", Cond.fieldLink RX0 55 "IdleDiscards$Device" "dropped" "I", Cond.methodLink RX3 220 yX0_pinSpan]
def wsX3_unpin_r3 : List Cond := [Cond.instanceMethod yX0_pinSpan, Cond.selects RX0 yX0_pinSpan yX0_pinSpan, Cond.code yX0_pinSpan cX0_pinSpan 4 none, Cond.methodLink RX3 133 yX0_countPinned, Cond.instanceMethod yX0_countPinned, Cond.selects RX0 yX0_countPinned yX0_countPinned, Cond.code yX0_countPinned cX0_countPinned 3 (some .int), Cond.methodLink RX0 65 yX0_isAnyPinned, Cond.instanceMethod yX0_isAnyPinned, Cond.selects RX0 yX0_isAnyPinned yX0_isAnyPinned, Cond.code yX0_isAnyPinned cX0_isAnyPinned 4 (some .boolean)]
def wsX3_unpin : List Cond := .code yX3_unpin cX3_unpin 2 (some .int) :: ((wsX3_unpin_r1 ++ (wsX3_unpin_r2 ++ wsX3_unpin_r3)) ++ wsX30 ++ wsX00 ++ wsX10 ++ (vx_atS RX3 56 "java/lang/IllegalStateException" ["java/lang/RuntimeException", "java/lang/Exception"]).filter goodWord ++ (vx_atS RX3 162 "java/lang/IndexOutOfBoundsException" ["java/lang/RuntimeException", "java/lang/Exception"]).filter goodWord)
def wsX3_isTicks : List Cond := .code yX3_isTicks cX3_isTicks 2 (some .boolean) :: ([])
def wsX3_checkTicks : List Cond := .code yX3_checkTicks cX3_checkTicks 2 none :: ([.classLink RX3 41 "java/lang/IllegalArgumentException", .initialized "java/lang/IllegalArgumentException", .methodLink RX3 291 yX3_isTicks, .static yX3_isTicks, .initialized RX3, .code yX3_isTicks cX3_isTicks 2 (some .boolean)] ++ (vx_atS RX3 45 "java/lang/IllegalArgumentException" ["java/lang/RuntimeException", "java/lang/Exception"]).filter goodWord)
def wsX3_run_r1 : List Cond := [Cond.fieldLink RX3 29 "IdleDiscards" "past" "LIdleDiscards$Past;", Cond.fieldLink RX3 19 "IdleDiscards" "device" "LIdleDiscards$Device;", Cond.methodLink RX3 226 yX3_checkTicks, Cond.static yX3_checkTicks, Cond.initialized RX3, Cond.code yX3_checkTicks cX3_checkTicks 2 none, Cond.classLink RX3 41 "java/lang/IllegalArgumentException", Cond.initialized "java/lang/IllegalArgumentException", Cond.methodLink RX3 291 yX3_isTicks, Cond.static yX3_isTicks, Cond.code yX3_isTicks cX3_isTicks 2 (some .boolean), Cond.methodLink RX3 210 yX1_remember, Cond.instanceMethod yX1_remember, Cond.selects RX1 yX1_remember yX1_remember, Cond.initialized RX1, Cond.code yX1_remember cX1_remember 2 none, Cond.fieldLink RX1 18 "IdleDiscards$Past" "size" "I", Cond.fieldLink RX1 22 "IdleDiscards$Past" "oldest" "I", Cond.fieldLink RX1 11 "IdleDiscards$Past" "states" "[LIdleDiscards$Device;", Cond.methodLink RX1 25 yX1_newest, Cond.instanceMethod yX1_newest, Cond.selects RX1 yX1_newest yX1_newest, Cond.code yX1_newest cX1_newest 1 (some .int), Cond.methodLink RX1 29 yX0_copyFrom]
def wsX3_run_r2 : List Cond := [Cond.instanceMethod yX0_copyFrom, Cond.selects RX0 yX0_copyFrom yX0_copyFrom, Cond.initialized RX0, Cond.code yX0_copyFrom cX0_copyFrom 2 none, Cond.fieldLink RX0 9 "IdleDiscards$Device" "blocks" "[I", Cond.methodLink RX0 36 arraycopyName, Cond.native arraycopyName, Cond.static arraycopyName, Cond.initialized "java/lang/System", Cond.fieldLink RX0 15 "IdleDiscards$Device" "pinFirst" "[I", Cond.fieldLink RX0 18 "IdleDiscards$Device" "pinLength" "[I", Cond.fieldLink RX0 21 "IdleDiscards$Device" "settings" "[I", Cond.fieldLink RX0 42 "IdleDiscards$Device" "time" "I", Cond.fieldLink RX0 46 "IdleDiscards$Device" "quiet" "I", Cond.fieldLink RX0 49 "IdleDiscards$Device" "commands" "I", Cond.fieldLink RX0 52 "IdleDiscards$Device" "discarded" "I", Cond.fieldLink RX0 55 "IdleDiscards$Device" "dropped" "I", Cond.methodLink RX3 99 yX0_passTicks, Cond.instanceMethod yX0_passTicks, Cond.selects RX0 yX0_passTicks yX0_passTicks, Cond.code yX0_passTicks cX0_passTicks 4 (some .int), Cond.methodLink RX0 90 yX0_tick, Cond.instanceMethod yX0_tick, Cond.selects RX0 yX0_tick yX0_tick]
def wsX3_run_r3 : List Cond := [Cond.code yX0_tick cX0_tick 5 none, Cond.methodLink RX0 93 yX0_budgetOfTick, Cond.instanceMethod yX0_budgetOfTick, Cond.selects RX0 yX0_budgetOfTick yX0_budgetOfTick, Cond.code yX0_budgetOfTick cX0_budgetOfTick 1 (some .int), Cond.methodLink RX0 96 yX0_choosePiece, Cond.instanceMethod yX0_choosePiece, Cond.selects RX0 yX0_choosePiece yX0_choosePiece, Cond.code yX0_choosePiece cX0_choosePiece 10 (some .int), Cond.methodLink RX0 87 yX0_isDue, Cond.instanceMethod yX0_isDue, Cond.selects RX0 yX0_isDue yX0_isDue, Cond.code yX0_isDue cX0_isDue 2 (some .boolean), Cond.methodLink RX0 83 yX0_isFree, Cond.instanceMethod yX0_isFree, Cond.selects RX0 yX0_isFree yX0_isFree, Cond.code yX0_isFree cX0_isFree 5 (some .boolean), Cond.methodLink RX0 77 yX0_granuleSize, Cond.instanceMethod yX0_granuleSize, Cond.selects RX0 yX0_granuleSize yX0_granuleSize, Cond.code yX0_granuleSize cX0_granuleSize 1 (some .int), Cond.methodLink RX0 65 yX0_isAnyPinned, Cond.instanceMethod yX0_isAnyPinned, Cond.selects RX0 yX0_isAnyPinned yX0_isAnyPinned]
def wsX3_run_r4 : List Cond := [Cond.code yX0_isAnyPinned cX0_isAnyPinned 4 (some .boolean), Cond.methodLink RX0 100 yX0_mostGranules, Cond.instanceMethod yX0_mostGranules, Cond.selects RX0 yX0_mostGranules yX0_mostGranules, Cond.code yX0_mostGranules cX0_mostGranules 2 (some .int), Cond.methodLink RX0 111 Lib.Math.min.name, Cond.static Lib.Math.min.name, Cond.initialized "java/lang/Math", Cond.code Lib.Math.min.name Lib.Math.min.code 2 (some .int), Cond.methodLink RX0 103 yX0_granulesFrom, Cond.instanceMethod yX0_granulesFrom, Cond.selects RX0 yX0_granulesFrom yX0_granulesFrom, Cond.code yX0_granulesFrom cX0_granulesFrom 4 (some .int), Cond.methodLink RX0 107 yX0_discard, Cond.instanceMethod yX0_discard, Cond.selects RX0 yX0_discard yX0_discard, Cond.code yX0_discard cX0_discard 6 none, Cond.methodLink RX0 58 yX0_dropSurplus, Cond.instanceMethod yX0_dropSurplus, Cond.selects RX0 yX0_dropSurplus yX0_dropSurplus, Cond.code yX0_dropSurplus cX0_dropSurplus 4 none, Cond.methodLink RX0 69 yX0_countRangesAhead, Cond.instanceMethod yX0_countRangesAhead, Cond.selects RX0 yX0_countRangesAhead yX0_countRangesAhead]
def wsX3_run_r5 : List Cond := [Cond.code yX0_countRangesAhead cX0_countRangesAhead 6 (some .int), Cond.methodLink RX0 73 yX0_shortestRange, Cond.instanceMethod yX0_shortestRange, Cond.selects RX0 yX0_shortestRange yX0_shortestRange, Cond.code yX0_shortestRange cX0_shortestRange 5 (some .int)]
def wsX3_run : List Cond := .code yX3_run cX3_run 2 (some .int) :: ((wsX3_run_r1 ++ (wsX3_run_r2 ++ (wsX3_run_r3 ++ (wsX3_run_r4 ++ wsX3_run_r5)))) ++ wsX30 ++ wsX10 ++ wsX00 ++ (vx_atS RX3 45 "java/lang/IllegalArgumentException" ["java/lang/RuntimeException", "java/lang/Exception"]).filter goodWord)
def wsX3_flush_r1 : List Cond := [Cond.fieldLink RX3 29 "IdleDiscards" "past" "LIdleDiscards$Past;", Cond.fieldLink RX3 19 "IdleDiscards" "device" "LIdleDiscards$Device;", Cond.methodLink RX3 210 yX1_remember, Cond.instanceMethod yX1_remember, Cond.selects RX1 yX1_remember yX1_remember, Cond.initialized RX1, Cond.code yX1_remember cX1_remember 2 none, Cond.fieldLink RX1 18 "IdleDiscards$Past" "size" "I", Cond.fieldLink RX1 22 "IdleDiscards$Past" "oldest" "I", Cond.fieldLink RX1 11 "IdleDiscards$Past" "states" "[LIdleDiscards$Device;", Cond.methodLink RX1 25 yX1_newest, Cond.instanceMethod yX1_newest, Cond.selects RX1 yX1_newest yX1_newest, Cond.code yX1_newest cX1_newest 1 (some .int), Cond.methodLink RX1 29 yX0_copyFrom, Cond.instanceMethod yX0_copyFrom, Cond.selects RX0 yX0_copyFrom yX0_copyFrom, Cond.initialized RX0, Cond.code yX0_copyFrom cX0_copyFrom 2 none, Cond.fieldLink RX0 9 "IdleDiscards$Device" "blocks" "[I", Cond.methodLink RX0 36 arraycopyName, Cond.native arraycopyName, Cond.static arraycopyName, Cond.initialized "java/lang/System"]
def wsX3_flush_r2 : List Cond := [Cond.fieldLink RX0 15 "IdleDiscards$Device" "pinFirst" "[I", Cond.fieldLink RX0 18 "IdleDiscards$Device" "pinLength" "[I", Cond.fieldLink RX0 21 "IdleDiscards$Device" "settings" "[I", Cond.fieldLink RX0 42 "IdleDiscards$Device" "time" "I", Cond.fieldLink RX0 46 "IdleDiscards$Device" "quiet" "I", Cond.fieldLink RX0 49 "IdleDiscards$Device" "commands" "I", Cond.fieldLink RX0 52 "IdleDiscards$Device" "discarded" "I", Cond.fieldLink RX0 55 "IdleDiscards$Device" "dropped" "I", Cond.methodLink RX3 229 yX0_sendAll, Cond.instanceMethod yX0_sendAll, Cond.selects RX0 yX0_sendAll yX0_sendAll, Cond.code yX0_sendAll cX0_sendAll 4 (some .int), Cond.methodLink RX0 96 yX0_choosePiece, Cond.instanceMethod yX0_choosePiece, Cond.selects RX0 yX0_choosePiece yX0_choosePiece, Cond.code yX0_choosePiece cX0_choosePiece 10 (some .int), Cond.methodLink RX0 87 yX0_isDue, Cond.instanceMethod yX0_isDue, Cond.selects RX0 yX0_isDue yX0_isDue, Cond.code yX0_isDue cX0_isDue 2 (some .boolean), Cond.methodLink RX0 83 yX0_isFree, Cond.instanceMethod yX0_isFree, Cond.selects RX0 yX0_isFree yX0_isFree, Cond.code yX0_isFree cX0_isFree 5 (some .boolean)]
def wsX3_flush_r3 : List Cond := [Cond.methodLink RX0 77 yX0_granuleSize, Cond.instanceMethod yX0_granuleSize, Cond.selects RX0 yX0_granuleSize yX0_granuleSize, Cond.code yX0_granuleSize cX0_granuleSize 1 (some .int), Cond.methodLink RX0 65 yX0_isAnyPinned, Cond.instanceMethod yX0_isAnyPinned, Cond.selects RX0 yX0_isAnyPinned yX0_isAnyPinned, Cond.code yX0_isAnyPinned cX0_isAnyPinned 4 (some .boolean), Cond.methodLink RX0 103 yX0_granulesFrom, Cond.instanceMethod yX0_granulesFrom, Cond.selects RX0 yX0_granulesFrom yX0_granulesFrom, Cond.code yX0_granulesFrom cX0_granulesFrom 4 (some .int), Cond.methodLink RX0 107 yX0_discard, Cond.instanceMethod yX0_discard, Cond.selects RX0 yX0_discard yX0_discard, Cond.code yX0_discard cX0_discard 6 none, Cond.methodLink RX0 58 yX0_dropSurplus, Cond.instanceMethod yX0_dropSurplus, Cond.selects RX0 yX0_dropSurplus yX0_dropSurplus, Cond.code yX0_dropSurplus cX0_dropSurplus 4 none, Cond.methodLink RX0 69 yX0_countRangesAhead, Cond.instanceMethod yX0_countRangesAhead, Cond.selects RX0 yX0_countRangesAhead yX0_countRangesAhead, Cond.code yX0_countRangesAhead cX0_countRangesAhead 6 (some .int)]
def wsX3_flush_r4 : List Cond := [Cond.methodLink RX0 73 yX0_shortestRange, Cond.instanceMethod yX0_shortestRange, Cond.selects RX0 yX0_shortestRange yX0_shortestRange, Cond.code yX0_shortestRange cX0_shortestRange 5 (some .int)]
def wsX3_flush : List Cond := .code yX3_flush cX3_flush 1 (some .int) :: ((wsX3_flush_r1 ++ (wsX3_flush_r2 ++ (wsX3_flush_r3 ++ wsX3_flush_r4))) ++ wsX30 ++ wsX10 ++ wsX00)
def wsX3_set_r1 : List Cond := [Cond.classLink RX3 41 "java/lang/IllegalArgumentException", Cond.initialized "java/lang/IllegalArgumentException", Cond.fieldLink RX3 29 "IdleDiscards" "past" "LIdleDiscards$Past;", Cond.fieldLink RX3 19 "IdleDiscards" "device" "LIdleDiscards$Device;", Cond.methodLink RX3 232 yX3_isValue, Cond.static yX3_isValue, Cond.initialized RX3, Cond.code yX3_isValue cX3_isValue 2 (some .boolean), Cond.fieldLink RX3 273 "IdleDiscards" "GREATEST_SETTINGS" "[I", Cond.methodLink RX3 198 yX3_isSetting, Cond.static yX3_isSetting, Cond.code yX3_isSetting cX3_isSetting 1 (some .boolean), Cond.methodLink RX3 210 yX1_remember, Cond.instanceMethod yX1_remember, Cond.selects RX1 yX1_remember yX1_remember, Cond.initialized RX1, Cond.code yX1_remember cX1_remember 2 none, Cond.fieldLink RX1 18 "IdleDiscards$Past" "size" "I", Cond.fieldLink RX1 22 "IdleDiscards$Past" "oldest" "I", Cond.fieldLink RX1 11 "IdleDiscards$Past" "states" "[LIdleDiscards$Device;", Cond.methodLink RX1 25 yX1_newest, Cond.instanceMethod yX1_newest, Cond.selects RX1 yX1_newest yX1_newest, Cond.code yX1_newest cX1_newest 1 (some .int)]
def wsX3_set_r2 : List Cond := [Cond.methodLink RX1 29 yX0_copyFrom, Cond.instanceMethod yX0_copyFrom, Cond.selects RX0 yX0_copyFrom yX0_copyFrom, Cond.initialized RX0, Cond.code yX0_copyFrom cX0_copyFrom 2 none, Cond.fieldLink RX0 9 "IdleDiscards$Device" "blocks" "[I", Cond.methodLink RX0 36 arraycopyName, Cond.native arraycopyName, Cond.static arraycopyName, Cond.initialized "java/lang/System", Cond.fieldLink RX0 15 "IdleDiscards$Device" "pinFirst" "[I", Cond.fieldLink RX0 18 "IdleDiscards$Device" "pinLength" "[I", Cond.fieldLink RX0 21 "IdleDiscards$Device" "settings" "[I", Cond.fieldLink RX0 42 "IdleDiscards$Device" "time" "I", Cond.fieldLink RX0 46 "IdleDiscards$Device" "quiet" "I", Cond.fieldLink RX0 49 "IdleDiscards$Device" "commands" "I", Cond.fieldLink RX0 52 "IdleDiscards$Device" "discarded" "I", Cond.fieldLink RX0 55 "IdleDiscards$Device" "dropped" "I", Cond.methodLink RX3 203 yX0_settingAt, Cond.instanceMethod yX0_settingAt, Cond.selects RX0 yX0_settingAt yX0_settingAt, Cond.code yX0_settingAt cX0_settingAt 2 (some .int), Cond.methodLink RX3 237 yX0_changeSetting, Cond.instanceMethod yX0_changeSetting]
def wsX3_set_r3 : List Cond := [Cond.selects RX0 yX0_changeSetting yX0_changeSetting, Cond.code yX0_changeSetting cX0_changeSetting 3 none]
def wsX3_set : List Cond := .code yX3_set cX3_set 4 (some .int) :: ((wsX3_set_r1 ++ (wsX3_set_r2 ++ wsX3_set_r3)) ++ wsX30 ++ wsX10 ++ wsX00 ++ (vx_atS RX3 45 "java/lang/IllegalArgumentException" ["java/lang/RuntimeException", "java/lang/Exception"]).filter goodWord)
def wsX3_undo_r1 : List Cond := [Cond.classLink RX3 52 "java/lang/IllegalStateException", Cond.initialized "java/lang/IllegalStateException", Cond.fieldLink RX3 29 "IdleDiscards" "past" "LIdleDiscards$Past;", Cond.fieldLink RX3 19 "IdleDiscards" "device" "LIdleDiscards$Device;", Cond.methodLink RX3 240 yX1_size, Cond.instanceMethod yX1_size, Cond.selects RX1 yX1_size yX1_size, Cond.initialized RX1, Cond.code yX1_size cX1_size 1 (some .int), Cond.fieldLink RX1 18 "IdleDiscards$Past" "size" "I", Cond.methodLink RX3 245 yX1_takeBack, Cond.instanceMethod yX1_takeBack, Cond.selects RX1 yX1_takeBack yX1_takeBack, Cond.code yX1_takeBack cX1_takeBack 2 none, Cond.fieldLink RX1 11 "IdleDiscards$Past" "states" "[LIdleDiscards$Device;", Cond.methodLink RX1 25 yX1_newest, Cond.instanceMethod yX1_newest, Cond.selects RX1 yX1_newest yX1_newest, Cond.code yX1_newest cX1_newest 1 (some .int), Cond.fieldLink RX1 22 "IdleDiscards$Past" "oldest" "I", Cond.methodLink RX1 29 yX0_copyFrom, Cond.instanceMethod yX0_copyFrom, Cond.selects RX0 yX0_copyFrom yX0_copyFrom, Cond.initialized RX0]
def wsX3_undo_r2 : List Cond := [Cond.code yX0_copyFrom cX0_copyFrom 2 none, Cond.fieldLink RX0 9 "IdleDiscards$Device" "blocks" "[I", Cond.methodLink RX0 36 arraycopyName, Cond.native arraycopyName, Cond.static arraycopyName, Cond.initialized "java/lang/System", Cond.fieldLink RX0 15 "IdleDiscards$Device" "pinFirst" "[I", Cond.fieldLink RX0 18 "IdleDiscards$Device" "pinLength" "[I", Cond.fieldLink RX0 21 "IdleDiscards$Device" "settings" "[I", Cond.fieldLink RX0 42 "IdleDiscards$Device" "time" "I", Cond.fieldLink RX0 46 "IdleDiscards$Device" "quiet" "I", Cond.fieldLink RX0 49 "IdleDiscards$Device" "commands" "I", Cond.fieldLink RX0 52 "IdleDiscards$Device" "discarded" "I", Cond.fieldLink RX0 55 "IdleDiscards$Device" "dropped" "I"]
def wsX3_undo : List Cond := .code yX3_undo cX3_undo 1 (some .int) :: ((wsX3_undo_r1 ++ wsX3_undo_r2) ++ wsX30 ++ wsX10 ++ wsX00 ++ (vx_atS RX3 56 "java/lang/IllegalStateException" ["java/lang/RuntimeException", "java/lang/Exception"]).filter goodWord)
def wsX3_ofCommand_r1 : List Cond := [Cond.fieldLink RX3 23 "IdleDiscards" "copy" "LIdleDiscards$Device;", Cond.methodLink RX3 262 yX0_granuleSize, Cond.instanceMethod yX0_granuleSize, Cond.selects RX0 yX0_granuleSize yX0_granuleSize, Cond.initialized RX0, Cond.code yX0_granuleSize cX0_granuleSize 1 (some .int), Cond.fieldLink RX0 21 "IdleDiscards$Device" "settings" "[I", Cond.methodLink RX3 265 yX0_granulesOfTick, Cond.instanceMethod yX0_granulesOfTick, Cond.selects RX0 yX0_granulesOfTick yX0_granulesOfTick, Cond.code yX0_granulesOfTick cX0_granulesOfTick 2 (some .int), Cond.methodLink RX0 93 yX0_budgetOfTick, Cond.instanceMethod yX0_budgetOfTick, Cond.selects RX0 yX0_budgetOfTick yX0_budgetOfTick, Cond.code yX0_budgetOfTick cX0_budgetOfTick 1 (some .int), Cond.fieldLink RX0 46 "IdleDiscards$Device" "quiet" "I", Cond.methodLink RX0 100 yX0_mostGranules, Cond.instanceMethod yX0_mostGranules, Cond.selects RX0 yX0_mostGranules yX0_mostGranules, Cond.code yX0_mostGranules cX0_mostGranules 2 (some .int), Cond.methodLink RX0 111 Lib.Math.min.name, Cond.static Lib.Math.min.name, Cond.initialized "java/lang/Math", Cond.code Lib.Math.min.name Lib.Math.min.code 2 (some .int)]
def wsX3_ofCommand_r2 : List Cond := [Cond.methodLink RX0 103 yX0_granulesFrom, Cond.instanceMethod yX0_granulesFrom, Cond.selects RX0 yX0_granulesFrom yX0_granulesFrom, Cond.code yX0_granulesFrom cX0_granulesFrom 4 (some .int), Cond.methodLink RX0 83 yX0_isFree, Cond.instanceMethod yX0_isFree, Cond.selects RX0 yX0_isFree yX0_isFree, Cond.code yX0_isFree cX0_isFree 5 (some .boolean), Cond.fieldLink RX0 9 "IdleDiscards$Device" "blocks" "[I", Cond.methodLink RX0 77 yX0_granuleSize, Cond.methodLink RX0 65 yX0_isAnyPinned, Cond.instanceMethod yX0_isAnyPinned, Cond.selects RX0 yX0_isAnyPinned yX0_isAnyPinned, Cond.code yX0_isAnyPinned cX0_isAnyPinned 4 (some .boolean), Cond.fieldLink RX0 18 "IdleDiscards$Device" "pinLength" "[I", Cond.fieldLink RX0 15 "IdleDiscards$Device" "pinFirst" "[I", Cond.methodLink RX3 118 yX0_time, Cond.instanceMethod yX0_time, Cond.selects RX0 yX0_time yX0_time, Cond.code yX0_time cX0_time 1 (some .int), Cond.fieldLink RX0 42 "IdleDiscards$Device" "time" "I"]
def wsX3_ofCommand : List Cond := .code yX3_ofCommand cX3_ofCommand 3 (some .int) :: ((wsX3_ofCommand_r1 ++ wsX3_ofCommand_r2) ++ wsX30 ++ wsX00)
def wsX3_next_r1 : List Cond := [Cond.classLink RX3 41 "java/lang/IllegalArgumentException", Cond.initialized "java/lang/IllegalArgumentException", Cond.fieldLink RX3 23 "IdleDiscards" "copy" "LIdleDiscards$Device;", Cond.fieldLink RX3 19 "IdleDiscards" "device" "LIdleDiscards$Device;", Cond.methodLink RX3 250 yX0_copyFrom, Cond.instanceMethod yX0_copyFrom, Cond.selects RX0 yX0_copyFrom yX0_copyFrom, Cond.initialized RX0, Cond.code yX0_copyFrom cX0_copyFrom 2 none, Cond.fieldLink RX0 9 "IdleDiscards$Device" "blocks" "[I", Cond.methodLink RX0 36 arraycopyName, Cond.native arraycopyName, Cond.static arraycopyName, Cond.initialized "java/lang/System", Cond.fieldLink RX0 15 "IdleDiscards$Device" "pinFirst" "[I", Cond.fieldLink RX0 18 "IdleDiscards$Device" "pinLength" "[I", Cond.fieldLink RX0 21 "IdleDiscards$Device" "settings" "[I", Cond.fieldLink RX0 42 "IdleDiscards$Device" "time" "I", Cond.fieldLink RX0 46 "IdleDiscards$Device" "quiet" "I", Cond.fieldLink RX0 49 "IdleDiscards$Device" "commands" "I", Cond.fieldLink RX0 52 "IdleDiscards$Device" "discarded" "I", Cond.fieldLink RX0 55 "IdleDiscards$Device" "dropped" "I", Cond.methodLink RX3 253 yX0_pieceOfTick, Cond.instanceMethod yX0_pieceOfTick]
def wsX3_next_r2 : List Cond := [Cond.selects RX0 yX0_pieceOfTick yX0_pieceOfTick, Cond.code yX0_pieceOfTick cX0_pieceOfTick 1 (some .int), Cond.methodLink RX0 93 yX0_budgetOfTick, Cond.instanceMethod yX0_budgetOfTick, Cond.selects RX0 yX0_budgetOfTick yX0_budgetOfTick, Cond.code yX0_budgetOfTick cX0_budgetOfTick 1 (some .int), Cond.methodLink RX0 96 yX0_choosePiece, Cond.instanceMethod yX0_choosePiece, Cond.selects RX0 yX0_choosePiece yX0_choosePiece, Cond.code yX0_choosePiece cX0_choosePiece 10 (some .int), Cond.methodLink RX0 87 yX0_isDue, Cond.instanceMethod yX0_isDue, Cond.selects RX0 yX0_isDue yX0_isDue, Cond.code yX0_isDue cX0_isDue 2 (some .boolean), Cond.methodLink RX0 83 yX0_isFree, Cond.instanceMethod yX0_isFree, Cond.selects RX0 yX0_isFree yX0_isFree, Cond.code yX0_isFree cX0_isFree 5 (some .boolean), Cond.methodLink RX0 77 yX0_granuleSize, Cond.instanceMethod yX0_granuleSize, Cond.selects RX0 yX0_granuleSize yX0_granuleSize, Cond.code yX0_granuleSize cX0_granuleSize 1 (some .int), Cond.methodLink RX0 65 yX0_isAnyPinned, Cond.instanceMethod yX0_isAnyPinned]
def wsX3_next_r3 : List Cond := [Cond.selects RX0 yX0_isAnyPinned yX0_isAnyPinned, Cond.code yX0_isAnyPinned cX0_isAnyPinned 4 (some .boolean), Cond.methodLink RX3 256 yX3_ofCommand, Cond.instanceMethod yX3_ofCommand, Cond.selects RX3 yX3_ofCommand yX3_ofCommand, Cond.initialized RX3, Cond.code yX3_ofCommand cX3_ofCommand 3 (some .int), Cond.methodLink RX3 262 yX0_granuleSize, Cond.methodLink RX3 265 yX0_granulesOfTick, Cond.instanceMethod yX0_granulesOfTick, Cond.selects RX0 yX0_granulesOfTick yX0_granulesOfTick, Cond.code yX0_granulesOfTick cX0_granulesOfTick 2 (some .int), Cond.methodLink RX0 100 yX0_mostGranules, Cond.instanceMethod yX0_mostGranules, Cond.selects RX0 yX0_mostGranules yX0_mostGranules, Cond.code yX0_mostGranules cX0_mostGranules 2 (some .int), Cond.methodLink RX0 111 Lib.Math.min.name, Cond.static Lib.Math.min.name, Cond.initialized "java/lang/Math", Cond.code Lib.Math.min.name Lib.Math.min.code 2 (some .int), Cond.methodLink RX0 103 yX0_granulesFrom, Cond.instanceMethod yX0_granulesFrom, Cond.selects RX0 yX0_granulesFrom yX0_granulesFrom, Cond.code yX0_granulesFrom cX0_granulesFrom 4 (some .int)]
def wsX3_next_r4 : List Cond := [Cond.methodLink RX3 118 yX0_time, Cond.instanceMethod yX0_time, Cond.selects RX0 yX0_time yX0_time, Cond.code yX0_time cX0_time 1 (some .int), Cond.methodLink RX3 259 yX0_tick, Cond.instanceMethod yX0_tick, Cond.selects RX0 yX0_tick yX0_tick, Cond.code yX0_tick cX0_tick 5 none, Cond.methodLink RX0 107 yX0_discard, Cond.instanceMethod yX0_discard, Cond.selects RX0 yX0_discard yX0_discard, Cond.code yX0_discard cX0_discard 6 none, Cond.methodLink RX0 58 yX0_dropSurplus, Cond.instanceMethod yX0_dropSurplus, Cond.selects RX0 yX0_dropSurplus yX0_dropSurplus, Cond.code yX0_dropSurplus cX0_dropSurplus 4 none, Cond.methodLink RX0 69 yX0_countRangesAhead, Cond.instanceMethod yX0_countRangesAhead, Cond.selects RX0 yX0_countRangesAhead yX0_countRangesAhead, Cond.code yX0_countRangesAhead cX0_countRangesAhead 6 (some .int), Cond.methodLink RX0 73 yX0_shortestRange, Cond.instanceMethod yX0_shortestRange, Cond.selects RX0 yX0_shortestRange yX0_shortestRange, Cond.code yX0_shortestRange cX0_shortestRange 5 (some .int)]
def wsX3_next : List Cond := .code yX3_next cX3_next 4 (some .int) :: ((wsX3_next_r1 ++ (wsX3_next_r2 ++ (wsX3_next_r3 ++ wsX3_next_r4))) ++ wsX30 ++ wsX00 ++ (vx_atS RX3 45 "java/lang/IllegalArgumentException" ["java/lang/RuntimeException", "java/lang/Exception"]).filter goodWord)
def wsX3_goneIn_r1 : List Cond := [Cond.fieldLink RX3 23 "IdleDiscards" "copy" "LIdleDiscards$Device;", Cond.fieldLink RX3 19 "IdleDiscards" "device" "LIdleDiscards$Device;", Cond.methodLink RX3 138 yX3_checkBlock, Cond.static yX3_checkBlock, Cond.initialized RX3, Cond.code yX3_checkBlock cX3_checkBlock 1 none, Cond.classLink RX3 158 "java/lang/IndexOutOfBoundsException", Cond.initialized "java/lang/IndexOutOfBoundsException", Cond.methodLink RX3 294 yX3_isBlock, Cond.static yX3_isBlock, Cond.code yX3_isBlock cX3_isBlock 1 (some .boolean), Cond.methodLink RX3 250 yX0_copyFrom, Cond.instanceMethod yX0_copyFrom, Cond.selects RX0 yX0_copyFrom yX0_copyFrom, Cond.initialized RX0, Cond.code yX0_copyFrom cX0_copyFrom 2 none, Cond.fieldLink RX0 9 "IdleDiscards$Device" "blocks" "[I", Cond.methodLink RX0 36 arraycopyName, Cond.native arraycopyName, Cond.static arraycopyName, Cond.initialized "java/lang/System", Cond.fieldLink RX0 15 "IdleDiscards$Device" "pinFirst" "[I", Cond.fieldLink RX0 18 "IdleDiscards$Device" "pinLength" "[I", Cond.fieldLink RX0 21 "IdleDiscards$Device" "settings" "[I"]
def wsX3_goneIn_r2 : List Cond := [Cond.fieldLink RX0 42 "IdleDiscards$Device" "time" "I", Cond.fieldLink RX0 46 "IdleDiscards$Device" "quiet" "I", Cond.fieldLink RX0 49 "IdleDiscards$Device" "commands" "I", Cond.fieldLink RX0 52 "IdleDiscards$Device" "discarded" "I", Cond.fieldLink RX0 55 "IdleDiscards$Device" "dropped" "I", Cond.methodLink RX3 268 yX0_isQueued, Cond.instanceMethod yX0_isQueued, Cond.selects RX0 yX0_isQueued yX0_isQueued, Cond.code yX0_isQueued cX0_isQueued 2 (some .boolean), Cond.methodLink RX3 259 yX0_tick, Cond.instanceMethod yX0_tick, Cond.selects RX0 yX0_tick yX0_tick, Cond.code yX0_tick cX0_tick 5 none, Cond.methodLink RX0 93 yX0_budgetOfTick, Cond.instanceMethod yX0_budgetOfTick, Cond.selects RX0 yX0_budgetOfTick yX0_budgetOfTick, Cond.code yX0_budgetOfTick cX0_budgetOfTick 1 (some .int), Cond.methodLink RX0 96 yX0_choosePiece, Cond.instanceMethod yX0_choosePiece, Cond.selects RX0 yX0_choosePiece yX0_choosePiece, Cond.code yX0_choosePiece cX0_choosePiece 10 (some .int), Cond.methodLink RX0 87 yX0_isDue, Cond.instanceMethod yX0_isDue, Cond.selects RX0 yX0_isDue yX0_isDue]
def wsX3_goneIn_r3 : List Cond := [Cond.code yX0_isDue cX0_isDue 2 (some .boolean), Cond.methodLink RX0 83 yX0_isFree, Cond.instanceMethod yX0_isFree, Cond.selects RX0 yX0_isFree yX0_isFree, Cond.code yX0_isFree cX0_isFree 5 (some .boolean), Cond.methodLink RX0 77 yX0_granuleSize, Cond.instanceMethod yX0_granuleSize, Cond.selects RX0 yX0_granuleSize yX0_granuleSize, Cond.code yX0_granuleSize cX0_granuleSize 1 (some .int), Cond.methodLink RX0 65 yX0_isAnyPinned, Cond.instanceMethod yX0_isAnyPinned, Cond.selects RX0 yX0_isAnyPinned yX0_isAnyPinned, Cond.code yX0_isAnyPinned cX0_isAnyPinned 4 (some .boolean), Cond.methodLink RX0 100 yX0_mostGranules, Cond.instanceMethod yX0_mostGranules, Cond.selects RX0 yX0_mostGranules yX0_mostGranules, Cond.code yX0_mostGranules cX0_mostGranules 2 (some .int), Cond.methodLink RX0 111 Lib.Math.min.name, Cond.static Lib.Math.min.name, Cond.initialized "java/lang/Math", Cond.code Lib.Math.min.name Lib.Math.min.code 2 (some .int), Cond.methodLink RX0 103 yX0_granulesFrom, Cond.instanceMethod yX0_granulesFrom, Cond.selects RX0 yX0_granulesFrom yX0_granulesFrom]
def wsX3_goneIn_r4 : List Cond := [Cond.code yX0_granulesFrom cX0_granulesFrom 4 (some .int), Cond.methodLink RX0 107 yX0_discard, Cond.instanceMethod yX0_discard, Cond.selects RX0 yX0_discard yX0_discard, Cond.code yX0_discard cX0_discard 6 none, Cond.methodLink RX0 58 yX0_dropSurplus, Cond.instanceMethod yX0_dropSurplus, Cond.selects RX0 yX0_dropSurplus yX0_dropSurplus, Cond.code yX0_dropSurplus cX0_dropSurplus 4 none, Cond.methodLink RX0 69 yX0_countRangesAhead, Cond.instanceMethod yX0_countRangesAhead, Cond.selects RX0 yX0_countRangesAhead yX0_countRangesAhead, Cond.code yX0_countRangesAhead cX0_countRangesAhead 6 (some .int), Cond.methodLink RX0 73 yX0_shortestRange, Cond.instanceMethod yX0_shortestRange, Cond.selects RX0 yX0_shortestRange yX0_shortestRange, Cond.code yX0_shortestRange cX0_shortestRange 5 (some .int), Cond.methodLink RX3 146 yX0_isHeld, Cond.instanceMethod yX0_isHeld, Cond.selects RX0 yX0_isHeld yX0_isHeld, Cond.code yX0_isHeld cX0_isHeld 2 (some .boolean), Cond.methodLink RX3 118 yX0_time, Cond.instanceMethod yX0_time, Cond.selects RX0 yX0_time yX0_time]
def wsX3_goneIn_r5 : List Cond := [Cond.code yX0_time cX0_time 1 (some .int)]
def wsX3_goneIn : List Cond := .code yX3_goneIn cX3_goneIn 3 (some .int) :: ((wsX3_goneIn_r1 ++ (wsX3_goneIn_r2 ++ (wsX3_goneIn_r3 ++ (wsX3_goneIn_r4 ++ wsX3_goneIn_r5)))) ++ wsX30 ++ wsX00 ++ (vx_atS RX3 162 "java/lang/IndexOutOfBoundsException" ["java/lang/RuntimeException", "java/lang/Exception"]).filter goodWord)
def wsX3_coming_r1 : List Cond := [Cond.classLink RX3 41 "java/lang/IllegalArgumentException", Cond.initialized "java/lang/IllegalArgumentException", Cond.fieldLink RX3 23 "IdleDiscards" "copy" "LIdleDiscards$Device;", Cond.fieldLink RX3 19 "IdleDiscards" "device" "LIdleDiscards$Device;", Cond.methodLink RX3 226 yX3_checkTicks, Cond.static yX3_checkTicks, Cond.initialized RX3, Cond.code yX3_checkTicks cX3_checkTicks 2 none, Cond.methodLink RX3 291 yX3_isTicks, Cond.static yX3_isTicks, Cond.code yX3_isTicks cX3_isTicks 2 (some .boolean), Cond.methodLink RX3 250 yX0_copyFrom, Cond.instanceMethod yX0_copyFrom, Cond.selects RX0 yX0_copyFrom yX0_copyFrom, Cond.initialized RX0, Cond.code yX0_copyFrom cX0_copyFrom 2 none, Cond.fieldLink RX0 9 "IdleDiscards$Device" "blocks" "[I", Cond.methodLink RX0 36 arraycopyName, Cond.native arraycopyName, Cond.static arraycopyName, Cond.initialized "java/lang/System", Cond.fieldLink RX0 15 "IdleDiscards$Device" "pinFirst" "[I", Cond.fieldLink RX0 18 "IdleDiscards$Device" "pinLength" "[I", Cond.fieldLink RX0 21 "IdleDiscards$Device" "settings" "[I"]
def wsX3_coming_r2 : List Cond := [Cond.fieldLink RX0 42 "IdleDiscards$Device" "time" "I", Cond.fieldLink RX0 46 "IdleDiscards$Device" "quiet" "I", Cond.fieldLink RX0 49 "IdleDiscards$Device" "commands" "I", Cond.fieldLink RX0 52 "IdleDiscards$Device" "discarded" "I", Cond.fieldLink RX0 55 "IdleDiscards$Device" "dropped" "I", Cond.methodLink RX3 99 yX0_passTicks, Cond.instanceMethod yX0_passTicks, Cond.selects RX0 yX0_passTicks yX0_passTicks, Cond.code yX0_passTicks cX0_passTicks 4 (some .int), Cond.methodLink RX0 90 yX0_tick, Cond.instanceMethod yX0_tick, Cond.selects RX0 yX0_tick yX0_tick, Cond.code yX0_tick cX0_tick 5 none, Cond.methodLink RX0 93 yX0_budgetOfTick, Cond.instanceMethod yX0_budgetOfTick, Cond.selects RX0 yX0_budgetOfTick yX0_budgetOfTick, Cond.code yX0_budgetOfTick cX0_budgetOfTick 1 (some .int), Cond.methodLink RX0 96 yX0_choosePiece, Cond.instanceMethod yX0_choosePiece, Cond.selects RX0 yX0_choosePiece yX0_choosePiece, Cond.code yX0_choosePiece cX0_choosePiece 10 (some .int), Cond.methodLink RX0 87 yX0_isDue, Cond.instanceMethod yX0_isDue, Cond.selects RX0 yX0_isDue yX0_isDue]
def wsX3_coming_r3 : List Cond := [Cond.code yX0_isDue cX0_isDue 2 (some .boolean), Cond.methodLink RX0 83 yX0_isFree, Cond.instanceMethod yX0_isFree, Cond.selects RX0 yX0_isFree yX0_isFree, Cond.code yX0_isFree cX0_isFree 5 (some .boolean), Cond.methodLink RX0 77 yX0_granuleSize, Cond.instanceMethod yX0_granuleSize, Cond.selects RX0 yX0_granuleSize yX0_granuleSize, Cond.code yX0_granuleSize cX0_granuleSize 1 (some .int), Cond.methodLink RX0 65 yX0_isAnyPinned, Cond.instanceMethod yX0_isAnyPinned, Cond.selects RX0 yX0_isAnyPinned yX0_isAnyPinned, Cond.code yX0_isAnyPinned cX0_isAnyPinned 4 (some .boolean), Cond.methodLink RX0 100 yX0_mostGranules, Cond.instanceMethod yX0_mostGranules, Cond.selects RX0 yX0_mostGranules yX0_mostGranules, Cond.code yX0_mostGranules cX0_mostGranules 2 (some .int), Cond.methodLink RX0 111 Lib.Math.min.name, Cond.static Lib.Math.min.name, Cond.initialized "java/lang/Math", Cond.code Lib.Math.min.name Lib.Math.min.code 2 (some .int), Cond.methodLink RX0 103 yX0_granulesFrom, Cond.instanceMethod yX0_granulesFrom, Cond.selects RX0 yX0_granulesFrom yX0_granulesFrom]
def wsX3_coming_r4 : List Cond := [Cond.code yX0_granulesFrom cX0_granulesFrom 4 (some .int), Cond.methodLink RX0 107 yX0_discard, Cond.instanceMethod yX0_discard, Cond.selects RX0 yX0_discard yX0_discard, Cond.code yX0_discard cX0_discard 6 none, Cond.methodLink RX0 58 yX0_dropSurplus, Cond.instanceMethod yX0_dropSurplus, Cond.selects RX0 yX0_dropSurplus yX0_dropSurplus, Cond.code yX0_dropSurplus cX0_dropSurplus 4 none, Cond.methodLink RX0 69 yX0_countRangesAhead, Cond.instanceMethod yX0_countRangesAhead, Cond.selects RX0 yX0_countRangesAhead yX0_countRangesAhead, Cond.code yX0_countRangesAhead cX0_countRangesAhead 6 (some .int), Cond.methodLink RX0 73 yX0_shortestRange, Cond.instanceMethod yX0_shortestRange, Cond.selects RX0 yX0_shortestRange yX0_shortestRange, Cond.code yX0_shortestRange cX0_shortestRange 5 (some .int), Cond.methodLink RX3 124 yX0_commands, Cond.instanceMethod yX0_commands, Cond.selects RX0 yX0_commands yX0_commands, Cond.code yX0_commands cX0_commands 1 (some .int), Cond.methodLink RX3 112 yX0_countRanges, Cond.instanceMethod yX0_countRanges, Cond.selects RX0 yX0_countRanges yX0_countRanges]
def wsX3_coming_r5 : List Cond := [Cond.code yX0_countRanges cX0_countRanges 1 (some .int), Cond.methodLink RX3 115 yX0_countQueued, Cond.instanceMethod yX0_countQueued, Cond.selects RX0 yX0_countQueued yX0_countQueued, Cond.code yX0_countQueued cX0_countQueued 3 (some .int)]
def wsX3_coming : List Cond := .code yX3_coming cX3_coming 4 (some .int) :: ((wsX3_coming_r1 ++ (wsX3_coming_r2 ++ (wsX3_coming_r3 ++ (wsX3_coming_r4 ++ wsX3_coming_r5)))) ++ wsX30 ++ wsX00 ++ (vx_atS RX3 45 "java/lang/IllegalArgumentException" ["java/lang/RuntimeException", "java/lang/Exception"]).filter goodWord)
def wsX3_bestGranule_r1 : List Cond := [Cond.fieldLink RX3 273 "IdleDiscards" "GREATEST_SETTINGS" "[I", Cond.fieldLink RX3 23 "IdleDiscards" "copy" "LIdleDiscards$Device;", Cond.fieldLink RX3 19 "IdleDiscards" "device" "LIdleDiscards$Device;", Cond.methodLink RX3 226 yX3_checkTicks, Cond.static yX3_checkTicks, Cond.initialized RX3, Cond.code yX3_checkTicks cX3_checkTicks 2 none, Cond.classLink RX3 41 "java/lang/IllegalArgumentException", Cond.initialized "java/lang/IllegalArgumentException", Cond.methodLink RX3 291 yX3_isTicks, Cond.static yX3_isTicks, Cond.code yX3_isTicks cX3_isTicks 2 (some .boolean), Cond.methodLink RX3 250 yX0_copyFrom, Cond.instanceMethod yX0_copyFrom, Cond.selects RX0 yX0_copyFrom yX0_copyFrom, Cond.initialized RX0, Cond.code yX0_copyFrom cX0_copyFrom 2 none, Cond.fieldLink RX0 9 "IdleDiscards$Device" "blocks" "[I", Cond.methodLink RX0 36 arraycopyName, Cond.native arraycopyName, Cond.static arraycopyName, Cond.initialized "java/lang/System", Cond.fieldLink RX0 15 "IdleDiscards$Device" "pinFirst" "[I", Cond.fieldLink RX0 18 "IdleDiscards$Device" "pinLength" "[I"]
def wsX3_bestGranule_r2 : List Cond := [Cond.fieldLink RX0 21 "IdleDiscards$Device" "settings" "[I", Cond.fieldLink RX0 42 "IdleDiscards$Device" "time" "I", Cond.fieldLink RX0 46 "IdleDiscards$Device" "quiet" "I", Cond.fieldLink RX0 49 "IdleDiscards$Device" "commands" "I", Cond.fieldLink RX0 52 "IdleDiscards$Device" "discarded" "I", Cond.fieldLink RX0 55 "IdleDiscards$Device" "dropped" "I", Cond.methodLink RX3 237 yX0_changeSetting, Cond.instanceMethod yX0_changeSetting, Cond.selects RX0 yX0_changeSetting yX0_changeSetting, Cond.code yX0_changeSetting cX0_changeSetting 3 none, Cond.methodLink RX3 99 yX0_passTicks, Cond.instanceMethod yX0_passTicks, Cond.selects RX0 yX0_passTicks yX0_passTicks, Cond.code yX0_passTicks cX0_passTicks 4 (some .int), Cond.methodLink RX0 90 yX0_tick, Cond.instanceMethod yX0_tick, Cond.selects RX0 yX0_tick yX0_tick, Cond.code yX0_tick cX0_tick 5 none, Cond.methodLink RX0 93 yX0_budgetOfTick, Cond.instanceMethod yX0_budgetOfTick, Cond.selects RX0 yX0_budgetOfTick yX0_budgetOfTick, Cond.code yX0_budgetOfTick cX0_budgetOfTick 1 (some .int), Cond.methodLink RX0 96 yX0_choosePiece, Cond.instanceMethod yX0_choosePiece]
def wsX3_bestGranule_r3 : List Cond := [Cond.selects RX0 yX0_choosePiece yX0_choosePiece, Cond.code yX0_choosePiece cX0_choosePiece 10 (some .int), Cond.methodLink RX0 87 yX0_isDue, Cond.instanceMethod yX0_isDue, Cond.selects RX0 yX0_isDue yX0_isDue, Cond.code yX0_isDue cX0_isDue 2 (some .boolean), Cond.methodLink RX0 83 yX0_isFree, Cond.instanceMethod yX0_isFree, Cond.selects RX0 yX0_isFree yX0_isFree, Cond.code yX0_isFree cX0_isFree 5 (some .boolean), Cond.methodLink RX0 77 yX0_granuleSize, Cond.instanceMethod yX0_granuleSize, Cond.selects RX0 yX0_granuleSize yX0_granuleSize, Cond.code yX0_granuleSize cX0_granuleSize 1 (some .int), Cond.methodLink RX0 65 yX0_isAnyPinned, Cond.instanceMethod yX0_isAnyPinned, Cond.selects RX0 yX0_isAnyPinned yX0_isAnyPinned, Cond.code yX0_isAnyPinned cX0_isAnyPinned 4 (some .boolean), Cond.methodLink RX0 100 yX0_mostGranules, Cond.instanceMethod yX0_mostGranules, Cond.selects RX0 yX0_mostGranules yX0_mostGranules, Cond.code yX0_mostGranules cX0_mostGranules 2 (some .int), Cond.methodLink RX0 111 Lib.Math.min.name, Cond.static Lib.Math.min.name]
def wsX3_bestGranule_r4 : List Cond := [Cond.initialized "java/lang/Math", Cond.code Lib.Math.min.name Lib.Math.min.code 2 (some .int), Cond.methodLink RX0 103 yX0_granulesFrom, Cond.instanceMethod yX0_granulesFrom, Cond.selects RX0 yX0_granulesFrom yX0_granulesFrom, Cond.code yX0_granulesFrom cX0_granulesFrom 4 (some .int), Cond.methodLink RX0 107 yX0_discard, Cond.instanceMethod yX0_discard, Cond.selects RX0 yX0_discard yX0_discard, Cond.code yX0_discard cX0_discard 6 none, Cond.methodLink RX0 58 yX0_dropSurplus, Cond.instanceMethod yX0_dropSurplus, Cond.selects RX0 yX0_dropSurplus yX0_dropSurplus, Cond.code yX0_dropSurplus cX0_dropSurplus 4 none, Cond.methodLink RX0 69 yX0_countRangesAhead, Cond.instanceMethod yX0_countRangesAhead, Cond.selects RX0 yX0_countRangesAhead yX0_countRangesAhead, Cond.code yX0_countRangesAhead cX0_countRangesAhead 6 (some .int), Cond.methodLink RX0 73 yX0_shortestRange, Cond.instanceMethod yX0_shortestRange, Cond.selects RX0 yX0_shortestRange yX0_shortestRange, Cond.code yX0_shortestRange cX0_shortestRange 5 (some .int)]
def wsX3_bestGranule : List Cond := .code yX3_bestGranule cX3_bestGranule 6 (some .int) :: ((wsX3_bestGranule_r1 ++ (wsX3_bestGranule_r2 ++ (wsX3_bestGranule_r3 ++ wsX3_bestGranule_r4))) ++ wsX30 ++ wsX00 ++ (vx_atS RX3 45 "java/lang/IllegalArgumentException" ["java/lang/RuntimeException", "java/lang/Exception"]).filter goodWord)
def wsX3_ifWritten_r1 : List Cond := [Cond.fieldLink RX3 23 "IdleDiscards" "copy" "LIdleDiscards$Device;", Cond.fieldLink RX3 19 "IdleDiscards" "device" "LIdleDiscards$Device;", Cond.methodLink RX3 206 yX3_checkSpan, Cond.static yX3_checkSpan, Cond.initialized RX3, Cond.code yX3_checkSpan cX3_checkSpan 2 none, Cond.classLink RX3 41 "java/lang/IllegalArgumentException", Cond.initialized "java/lang/IllegalArgumentException", Cond.classLink RX3 52 "java/lang/IllegalStateException", Cond.initialized "java/lang/IllegalStateException", Cond.methodLink RX3 138 yX3_checkBlock, Cond.static yX3_checkBlock, Cond.code yX3_checkBlock cX3_checkBlock 1 none, Cond.classLink RX3 158 "java/lang/IndexOutOfBoundsException", Cond.initialized "java/lang/IndexOutOfBoundsException", Cond.methodLink RX3 294 yX3_isBlock, Cond.static yX3_isBlock, Cond.code yX3_isBlock cX3_isBlock 1 (some .boolean), Cond.methodLink RX3 311 yX3_isLength, Cond.static yX3_isLength, Cond.code yX3_isLength cX3_isLength 1 (some .boolean), Cond.methodLink RX3 318 yX3_isSpan, Cond.static yX3_isSpan, Cond.code yX3_isSpan cX3_isSpan 2 (some .boolean)]
def wsX3_ifWritten_r2 : List Cond := [Cond.methodLink RX3 250 yX0_copyFrom, Cond.instanceMethod yX0_copyFrom, Cond.selects RX0 yX0_copyFrom yX0_copyFrom, Cond.initialized RX0, Cond.code yX0_copyFrom cX0_copyFrom 2 none, Cond.fieldLink RX0 9 "IdleDiscards$Device" "blocks" "[I", Cond.methodLink RX0 36 arraycopyName, Cond.native arraycopyName, Cond.static arraycopyName, Cond.initialized "java/lang/System", Cond.fieldLink RX0 15 "IdleDiscards$Device" "pinFirst" "[I", Cond.fieldLink RX0 18 "IdleDiscards$Device" "pinLength" "[I", Cond.fieldLink RX0 21 "IdleDiscards$Device" "settings" "[I", Cond.fieldLink RX0 42 "IdleDiscards$Device" "time" "I", Cond.fieldLink RX0 46 "IdleDiscards$Device" "quiet" "I", Cond.fieldLink RX0 49 "IdleDiscards$Device" "commands" "I", Cond.fieldLink RX0 52 "IdleDiscards$Device" "discarded" "I", Cond.fieldLink RX0 55 "IdleDiscards$Device" "dropped" "I", Cond.methodLink RX3 214 yX0_writeSpan, Cond.instanceMethod yX0_writeSpan, Cond.selects RX0 yX0_writeSpan yX0_writeSpan, Cond.code yX0_writeSpan cX0_writeSpan 5 (some .int), Cond.methodLink RX0 58 yX0_dropSurplus, Cond.instanceMethod yX0_dropSurplus]
def wsX3_ifWritten_r3 : List Cond := [Cond.selects RX0 yX0_dropSurplus yX0_dropSurplus, Cond.code yX0_dropSurplus cX0_dropSurplus 4 none, Cond.methodLink RX0 69 yX0_countRangesAhead, Cond.instanceMethod yX0_countRangesAhead, Cond.selects RX0 yX0_countRangesAhead yX0_countRangesAhead, Cond.code yX0_countRangesAhead cX0_countRangesAhead 6 (some .int), Cond.methodLink RX0 73 yX0_shortestRange, Cond.instanceMethod yX0_shortestRange, Cond.selects RX0 yX0_shortestRange yX0_shortestRange, Cond.code yX0_shortestRange cX0_shortestRange 5 (some .int), Cond.methodLink RX3 112 yX0_countRanges, Cond.instanceMethod yX0_countRanges, Cond.selects RX0 yX0_countRanges yX0_countRanges, Cond.code yX0_countRanges cX0_countRanges 1 (some .int)]
def wsX3_ifWritten : List Cond := .code yX3_ifWritten cX3_ifWritten 3 (some .int) :: ((wsX3_ifWritten_r1 ++ (wsX3_ifWritten_r2 ++ wsX3_ifWritten_r3)) ++ wsX30 ++ wsX00 ++ (vx_atS RX3 45 "java/lang/IllegalArgumentException" ["java/lang/RuntimeException", "java/lang/Exception"]).filter goodWord ++ (vx_atS RX3 56 "java/lang/IllegalStateException" ["java/lang/RuntimeException", "java/lang/Exception"]).filter goodWord ++ (vx_atS RX3 162 "java/lang/IndexOutOfBoundsException" ["java/lang/RuntimeException", "java/lang/Exception"]).filter goodWord)
def wsX3_stuck_r1 : List Cond := [Cond.fieldLink RX3 19 "IdleDiscards" "device" "LIdleDiscards$Device;", Cond.methodLink RX3 115 yX0_countQueued, Cond.instanceMethod yX0_countQueued, Cond.selects RX0 yX0_countQueued yX0_countQueued, Cond.initialized RX0, Cond.code yX0_countQueued cX0_countQueued 3 (some .int), Cond.fieldLink RX0 9 "IdleDiscards$Device" "blocks" "[I", Cond.methodLink RX3 176 yX0_countGranules, Cond.instanceMethod yX0_countGranules, Cond.selects RX0 yX0_countGranules yX0_countGranules, Cond.code yX0_countGranules cX0_countGranules 6 (some .int), Cond.fieldLink RX0 21 "IdleDiscards$Device" "settings" "[I", Cond.methodLink RX0 80 yX0_granuleFrom, Cond.instanceMethod yX0_granuleFrom, Cond.selects RX0 yX0_granuleFrom yX0_granuleFrom, Cond.code yX0_granuleFrom cX0_granuleFrom 2 (some .int), Cond.methodLink RX0 77 yX0_granuleSize, Cond.instanceMethod yX0_granuleSize, Cond.selects RX0 yX0_granuleSize yX0_granuleSize, Cond.code yX0_granuleSize cX0_granuleSize 1 (some .int), Cond.methodLink RX0 83 yX0_isFree, Cond.instanceMethod yX0_isFree, Cond.selects RX0 yX0_isFree yX0_isFree, Cond.code yX0_isFree cX0_isFree 5 (some .boolean)]
def wsX3_stuck_r2 : List Cond := [Cond.methodLink RX0 65 yX0_isAnyPinned, Cond.instanceMethod yX0_isAnyPinned, Cond.selects RX0 yX0_isAnyPinned yX0_isAnyPinned, Cond.code yX0_isAnyPinned cX0_isAnyPinned 4 (some .boolean), Cond.fieldLink RX0 18 "IdleDiscards$Device" "pinLength" "[I", Cond.fieldLink RX0 15 "IdleDiscards$Device" "pinFirst" "[I", Cond.methodLink RX3 262 yX0_granuleSize]
def wsX3_stuck : List Cond := .code yX3_stuck cX3_stuck 1 (some .int) :: ((wsX3_stuck_r1 ++ wsX3_stuck_r2) ++ wsX30 ++ wsX00)
def wsX3_groupsFrom : List Cond := .code yX3_groupsFrom cX3_groupsFrom 6 (some .long) :: ([.constantLong RX3 285 (1000000)])
def wsX3_doScriptCommand_r1 : List Cond := [Cond.constant RX3 290 (100000), Cond.fieldLink RX3 23 "IdleDiscards" "copy" "LIdleDiscards$Device;", Cond.methodLink RX3 92 yX3_writeIfAllowed, Cond.static yX3_writeIfAllowed, Cond.initialized RX3, Cond.code yX3_writeIfAllowed cX3_writeIfAllowed 3 (some .boolean), Cond.methodLink RX3 318 yX3_isSpan, Cond.static yX3_isSpan, Cond.code yX3_isSpan cX3_isSpan 2 (some .boolean), Cond.methodLink RX3 294 yX3_isBlock, Cond.static yX3_isBlock, Cond.code yX3_isBlock cX3_isBlock 1 (some .boolean), Cond.methodLink RX3 311 yX3_isLength, Cond.static yX3_isLength, Cond.code yX3_isLength cX3_isLength 1 (some .boolean), Cond.methodLink RX3 214 yX0_writeSpan, Cond.instanceMethod yX0_writeSpan, Cond.selects RX0 yX0_writeSpan yX0_writeSpan, Cond.initialized RX0, Cond.code yX0_writeSpan cX0_writeSpan 5 (some .int), Cond.fieldLink RX0 9 "IdleDiscards$Device" "blocks" "[I", Cond.fieldLink RX0 46 "IdleDiscards$Device" "quiet" "I", Cond.methodLink RX0 58 yX0_dropSurplus, Cond.instanceMethod yX0_dropSurplus]
def wsX3_doScriptCommand_r2 : List Cond := [Cond.selects RX0 yX0_dropSurplus yX0_dropSurplus, Cond.code yX0_dropSurplus cX0_dropSurplus 4 none, Cond.fieldLink RX0 55 "IdleDiscards$Device" "dropped" "I", Cond.methodLink RX0 69 yX0_countRangesAhead, Cond.instanceMethod yX0_countRangesAhead, Cond.selects RX0 yX0_countRangesAhead yX0_countRangesAhead, Cond.code yX0_countRangesAhead cX0_countRangesAhead 6 (some .int), Cond.methodLink RX0 73 yX0_shortestRange, Cond.instanceMethod yX0_shortestRange, Cond.selects RX0 yX0_shortestRange yX0_shortestRange, Cond.code yX0_shortestRange cX0_shortestRange 5 (some .int), Cond.methodLink RX3 96 yX3_freeIfAllowed, Cond.static yX3_freeIfAllowed, Cond.code yX3_freeIfAllowed cX3_freeIfAllowed 3 (some .boolean), Cond.methodLink RX3 217 yX0_freeSpan, Cond.instanceMethod yX0_freeSpan, Cond.selects RX0 yX0_freeSpan yX0_freeSpan, Cond.code yX0_freeSpan cX0_freeSpan 5 (some .int), Cond.methodLink RX0 61 yX0_queueNow, Cond.instanceMethod yX0_queueNow, Cond.selects RX0 yX0_queueNow yX0_queueNow, Cond.code yX0_queueNow cX0_queueNow 3 none, Cond.fieldLink RX0 42 "IdleDiscards$Device" "time" "I", Cond.methodLink RX3 291 yX3_isTicks]
def wsX3_doScriptCommand_r3 : List Cond := [Cond.static yX3_isTicks, Cond.code yX3_isTicks cX3_isTicks 2 (some .boolean), Cond.methodLink RX3 99 yX0_passTicks, Cond.instanceMethod yX0_passTicks, Cond.selects RX0 yX0_passTicks yX0_passTicks, Cond.code yX0_passTicks cX0_passTicks 4 (some .int), Cond.fieldLink RX0 52 "IdleDiscards$Device" "discarded" "I", Cond.methodLink RX0 90 yX0_tick, Cond.instanceMethod yX0_tick, Cond.selects RX0 yX0_tick yX0_tick, Cond.code yX0_tick cX0_tick 5 none, Cond.fieldLink RX0 21 "IdleDiscards$Device" "settings" "[I", Cond.methodLink RX0 93 yX0_budgetOfTick, Cond.instanceMethod yX0_budgetOfTick, Cond.selects RX0 yX0_budgetOfTick yX0_budgetOfTick, Cond.code yX0_budgetOfTick cX0_budgetOfTick 1 (some .int), Cond.methodLink RX0 96 yX0_choosePiece, Cond.instanceMethod yX0_choosePiece, Cond.selects RX0 yX0_choosePiece yX0_choosePiece, Cond.code yX0_choosePiece cX0_choosePiece 10 (some .int), Cond.methodLink RX0 87 yX0_isDue, Cond.instanceMethod yX0_isDue, Cond.selects RX0 yX0_isDue yX0_isDue, Cond.code yX0_isDue cX0_isDue 2 (some .boolean)]
def wsX3_doScriptCommand_r4 : List Cond := [Cond.methodLink RX0 83 yX0_isFree, Cond.instanceMethod yX0_isFree, Cond.selects RX0 yX0_isFree yX0_isFree, Cond.code yX0_isFree cX0_isFree 5 (some .boolean), Cond.methodLink RX0 77 yX0_granuleSize, Cond.instanceMethod yX0_granuleSize, Cond.selects RX0 yX0_granuleSize yX0_granuleSize, Cond.code yX0_granuleSize cX0_granuleSize 1 (some .int), Cond.methodLink RX0 65 yX0_isAnyPinned, Cond.instanceMethod yX0_isAnyPinned, Cond.selects RX0 yX0_isAnyPinned yX0_isAnyPinned, Cond.code yX0_isAnyPinned cX0_isAnyPinned 4 (some .boolean), Cond.fieldLink RX0 18 "IdleDiscards$Device" "pinLength" "[I", Cond.fieldLink RX0 15 "IdleDiscards$Device" "pinFirst" "[I", Cond.methodLink RX0 100 yX0_mostGranules, Cond.instanceMethod yX0_mostGranules, Cond.selects RX0 yX0_mostGranules yX0_mostGranules, Cond.code yX0_mostGranules cX0_mostGranules 2 (some .int), Cond.methodLink RX0 111 Lib.Math.min.name, Cond.static Lib.Math.min.name, Cond.initialized "java/lang/Math", Cond.code Lib.Math.min.name Lib.Math.min.code 2 (some .int), Cond.methodLink RX0 103 yX0_granulesFrom, Cond.instanceMethod yX0_granulesFrom]
def wsX3_doScriptCommand_r5 : List Cond := [Cond.selects RX0 yX0_granulesFrom yX0_granulesFrom, Cond.code yX0_granulesFrom cX0_granulesFrom 4 (some .int), Cond.methodLink RX0 107 yX0_discard, Cond.instanceMethod yX0_discard, Cond.selects RX0 yX0_discard yX0_discard, Cond.code yX0_discard cX0_discard 6 none, Cond.fieldLink RX0 49 "IdleDiscards$Device" "commands" "I", Cond.methodLink RX3 106 yX3_setIfAllowed, Cond.static yX3_setIfAllowed, Cond.code yX3_setIfAllowed cX3_setIfAllowed 3 (some .boolean), Cond.methodLink RX3 232 yX3_isValue, Cond.static yX3_isValue, Cond.code yX3_isValue cX3_isValue 2 (some .boolean), Cond.fieldLink RX3 273 "IdleDiscards" "GREATEST_SETTINGS" "[I", Cond.methodLink RX3 198 yX3_isSetting, Cond.static yX3_isSetting, Cond.code yX3_isSetting cX3_isSetting 1 (some .boolean), Cond.methodLink RX3 237 yX0_changeSetting, Cond.instanceMethod yX0_changeSetting, Cond.selects RX0 yX0_changeSetting yX0_changeSetting, Cond.code yX0_changeSetting cX0_changeSetting 3 none, Cond.methodLink RX3 229 yX0_sendAll, Cond.instanceMethod yX0_sendAll, Cond.selects RX0 yX0_sendAll yX0_sendAll]
def wsX3_doScriptCommand_r6 : List Cond := [Cond.code yX0_sendAll cX0_sendAll 4 (some .int), Cond.methodLink RX3 146 yX0_isHeld, Cond.instanceMethod yX0_isHeld, Cond.selects RX0 yX0_isHeld yX0_isHeld, Cond.code yX0_isHeld cX0_isHeld 2 (some .boolean), Cond.methodLink RX3 115 yX0_countQueued, Cond.instanceMethod yX0_countQueued, Cond.selects RX0 yX0_countQueued yX0_countQueued, Cond.code yX0_countQueued cX0_countQueued 3 (some .int), Cond.methodLink RX3 112 yX0_countRanges, Cond.instanceMethod yX0_countRanges, Cond.selects RX0 yX0_countRanges yX0_countRanges, Cond.code yX0_countRanges cX0_countRanges 1 (some .int), Cond.methodLink RX3 142 yX0_isAlive, Cond.instanceMethod yX0_isAlive, Cond.selects RX0 yX0_isAlive yX0_isAlive, Cond.code yX0_isAlive cX0_isAlive 2 (some .boolean)]
def wsX3_doScriptCommand : List Cond := .code yX3_doScriptCommand cX3_doScriptCommand 3 (some .boolean) :: ((wsX3_doScriptCommand_r1 ++ (wsX3_doScriptCommand_r2 ++ (wsX3_doScriptCommand_r3 ++ (wsX3_doScriptCommand_r4 ++ (wsX3_doScriptCommand_r5 ++ wsX3_doScriptCommand_r6))))) ++ wsX30 ++ wsX00)
def wsX3_runScript_r1 : List Cond := [Cond.classLink RX3 41 "java/lang/IllegalArgumentException", Cond.initialized "java/lang/IllegalArgumentException", Cond.fieldLink RX3 23 "IdleDiscards" "copy" "LIdleDiscards$Device;", Cond.fieldLink RX3 19 "IdleDiscards" "device" "LIdleDiscards$Device;", Cond.constantLong RX3 285 (1000000), Cond.methodLink RX3 279 yX3_groupsFrom, Cond.static yX3_groupsFrom, Cond.initialized RX3, Cond.code yX3_groupsFrom cX3_groupsFrom 6 (some .long), Cond.methodLink RX3 250 yX0_copyFrom, Cond.instanceMethod yX0_copyFrom, Cond.selects RX0 yX0_copyFrom yX0_copyFrom, Cond.initialized RX0, Cond.code yX0_copyFrom cX0_copyFrom 2 none, Cond.fieldLink RX0 9 "IdleDiscards$Device" "blocks" "[I", Cond.methodLink RX0 36 arraycopyName, Cond.native arraycopyName, Cond.static arraycopyName, Cond.initialized "java/lang/System", Cond.fieldLink RX0 15 "IdleDiscards$Device" "pinFirst" "[I", Cond.fieldLink RX0 18 "IdleDiscards$Device" "pinLength" "[I", Cond.fieldLink RX0 21 "IdleDiscards$Device" "settings" "[I", Cond.fieldLink RX0 42 "IdleDiscards$Device" "time" "I", Cond.fieldLink RX0 46 "IdleDiscards$Device" "quiet" "I"]
def wsX3_runScript_r2 : List Cond := [Cond.fieldLink RX0 49 "IdleDiscards$Device" "commands" "I", Cond.fieldLink RX0 52 "IdleDiscards$Device" "discarded" "I", Cond.fieldLink RX0 55 "IdleDiscards$Device" "dropped" "I", Cond.methodLink RX3 287 yX3_doScriptCommand, Cond.instanceMethod yX3_doScriptCommand, Cond.selects RX3 yX3_doScriptCommand yX3_doScriptCommand, Cond.code yX3_doScriptCommand cX3_doScriptCommand 3 (some .boolean), Cond.constant RX3 290 (100000), Cond.methodLink RX3 92 yX3_writeIfAllowed, Cond.static yX3_writeIfAllowed, Cond.code yX3_writeIfAllowed cX3_writeIfAllowed 3 (some .boolean), Cond.methodLink RX3 318 yX3_isSpan, Cond.static yX3_isSpan, Cond.code yX3_isSpan cX3_isSpan 2 (some .boolean), Cond.methodLink RX3 294 yX3_isBlock, Cond.static yX3_isBlock, Cond.code yX3_isBlock cX3_isBlock 1 (some .boolean), Cond.methodLink RX3 311 yX3_isLength, Cond.static yX3_isLength, Cond.code yX3_isLength cX3_isLength 1 (some .boolean), Cond.methodLink RX3 214 yX0_writeSpan, Cond.instanceMethod yX0_writeSpan, Cond.selects RX0 yX0_writeSpan yX0_writeSpan, Cond.code yX0_writeSpan cX0_writeSpan 5 (some .int)]
def wsX3_runScript_r3 : List Cond := [Cond.methodLink RX0 58 yX0_dropSurplus, Cond.instanceMethod yX0_dropSurplus, Cond.selects RX0 yX0_dropSurplus yX0_dropSurplus, Cond.code yX0_dropSurplus cX0_dropSurplus 4 none, Cond.methodLink RX0 69 yX0_countRangesAhead, Cond.instanceMethod yX0_countRangesAhead, Cond.selects RX0 yX0_countRangesAhead yX0_countRangesAhead, Cond.code yX0_countRangesAhead cX0_countRangesAhead 6 (some .int), Cond.methodLink RX0 73 yX0_shortestRange, Cond.instanceMethod yX0_shortestRange, Cond.selects RX0 yX0_shortestRange yX0_shortestRange, Cond.code yX0_shortestRange cX0_shortestRange 5 (some .int), Cond.methodLink RX3 96 yX3_freeIfAllowed, Cond.static yX3_freeIfAllowed, Cond.code yX3_freeIfAllowed cX3_freeIfAllowed 3 (some .boolean), Cond.methodLink RX3 217 yX0_freeSpan, Cond.instanceMethod yX0_freeSpan, Cond.selects RX0 yX0_freeSpan yX0_freeSpan, Cond.code yX0_freeSpan cX0_freeSpan 5 (some .int), Cond.methodLink RX0 61 yX0_queueNow, Cond.instanceMethod yX0_queueNow, Cond.selects RX0 yX0_queueNow yX0_queueNow, Cond.code yX0_queueNow cX0_queueNow 3 none, Cond.methodLink RX3 291 yX3_isTicks]
def wsX3_runScript_r4 : List Cond := [Cond.static yX3_isTicks, Cond.code yX3_isTicks cX3_isTicks 2 (some .boolean), Cond.methodLink RX3 99 yX0_passTicks, Cond.instanceMethod yX0_passTicks, Cond.selects RX0 yX0_passTicks yX0_passTicks, Cond.code yX0_passTicks cX0_passTicks 4 (some .int), Cond.methodLink RX0 90 yX0_tick, Cond.instanceMethod yX0_tick, Cond.selects RX0 yX0_tick yX0_tick, Cond.code yX0_tick cX0_tick 5 none, Cond.methodLink RX0 93 yX0_budgetOfTick, Cond.instanceMethod yX0_budgetOfTick, Cond.selects RX0 yX0_budgetOfTick yX0_budgetOfTick, Cond.code yX0_budgetOfTick cX0_budgetOfTick 1 (some .int), Cond.methodLink RX0 96 yX0_choosePiece, Cond.instanceMethod yX0_choosePiece, Cond.selects RX0 yX0_choosePiece yX0_choosePiece, Cond.code yX0_choosePiece cX0_choosePiece 10 (some .int), Cond.methodLink RX0 87 yX0_isDue, Cond.instanceMethod yX0_isDue, Cond.selects RX0 yX0_isDue yX0_isDue, Cond.code yX0_isDue cX0_isDue 2 (some .boolean), Cond.methodLink RX0 83 yX0_isFree, Cond.instanceMethod yX0_isFree]
def wsX3_runScript_r5 : List Cond := [Cond.selects RX0 yX0_isFree yX0_isFree, Cond.code yX0_isFree cX0_isFree 5 (some .boolean), Cond.methodLink RX0 77 yX0_granuleSize, Cond.instanceMethod yX0_granuleSize, Cond.selects RX0 yX0_granuleSize yX0_granuleSize, Cond.code yX0_granuleSize cX0_granuleSize 1 (some .int), Cond.methodLink RX0 65 yX0_isAnyPinned, Cond.instanceMethod yX0_isAnyPinned, Cond.selects RX0 yX0_isAnyPinned yX0_isAnyPinned, Cond.code yX0_isAnyPinned cX0_isAnyPinned 4 (some .boolean), Cond.methodLink RX0 100 yX0_mostGranules, Cond.instanceMethod yX0_mostGranules, Cond.selects RX0 yX0_mostGranules yX0_mostGranules, Cond.code yX0_mostGranules cX0_mostGranules 2 (some .int), Cond.methodLink RX0 111 Lib.Math.min.name, Cond.static Lib.Math.min.name, Cond.initialized "java/lang/Math", Cond.code Lib.Math.min.name Lib.Math.min.code 2 (some .int), Cond.methodLink RX0 103 yX0_granulesFrom, Cond.instanceMethod yX0_granulesFrom, Cond.selects RX0 yX0_granulesFrom yX0_granulesFrom, Cond.code yX0_granulesFrom cX0_granulesFrom 4 (some .int), Cond.methodLink RX0 107 yX0_discard, Cond.instanceMethod yX0_discard]
def wsX3_runScript_r6 : List Cond := [Cond.selects RX0 yX0_discard yX0_discard, Cond.code yX0_discard cX0_discard 6 none, Cond.methodLink RX3 106 yX3_setIfAllowed, Cond.static yX3_setIfAllowed, Cond.code yX3_setIfAllowed cX3_setIfAllowed 3 (some .boolean), Cond.methodLink RX3 232 yX3_isValue, Cond.static yX3_isValue, Cond.code yX3_isValue cX3_isValue 2 (some .boolean), Cond.fieldLink RX3 273 "IdleDiscards" "GREATEST_SETTINGS" "[I", Cond.methodLink RX3 198 yX3_isSetting, Cond.static yX3_isSetting, Cond.code yX3_isSetting cX3_isSetting 1 (some .boolean), Cond.methodLink RX3 237 yX0_changeSetting, Cond.instanceMethod yX0_changeSetting, Cond.selects RX0 yX0_changeSetting yX0_changeSetting, Cond.code yX0_changeSetting cX0_changeSetting 3 none, Cond.methodLink RX3 229 yX0_sendAll, Cond.instanceMethod yX0_sendAll, Cond.selects RX0 yX0_sendAll yX0_sendAll, Cond.code yX0_sendAll cX0_sendAll 4 (some .int), Cond.methodLink RX3 146 yX0_isHeld, Cond.instanceMethod yX0_isHeld, Cond.selects RX0 yX0_isHeld yX0_isHeld, Cond.code yX0_isHeld cX0_isHeld 2 (some .boolean)]
def wsX3_runScript_r7 : List Cond := [Cond.methodLink RX3 115 yX0_countQueued, Cond.instanceMethod yX0_countQueued, Cond.selects RX0 yX0_countQueued yX0_countQueued, Cond.code yX0_countQueued cX0_countQueued 3 (some .int), Cond.methodLink RX3 112 yX0_countRanges, Cond.instanceMethod yX0_countRanges, Cond.selects RX0 yX0_countRanges yX0_countRanges, Cond.code yX0_countRanges cX0_countRanges 1 (some .int), Cond.methodLink RX3 142 yX0_isAlive, Cond.instanceMethod yX0_isAlive, Cond.selects RX0 yX0_isAlive yX0_isAlive, Cond.code yX0_isAlive cX0_isAlive 2 (some .boolean)]
def wsX3_runScript : List Cond := .code yX3_runScript cX3_runScript 6 (some .int) :: ((wsX3_runScript_r1 ++ (wsX3_runScript_r2 ++ (wsX3_runScript_r3 ++ (wsX3_runScript_r4 ++ (wsX3_runScript_r5 ++ (wsX3_runScript_r6 ++ wsX3_runScript_r7)))))) ++ wsX30 ++ wsX00 ++ (vx_atS RX3 45 "java/lang/IllegalArgumentException" ["java/lang/RuntimeException", "java/lang/Exception"]).filter goodWord)
def wsX3_takeTurn_r1 : List Cond := [Cond.fieldLink RX3 23 "IdleDiscards" "copy" "LIdleDiscards$Device;", Cond.methodLink RX3 92 yX3_writeIfAllowed, Cond.static yX3_writeIfAllowed, Cond.initialized RX3, Cond.code yX3_writeIfAllowed cX3_writeIfAllowed 3 (some .boolean), Cond.methodLink RX3 318 yX3_isSpan, Cond.static yX3_isSpan, Cond.code yX3_isSpan cX3_isSpan 2 (some .boolean), Cond.methodLink RX3 294 yX3_isBlock, Cond.static yX3_isBlock, Cond.code yX3_isBlock cX3_isBlock 1 (some .boolean), Cond.methodLink RX3 311 yX3_isLength, Cond.static yX3_isLength, Cond.code yX3_isLength cX3_isLength 1 (some .boolean), Cond.methodLink RX3 214 yX0_writeSpan, Cond.instanceMethod yX0_writeSpan, Cond.selects RX0 yX0_writeSpan yX0_writeSpan, Cond.initialized RX0, Cond.code yX0_writeSpan cX0_writeSpan 5 (some .int), Cond.fieldLink RX0 9 "IdleDiscards$Device" "blocks" "[I", Cond.fieldLink RX0 46 "IdleDiscards$Device" "quiet" "I", Cond.methodLink RX0 58 yX0_dropSurplus, Cond.instanceMethod yX0_dropSurplus, Cond.selects RX0 yX0_dropSurplus yX0_dropSurplus]
def wsX3_takeTurn_r2 : List Cond := [Cond.code yX0_dropSurplus cX0_dropSurplus 4 none, Cond.fieldLink RX0 55 "IdleDiscards$Device" "dropped" "I", Cond.methodLink RX0 69 yX0_countRangesAhead, Cond.instanceMethod yX0_countRangesAhead, Cond.selects RX0 yX0_countRangesAhead yX0_countRangesAhead, Cond.code yX0_countRangesAhead cX0_countRangesAhead 6 (some .int), Cond.methodLink RX0 73 yX0_shortestRange, Cond.instanceMethod yX0_shortestRange, Cond.selects RX0 yX0_shortestRange yX0_shortestRange, Cond.code yX0_shortestRange cX0_shortestRange 5 (some .int), Cond.methodLink RX3 96 yX3_freeIfAllowed, Cond.static yX3_freeIfAllowed, Cond.code yX3_freeIfAllowed cX3_freeIfAllowed 3 (some .boolean), Cond.methodLink RX3 217 yX0_freeSpan, Cond.instanceMethod yX0_freeSpan, Cond.selects RX0 yX0_freeSpan yX0_freeSpan, Cond.code yX0_freeSpan cX0_freeSpan 5 (some .int), Cond.methodLink RX0 61 yX0_queueNow, Cond.instanceMethod yX0_queueNow, Cond.selects RX0 yX0_queueNow yX0_queueNow, Cond.code yX0_queueNow cX0_queueNow 3 none, Cond.fieldLink RX0 42 "IdleDiscards$Device" "time" "I", Cond.methodLink RX3 102 yX3_pinIfAllowed, Cond.static yX3_pinIfAllowed]
def wsX3_takeTurn_r3 : List Cond := [Cond.code yX3_pinIfAllowed cX3_pinIfAllowed 4 (some .boolean), Cond.methodLink RX3 323 yX3_isPin, Cond.static yX3_isPin, Cond.code yX3_isPin cX3_isPin 1 (some .boolean), Cond.methodLink RX3 220 yX0_pinSpan, Cond.instanceMethod yX0_pinSpan, Cond.selects RX0 yX0_pinSpan yX0_pinSpan, Cond.code yX0_pinSpan cX0_pinSpan 4 none, Cond.fieldLink RX0 15 "IdleDiscards$Device" "pinFirst" "[I", Cond.fieldLink RX0 18 "IdleDiscards$Device" "pinLength" "[I", Cond.methodLink RX3 99 yX0_passTicks, Cond.instanceMethod yX0_passTicks, Cond.selects RX0 yX0_passTicks yX0_passTicks, Cond.code yX0_passTicks cX0_passTicks 4 (some .int), Cond.fieldLink RX0 52 "IdleDiscards$Device" "discarded" "I", Cond.methodLink RX0 90 yX0_tick, Cond.instanceMethod yX0_tick, Cond.selects RX0 yX0_tick yX0_tick, Cond.code yX0_tick cX0_tick 5 none, Cond.fieldLink RX0 21 "IdleDiscards$Device" "settings" "[I", Cond.methodLink RX0 93 yX0_budgetOfTick, Cond.instanceMethod yX0_budgetOfTick, Cond.selects RX0 yX0_budgetOfTick yX0_budgetOfTick, Cond.code yX0_budgetOfTick cX0_budgetOfTick 1 (some .int)]
def wsX3_takeTurn_r4 : List Cond := [Cond.methodLink RX0 96 yX0_choosePiece, Cond.instanceMethod yX0_choosePiece, Cond.selects RX0 yX0_choosePiece yX0_choosePiece, Cond.code yX0_choosePiece cX0_choosePiece 10 (some .int), Cond.methodLink RX0 87 yX0_isDue, Cond.instanceMethod yX0_isDue, Cond.selects RX0 yX0_isDue yX0_isDue, Cond.code yX0_isDue cX0_isDue 2 (some .boolean), Cond.methodLink RX0 83 yX0_isFree, Cond.instanceMethod yX0_isFree, Cond.selects RX0 yX0_isFree yX0_isFree, Cond.code yX0_isFree cX0_isFree 5 (some .boolean), Cond.methodLink RX0 77 yX0_granuleSize, Cond.instanceMethod yX0_granuleSize, Cond.selects RX0 yX0_granuleSize yX0_granuleSize, Cond.code yX0_granuleSize cX0_granuleSize 1 (some .int), Cond.methodLink RX0 65 yX0_isAnyPinned, Cond.instanceMethod yX0_isAnyPinned, Cond.selects RX0 yX0_isAnyPinned yX0_isAnyPinned, Cond.code yX0_isAnyPinned cX0_isAnyPinned 4 (some .boolean), Cond.methodLink RX0 100 yX0_mostGranules, Cond.instanceMethod yX0_mostGranules, Cond.selects RX0 yX0_mostGranules yX0_mostGranules, Cond.code yX0_mostGranules cX0_mostGranules 2 (some .int)]
def wsX3_takeTurn_r5 : List Cond := [Cond.methodLink RX0 111 Lib.Math.min.name, Cond.static Lib.Math.min.name, Cond.initialized "java/lang/Math", Cond.code Lib.Math.min.name Lib.Math.min.code 2 (some .int), Cond.methodLink RX0 103 yX0_granulesFrom, Cond.instanceMethod yX0_granulesFrom, Cond.selects RX0 yX0_granulesFrom yX0_granulesFrom, Cond.code yX0_granulesFrom cX0_granulesFrom 4 (some .int), Cond.methodLink RX0 107 yX0_discard, Cond.instanceMethod yX0_discard, Cond.selects RX0 yX0_discard yX0_discard, Cond.code yX0_discard cX0_discard 6 none, Cond.fieldLink RX0 49 "IdleDiscards$Device" "commands" "I"]
def wsX3_takeTurn : List Cond := .code yX3_takeTurn cX3_takeTurn 4 none :: ((wsX3_takeTurn_r1 ++ (wsX3_takeTurn_r2 ++ (wsX3_takeTurn_r3 ++ (wsX3_takeTurn_r4 ++ wsX3_takeTurn_r5)))) ++ wsX30 ++ wsX00)
def wsX3_simulate_r1 : List Cond := [Cond.classLink RX3 41 "java/lang/IllegalArgumentException", Cond.initialized "java/lang/IllegalArgumentException", Cond.fieldLink RX3 23 "IdleDiscards" "copy" "LIdleDiscards$Device;", Cond.fieldLink RX3 19 "IdleDiscards" "device" "LIdleDiscards$Device;", Cond.constantLong RX3 299 (6364136223846793005), Cond.constantLong RX3 301 (1442695040888963407), Cond.methodLink RX3 250 yX0_copyFrom, Cond.instanceMethod yX0_copyFrom, Cond.selects RX0 yX0_copyFrom yX0_copyFrom, Cond.initialized RX0, Cond.code yX0_copyFrom cX0_copyFrom 2 none, Cond.fieldLink RX0 9 "IdleDiscards$Device" "blocks" "[I", Cond.methodLink RX0 36 arraycopyName, Cond.native arraycopyName, Cond.static arraycopyName, Cond.initialized "java/lang/System", Cond.fieldLink RX0 15 "IdleDiscards$Device" "pinFirst" "[I", Cond.fieldLink RX0 18 "IdleDiscards$Device" "pinLength" "[I", Cond.fieldLink RX0 21 "IdleDiscards$Device" "settings" "[I", Cond.fieldLink RX0 42 "IdleDiscards$Device" "time" "I", Cond.fieldLink RX0 46 "IdleDiscards$Device" "quiet" "I", Cond.fieldLink RX0 49 "IdleDiscards$Device" "commands" "I", Cond.fieldLink RX0 52 "IdleDiscards$Device" "discarded" "I", Cond.fieldLink RX0 55 "IdleDiscards$Device" "dropped" "I"]
def wsX3_simulate_r2 : List Cond := [Cond.methodLink RX3 303 yX3_takeTurn, Cond.instanceMethod yX3_takeTurn, Cond.selects RX3 yX3_takeTurn yX3_takeTurn, Cond.initialized RX3, Cond.code yX3_takeTurn cX3_takeTurn 4 none, Cond.methodLink RX3 92 yX3_writeIfAllowed, Cond.static yX3_writeIfAllowed, Cond.code yX3_writeIfAllowed cX3_writeIfAllowed 3 (some .boolean), Cond.methodLink RX3 318 yX3_isSpan, Cond.static yX3_isSpan, Cond.code yX3_isSpan cX3_isSpan 2 (some .boolean), Cond.methodLink RX3 294 yX3_isBlock, Cond.static yX3_isBlock, Cond.code yX3_isBlock cX3_isBlock 1 (some .boolean), Cond.methodLink RX3 311 yX3_isLength, Cond.static yX3_isLength, Cond.code yX3_isLength cX3_isLength 1 (some .boolean), Cond.methodLink RX3 214 yX0_writeSpan, Cond.instanceMethod yX0_writeSpan, Cond.selects RX0 yX0_writeSpan yX0_writeSpan, Cond.code yX0_writeSpan cX0_writeSpan 5 (some .int), Cond.methodLink RX0 58 yX0_dropSurplus, Cond.instanceMethod yX0_dropSurplus, Cond.selects RX0 yX0_dropSurplus yX0_dropSurplus]
def wsX3_simulate_r3 : List Cond := [Cond.code yX0_dropSurplus cX0_dropSurplus 4 none, Cond.methodLink RX0 69 yX0_countRangesAhead, Cond.instanceMethod yX0_countRangesAhead, Cond.selects RX0 yX0_countRangesAhead yX0_countRangesAhead, Cond.code yX0_countRangesAhead cX0_countRangesAhead 6 (some .int), Cond.methodLink RX0 73 yX0_shortestRange, Cond.instanceMethod yX0_shortestRange, Cond.selects RX0 yX0_shortestRange yX0_shortestRange, Cond.code yX0_shortestRange cX0_shortestRange 5 (some .int), Cond.methodLink RX3 96 yX3_freeIfAllowed, Cond.static yX3_freeIfAllowed, Cond.code yX3_freeIfAllowed cX3_freeIfAllowed 3 (some .boolean), Cond.methodLink RX3 217 yX0_freeSpan, Cond.instanceMethod yX0_freeSpan, Cond.selects RX0 yX0_freeSpan yX0_freeSpan, Cond.code yX0_freeSpan cX0_freeSpan 5 (some .int), Cond.methodLink RX0 61 yX0_queueNow, Cond.instanceMethod yX0_queueNow, Cond.selects RX0 yX0_queueNow yX0_queueNow, Cond.code yX0_queueNow cX0_queueNow 3 none, Cond.methodLink RX3 102 yX3_pinIfAllowed, Cond.static yX3_pinIfAllowed, Cond.code yX3_pinIfAllowed cX3_pinIfAllowed 4 (some .boolean), Cond.methodLink RX3 323 yX3_isPin]
def wsX3_simulate_r4 : List Cond := [Cond.static yX3_isPin, Cond.code yX3_isPin cX3_isPin 1 (some .boolean), Cond.methodLink RX3 220 yX0_pinSpan, Cond.instanceMethod yX0_pinSpan, Cond.selects RX0 yX0_pinSpan yX0_pinSpan, Cond.code yX0_pinSpan cX0_pinSpan 4 none, Cond.methodLink RX3 99 yX0_passTicks, Cond.instanceMethod yX0_passTicks, Cond.selects RX0 yX0_passTicks yX0_passTicks, Cond.code yX0_passTicks cX0_passTicks 4 (some .int), Cond.methodLink RX0 90 yX0_tick, Cond.instanceMethod yX0_tick, Cond.selects RX0 yX0_tick yX0_tick, Cond.code yX0_tick cX0_tick 5 none, Cond.methodLink RX0 93 yX0_budgetOfTick, Cond.instanceMethod yX0_budgetOfTick, Cond.selects RX0 yX0_budgetOfTick yX0_budgetOfTick, Cond.code yX0_budgetOfTick cX0_budgetOfTick 1 (some .int), Cond.methodLink RX0 96 yX0_choosePiece, Cond.instanceMethod yX0_choosePiece, Cond.selects RX0 yX0_choosePiece yX0_choosePiece, Cond.code yX0_choosePiece cX0_choosePiece 10 (some .int), Cond.methodLink RX0 87 yX0_isDue, Cond.instanceMethod yX0_isDue]
def wsX3_simulate_r5 : List Cond := [Cond.selects RX0 yX0_isDue yX0_isDue, Cond.code yX0_isDue cX0_isDue 2 (some .boolean), Cond.methodLink RX0 83 yX0_isFree, Cond.instanceMethod yX0_isFree, Cond.selects RX0 yX0_isFree yX0_isFree, Cond.code yX0_isFree cX0_isFree 5 (some .boolean), Cond.methodLink RX0 77 yX0_granuleSize, Cond.instanceMethod yX0_granuleSize, Cond.selects RX0 yX0_granuleSize yX0_granuleSize, Cond.code yX0_granuleSize cX0_granuleSize 1 (some .int), Cond.methodLink RX0 65 yX0_isAnyPinned, Cond.instanceMethod yX0_isAnyPinned, Cond.selects RX0 yX0_isAnyPinned yX0_isAnyPinned, Cond.code yX0_isAnyPinned cX0_isAnyPinned 4 (some .boolean), Cond.methodLink RX0 100 yX0_mostGranules, Cond.instanceMethod yX0_mostGranules, Cond.selects RX0 yX0_mostGranules yX0_mostGranules, Cond.code yX0_mostGranules cX0_mostGranules 2 (some .int), Cond.methodLink RX0 111 Lib.Math.min.name, Cond.static Lib.Math.min.name, Cond.initialized "java/lang/Math", Cond.code Lib.Math.min.name Lib.Math.min.code 2 (some .int), Cond.methodLink RX0 103 yX0_granulesFrom, Cond.instanceMethod yX0_granulesFrom]
def wsX3_simulate_r6 : List Cond := [Cond.selects RX0 yX0_granulesFrom yX0_granulesFrom, Cond.code yX0_granulesFrom cX0_granulesFrom 4 (some .int), Cond.methodLink RX0 107 yX0_discard, Cond.instanceMethod yX0_discard, Cond.selects RX0 yX0_discard yX0_discard, Cond.code yX0_discard cX0_discard 6 none, Cond.methodLink RX3 127 yX0_discarded, Cond.instanceMethod yX0_discarded, Cond.selects RX0 yX0_discarded yX0_discarded, Cond.code yX0_discarded cX0_discarded 1 (some .int), Cond.methodLink RX3 115 yX0_countQueued, Cond.instanceMethod yX0_countQueued, Cond.selects RX0 yX0_countQueued yX0_countQueued, Cond.code yX0_countQueued cX0_countQueued 3 (some .int)]
def wsX3_simulate : List Cond := .code yX3_simulate cX3_simulate 7 (some .int) :: ((wsX3_simulate_r1 ++ (wsX3_simulate_r2 ++ (wsX3_simulate_r3 ++ (wsX3_simulate_r4 ++ (wsX3_simulate_r5 ++ wsX3_simulate_r6))))) ++ wsX30 ++ wsX00 ++ (vx_atS RX3 45 "java/lang/IllegalArgumentException" ["java/lang/RuntimeException", "java/lang/Exception"]).filter goodWord)
def wsX3_checkSlot : List Cond := .code yX3_checkSlot cX3_checkSlot 1 none :: ([.classLink RX3 158 "java/lang/IndexOutOfBoundsException", .initialized "java/lang/IndexOutOfBoundsException"] ++ (vx_atS RX3 162 "java/lang/IndexOutOfBoundsException" ["java/lang/RuntimeException", "java/lang/Exception"]).filter goodWord)
def wsX3_save_r1 : List Cond := [Cond.fieldLink RX3 33 "IdleDiscards" "slots" "[LIdleDiscards$Device;", Cond.fieldLink RX3 19 "IdleDiscards" "device" "LIdleDiscards$Device;", Cond.fieldLink RX3 37 "IdleDiscards" "slotUsed" "[Z", Cond.methodLink RX3 306 yX3_checkSlot, Cond.static yX3_checkSlot, Cond.initialized RX3, Cond.code yX3_checkSlot cX3_checkSlot 1 none, Cond.classLink RX3 158 "java/lang/IndexOutOfBoundsException", Cond.initialized "java/lang/IndexOutOfBoundsException", Cond.methodLink RX3 250 yX0_copyFrom, Cond.instanceMethod yX0_copyFrom, Cond.selects RX0 yX0_copyFrom yX0_copyFrom, Cond.initialized RX0, Cond.code yX0_copyFrom cX0_copyFrom 2 none, Cond.fieldLink RX0 9 "IdleDiscards$Device" "blocks" "[I", Cond.methodLink RX0 36 arraycopyName, Cond.native arraycopyName, Cond.static arraycopyName, Cond.initialized "java/lang/System", Cond.fieldLink RX0 15 "IdleDiscards$Device" "pinFirst" "[I", Cond.fieldLink RX0 18 "IdleDiscards$Device" "pinLength" "[I", Cond.fieldLink RX0 21 "IdleDiscards$Device" "settings" "[I", Cond.fieldLink RX0 42 "IdleDiscards$Device" "time" "I", Cond.fieldLink RX0 46 "IdleDiscards$Device" "quiet" "I"]
def wsX3_save_r2 : List Cond := [Cond.fieldLink RX0 49 "IdleDiscards$Device" "commands" "I", Cond.fieldLink RX0 52 "IdleDiscards$Device" "discarded" "I", Cond.fieldLink RX0 55 "IdleDiscards$Device" "dropped" "I", Cond.methodLink RX3 118 yX0_time, Cond.instanceMethod yX0_time, Cond.selects RX0 yX0_time yX0_time, Cond.code yX0_time cX0_time 1 (some .int)]
def wsX3_save : List Cond := .code yX3_save cX3_save 2 (some .int) :: ((wsX3_save_r1 ++ wsX3_save_r2) ++ wsX30 ++ wsX00 ++ (vx_atS RX3 162 "java/lang/IndexOutOfBoundsException" ["java/lang/RuntimeException", "java/lang/Exception"]).filter goodWord)
def wsX3_restore_r1 : List Cond := [Cond.classLink RX3 52 "java/lang/IllegalStateException", Cond.initialized "java/lang/IllegalStateException", Cond.fieldLink RX3 37 "IdleDiscards" "slotUsed" "[Z", Cond.fieldLink RX3 19 "IdleDiscards" "device" "LIdleDiscards$Device;", Cond.fieldLink RX3 33 "IdleDiscards" "slots" "[LIdleDiscards$Device;", Cond.fieldLink RX3 29 "IdleDiscards" "past" "LIdleDiscards$Past;", Cond.methodLink RX3 306 yX3_checkSlot, Cond.static yX3_checkSlot, Cond.initialized RX3, Cond.code yX3_checkSlot cX3_checkSlot 1 none, Cond.classLink RX3 158 "java/lang/IndexOutOfBoundsException", Cond.initialized "java/lang/IndexOutOfBoundsException", Cond.methodLink RX3 250 yX0_copyFrom, Cond.instanceMethod yX0_copyFrom, Cond.selects RX0 yX0_copyFrom yX0_copyFrom, Cond.initialized RX0, Cond.code yX0_copyFrom cX0_copyFrom 2 none, Cond.fieldLink RX0 9 "IdleDiscards$Device" "blocks" "[I", Cond.methodLink RX0 36 arraycopyName, Cond.native arraycopyName, Cond.static arraycopyName, Cond.initialized "java/lang/System", Cond.fieldLink RX0 15 "IdleDiscards$Device" "pinFirst" "[I", Cond.fieldLink RX0 18 "IdleDiscards$Device" "pinLength" "[I"]
def wsX3_restore_r2 : List Cond := [Cond.fieldLink RX0 21 "IdleDiscards$Device" "settings" "[I", Cond.fieldLink RX0 42 "IdleDiscards$Device" "time" "I", Cond.fieldLink RX0 46 "IdleDiscards$Device" "quiet" "I", Cond.fieldLink RX0 49 "IdleDiscards$Device" "commands" "I", Cond.fieldLink RX0 52 "IdleDiscards$Device" "discarded" "I", Cond.fieldLink RX0 55 "IdleDiscards$Device" "dropped" "I", Cond.methodLink RX3 73 yX1_forget, Cond.instanceMethod yX1_forget, Cond.selects RX1 yX1_forget yX1_forget, Cond.initialized RX1, Cond.code yX1_forget cX1_forget 1 none, Cond.fieldLink RX1 18 "IdleDiscards$Past" "size" "I", Cond.methodLink RX3 118 yX0_time, Cond.instanceMethod yX0_time, Cond.selects RX0 yX0_time yX0_time, Cond.code yX0_time cX0_time 1 (some .int)]
def wsX3_restore : List Cond := .code yX3_restore cX3_restore 2 (some .int) :: ((wsX3_restore_r1 ++ wsX3_restore_r2) ++ wsX30 ++ wsX00 ++ wsX10 ++ (vx_atS RX3 56 "java/lang/IllegalStateException" ["java/lang/RuntimeException", "java/lang/Exception"]).filter goodWord ++ (vx_atS RX3 162 "java/lang/IndexOutOfBoundsException" ["java/lang/RuntimeException", "java/lang/Exception"]).filter goodWord)
def wsX4_begin : List Cond := .code yX4_begin cX4_begin 2 none :: ([])
def wsX4_init : List Cond := .code yX4_init cX4_init 1 none :: ([.methodLink RX4 1 objectInit, .instanceMethod objectInit, .code objectInit ⟨#[0xb1]⟩ 1 none, .arrayClass .int, .fieldLink RX4 7 "IdleDiscardsModel" "text" "[I", .fieldLink RX4 13 "IdleDiscardsModel" "now" "[I", .fieldLink RX4 16 "IdleDiscardsModel" "trial" "[I", .fieldLink RX4 19 "IdleDiscardsModel" "diary" "[I", .fieldLink RX4 22 "IdleDiscardsModel" "kept" "[I", .arrayClass .boolean, .fieldLink RX4 25 "IdleDiscardsModel" "isKept" "[Z", .methodLink RX4 29 yX4_begin, .static yX4_begin, .initialized RX4, .code yX4_begin cX4_begin 2 none] ++ wsX40)
def wsX4_thrown : List Cond := .code yX4_thrown cX4_thrown 1 (some .int) :: ([.fieldLink RX4 33 "IdleDiscardsModel" "refusal" "I"] ++ wsX40)
def wsX4_refused : List Cond := .code yX4_refused cX4_refused 2 (some .boolean) :: ([.fieldLink RX4 33 "IdleDiscardsModel" "refusal" "I"] ++ wsX40)
def wsX4_in : List Cond := .code yX4_in cX4_in 6 (some .boolean) :: ([])
def wsX4_copyState : List Cond := .code yX4_copyState cX4_copyState 5 none :: ([])
def wsX4_isBlock : List Cond := .code yX4_isBlock cX4_isBlock 1 (some .boolean) :: ([.constantLong RX4 37 (255), .methodLink RX4 39 yX4_in, .static yX4_in, .initialized RX4, .code yX4_in cX4_in 6 (some .boolean)])
def wsX4_whyNotSpan : List Cond := .code yX4_whyNotSpan cX4_whyNotSpan 2 (some .int) :: ([.constantLong RX4 47 (99), .methodLink RX4 43 yX4_isBlock, .static yX4_isBlock, .initialized RX4, .code yX4_isBlock cX4_isBlock 1 (some .boolean), .constantLong RX4 37 (255), .methodLink RX4 39 yX4_in, .static yX4_in, .code yX4_in cX4_in 6 (some .boolean)])
def wsX4_isQueued : List Cond := .code yX4_isQueued cX4_isQueued 2 (some .boolean) :: ([.methodLink RX4 43 yX4_isBlock, .static yX4_isBlock, .initialized RX4, .code yX4_isBlock cX4_isBlock 1 (some .boolean), .constantLong RX4 37 (255), .methodLink RX4 39 yX4_in, .static yX4_in, .code yX4_in cX4_in 6 (some .boolean)])
def wsX4_isPinned : List Cond := .code yX4_isPinned cX4_isPinned 3 (some .boolean) :: ([])
def wsX4_allPinned : List Cond := .code yX4_allPinned cX4_allPinned 3 (some .int) :: ([.methodLink RX4 49 yX4_isPinned, .static yX4_isPinned, .initialized RX4, .code yX4_isPinned cX4_isPinned 3 (some .boolean)])
def wsX4_begins : List Cond := .code yX4_begins cX4_begins 2 (some .boolean) :: ([.methodLink RX4 53 yX4_isQueued, .static yX4_isQueued, .initialized RX4, .code yX4_isQueued cX4_isQueued 2 (some .boolean), .methodLink RX4 43 yX4_isBlock, .static yX4_isBlock, .code yX4_isBlock cX4_isBlock 1 (some .boolean), .constantLong RX4 37 (255), .methodLink RX4 39 yX4_in, .static yX4_in, .code yX4_in cX4_in 6 (some .boolean)])
def wsX4_ranges : List Cond := .code yX4_ranges cX4_ranges 3 (some .int) :: ([.methodLink RX4 56 yX4_begins, .static yX4_begins, .initialized RX4, .code yX4_begins cX4_begins 2 (some .boolean), .methodLink RX4 53 yX4_isQueued, .static yX4_isQueued, .code yX4_isQueued cX4_isQueued 2 (some .boolean), .methodLink RX4 43 yX4_isBlock, .static yX4_isBlock, .code yX4_isBlock cX4_isBlock 1 (some .boolean), .constantLong RX4 37 (255), .methodLink RX4 39 yX4_in, .static yX4_in, .code yX4_in cX4_in 6 (some .boolean)])
def wsX4_queuedBlocks : List Cond := .code yX4_queuedBlocks cX4_queuedBlocks 3 (some .int) :: ([.methodLink RX4 53 yX4_isQueued, .static yX4_isQueued, .initialized RX4, .code yX4_isQueued cX4_isQueued 2 (some .boolean), .methodLink RX4 43 yX4_isBlock, .static yX4_isBlock, .code yX4_isBlock cX4_isBlock 1 (some .boolean), .constantLong RX4 37 (255), .methodLink RX4 39 yX4_in, .static yX4_in, .code yX4_in cX4_in 6 (some .boolean)])
def wsX4_endOf : List Cond := .code yX4_endOf cX4_endOf 3 (some .int) :: ([.methodLink RX4 53 yX4_isQueued, .static yX4_isQueued, .initialized RX4, .code yX4_isQueued cX4_isQueued 2 (some .boolean), .methodLink RX4 43 yX4_isBlock, .static yX4_isBlock, .code yX4_isBlock cX4_isBlock 1 (some .boolean), .constantLong RX4 37 (255), .methodLink RX4 39 yX4_in, .static yX4_in, .code yX4_in cX4_in 6 (some .boolean)])
def wsX4_startOf : List Cond := .code yX4_startOf cX4_startOf 3 (some .int) :: ([.methodLink RX4 53 yX4_isQueued, .static yX4_isQueued, .initialized RX4, .code yX4_isQueued cX4_isQueued 2 (some .boolean), .methodLink RX4 43 yX4_isBlock, .static yX4_isBlock, .code yX4_isBlock cX4_isBlock 1 (some .boolean), .constantLong RX4 37 (255), .methodLink RX4 39 yX4_in, .static yX4_in, .code yX4_in cX4_in 6 (some .boolean)])
def wsX4_limit : List Cond := .code yX4_limit cX4_limit 4 none :: ([.methodLink RX4 59 yX4_ranges, .static yX4_ranges, .initialized RX4, .code yX4_ranges cX4_ranges 3 (some .int), .methodLink RX4 56 yX4_begins, .static yX4_begins, .code yX4_begins cX4_begins 2 (some .boolean), .methodLink RX4 53 yX4_isQueued, .static yX4_isQueued, .code yX4_isQueued cX4_isQueued 2 (some .boolean), .methodLink RX4 43 yX4_isBlock, .static yX4_isBlock, .code yX4_isBlock cX4_isBlock 1 (some .boolean), .constantLong RX4 37 (255), .methodLink RX4 39 yX4_in, .static yX4_in, .code yX4_in cX4_in 6 (some .boolean), .methodLink RX4 63 yX4_endOf, .static yX4_endOf, .code yX4_endOf cX4_endOf 3 (some .int)])
def wsX4_writeOn : List Cond := .code yX4_writeOn cX4_writeOn 5 (some .int) :: ([.methodLink RX4 53 yX4_isQueued, .static yX4_isQueued, .initialized RX4, .code yX4_isQueued cX4_isQueued 2 (some .boolean), .methodLink RX4 43 yX4_isBlock, .static yX4_isBlock, .code yX4_isBlock cX4_isBlock 1 (some .boolean), .constantLong RX4 37 (255), .methodLink RX4 39 yX4_in, .static yX4_in, .code yX4_in cX4_in 6 (some .boolean), .methodLink RX4 67 yX4_limit, .static yX4_limit, .code yX4_limit cX4_limit 4 none, .methodLink RX4 59 yX4_ranges, .static yX4_ranges, .code yX4_ranges cX4_ranges 3 (some .int), .methodLink RX4 56 yX4_begins, .static yX4_begins, .code yX4_begins cX4_begins 2 (some .boolean), .methodLink RX4 63 yX4_endOf, .static yX4_endOf, .code yX4_endOf cX4_endOf 3 (some .int)])
def wsX4_freeOn_r1 : List Cond := [Cond.methodLink RX4 70 yX4_startOf, Cond.static yX4_startOf, Cond.initialized RX4, Cond.code yX4_startOf cX4_startOf 3 (some .int), Cond.methodLink RX4 53 yX4_isQueued, Cond.static yX4_isQueued, Cond.code yX4_isQueued cX4_isQueued 2 (some .boolean), Cond.methodLink RX4 43 yX4_isBlock, Cond.static yX4_isBlock, Cond.code yX4_isBlock cX4_isBlock 1 (some .boolean), Cond.constantLong RX4 37 (255), Cond.methodLink RX4 39 yX4_in, Cond.static yX4_in, Cond.code yX4_in cX4_in 6 (some .boolean), Cond.methodLink RX4 63 yX4_endOf, Cond.static yX4_endOf, Cond.code yX4_endOf cX4_endOf 3 (some .int), Cond.methodLink RX4 67 yX4_limit, Cond.static yX4_limit, Cond.code yX4_limit cX4_limit 4 none, Cond.methodLink RX4 59 yX4_ranges, Cond.static yX4_ranges, Cond.code yX4_ranges cX4_ranges 3 (some .int), Cond.methodLink RX4 56 yX4_begins]
def wsX4_freeOn_r2 : List Cond := [Cond.static yX4_begins, Cond.code yX4_begins cX4_begins 2 (some .boolean)]
def wsX4_freeOn : List Cond := .code yX4_freeOn cX4_freeOn 8 (some .int) :: ((wsX4_freeOn_r1 ++ wsX4_freeOn_r2))
def wsX4_pinOn : List Cond := .code yX4_pinOn cX4_pinOn 4 (some .int) :: ([.methodLink RX4 73 yX4_allPinned, .static yX4_allPinned, .initialized RX4, .code yX4_allPinned cX4_allPinned 3 (some .int), .methodLink RX4 49 yX4_isPinned, .static yX4_isPinned, .code yX4_isPinned cX4_isPinned 3 (some .boolean)])
def wsX4_granule : List Cond := .code yX4_granule cX4_granule 1 (some .int) :: ([])
def wsX4_isGood : List Cond := .code yX4_isGood cX4_isGood 4 (some .boolean) :: ([.methodLink RX4 76 yX4_granule, .static yX4_granule, .initialized RX4, .code yX4_granule cX4_granule 1 (some .int), .methodLink RX4 39 yX4_in, .static yX4_in, .code yX4_in cX4_in 6 (some .boolean), .methodLink RX4 53 yX4_isQueued, .static yX4_isQueued, .code yX4_isQueued cX4_isQueued 2 (some .boolean), .methodLink RX4 43 yX4_isBlock, .static yX4_isBlock, .code yX4_isBlock cX4_isBlock 1 (some .boolean), .constantLong RX4 37 (255), .methodLink RX4 49 yX4_isPinned, .static yX4_isPinned, .code yX4_isPinned cX4_isPinned 3 (some .boolean)])
def wsX4_piece : List Cond := .code yX4_piece cX4_piece 4 (some .int) :: ([.methodLink RX4 76 yX4_granule, .static yX4_granule, .initialized RX4, .code yX4_granule cX4_granule 1 (some .int), .methodLink RX4 79 yX4_isGood, .static yX4_isGood, .code yX4_isGood cX4_isGood 4 (some .boolean), .methodLink RX4 39 yX4_in, .static yX4_in, .code yX4_in cX4_in 6 (some .boolean), .methodLink RX4 53 yX4_isQueued, .static yX4_isQueued, .code yX4_isQueued cX4_isQueued 2 (some .boolean), .methodLink RX4 43 yX4_isBlock, .static yX4_isBlock, .code yX4_isBlock cX4_isBlock 1 (some .boolean), .constantLong RX4 37 (255), .methodLink RX4 49 yX4_isPinned, .static yX4_isPinned, .code yX4_isPinned cX4_isPinned 3 (some .boolean)])
def wsX4_isDue : List Cond := .code yX4_isDue cX4_isDue 2 (some .boolean) :: ([])
def wsX4_chosen_r1 : List Cond := [Cond.methodLink RX4 82 yX4_piece, Cond.static yX4_piece, Cond.initialized RX4, Cond.code yX4_piece cX4_piece 4 (some .int), Cond.methodLink RX4 76 yX4_granule, Cond.static yX4_granule, Cond.code yX4_granule cX4_granule 1 (some .int), Cond.methodLink RX4 79 yX4_isGood, Cond.static yX4_isGood, Cond.code yX4_isGood cX4_isGood 4 (some .boolean), Cond.methodLink RX4 39 yX4_in, Cond.static yX4_in, Cond.code yX4_in cX4_in 6 (some .boolean), Cond.methodLink RX4 53 yX4_isQueued, Cond.static yX4_isQueued, Cond.code yX4_isQueued cX4_isQueued 2 (some .boolean), Cond.methodLink RX4 43 yX4_isBlock, Cond.static yX4_isBlock, Cond.code yX4_isBlock cX4_isBlock 1 (some .boolean), Cond.constantLong RX4 37 (255), Cond.methodLink RX4 49 yX4_isPinned, Cond.static yX4_isPinned, Cond.code yX4_isPinned cX4_isPinned 3 (some .boolean), Cond.methodLink RX4 85 yX4_isDue]
def wsX4_chosen_r2 : List Cond := [Cond.static yX4_isDue, Cond.code yX4_isDue cX4_isDue 2 (some .boolean)]
def wsX4_chosen : List Cond := .code yX4_chosen cX4_chosen 6 (some .int) :: ((wsX4_chosen_r1 ++ wsX4_chosen_r2))
def wsX4_send_r1 : List Cond := [Cond.fieldLink RX4 88 "IdleDiscardsModel" "sentFrom" "I", Cond.fieldLink RX4 91 "IdleDiscardsModel" "sentBlocks" "I", Cond.methodLink RX4 76 yX4_granule, Cond.static yX4_granule, Cond.initialized RX4, Cond.code yX4_granule cX4_granule 1 (some .int), Cond.methodLink RX4 67 yX4_limit, Cond.static yX4_limit, Cond.code yX4_limit cX4_limit 4 none, Cond.methodLink RX4 59 yX4_ranges, Cond.static yX4_ranges, Cond.code yX4_ranges cX4_ranges 3 (some .int), Cond.methodLink RX4 56 yX4_begins, Cond.static yX4_begins, Cond.code yX4_begins cX4_begins 2 (some .boolean), Cond.methodLink RX4 53 yX4_isQueued, Cond.static yX4_isQueued, Cond.code yX4_isQueued cX4_isQueued 2 (some .boolean), Cond.methodLink RX4 43 yX4_isBlock, Cond.static yX4_isBlock, Cond.code yX4_isBlock cX4_isBlock 1 (some .boolean), Cond.constantLong RX4 37 (255), Cond.methodLink RX4 39 yX4_in, Cond.static yX4_in]
def wsX4_send_r2 : List Cond := [Cond.code yX4_in cX4_in 6 (some .boolean), Cond.methodLink RX4 63 yX4_endOf, Cond.static yX4_endOf, Cond.code yX4_endOf cX4_endOf 3 (some .int)]
def wsX4_send : List Cond := .code yX4_send cX4_send 6 none :: ((wsX4_send_r1 ++ wsX4_send_r2) ++ wsX40)
def wsX4_least : List Cond := .code yX4_least cX4_least 2 (some .int) :: ([])
def wsX4_tick_r1 : List Cond := [Cond.methodLink RX4 94 yX4_chosen, Cond.static yX4_chosen, Cond.initialized RX4, Cond.code yX4_chosen cX4_chosen 6 (some .int), Cond.methodLink RX4 82 yX4_piece, Cond.static yX4_piece, Cond.code yX4_piece cX4_piece 4 (some .int), Cond.methodLink RX4 76 yX4_granule, Cond.static yX4_granule, Cond.code yX4_granule cX4_granule 1 (some .int), Cond.methodLink RX4 79 yX4_isGood, Cond.static yX4_isGood, Cond.code yX4_isGood cX4_isGood 4 (some .boolean), Cond.methodLink RX4 39 yX4_in, Cond.static yX4_in, Cond.code yX4_in cX4_in 6 (some .boolean), Cond.methodLink RX4 53 yX4_isQueued, Cond.static yX4_isQueued, Cond.code yX4_isQueued cX4_isQueued 2 (some .boolean), Cond.methodLink RX4 43 yX4_isBlock, Cond.static yX4_isBlock, Cond.code yX4_isBlock cX4_isBlock 1 (some .boolean), Cond.constantLong RX4 37 (255), Cond.methodLink RX4 49 yX4_isPinned]
def wsX4_tick_r2 : List Cond := [Cond.static yX4_isPinned, Cond.code yX4_isPinned cX4_isPinned 3 (some .boolean), Cond.methodLink RX4 85 yX4_isDue, Cond.static yX4_isDue, Cond.code yX4_isDue cX4_isDue 2 (some .boolean), Cond.methodLink RX4 98 yX4_least, Cond.static yX4_least, Cond.code yX4_least cX4_least 2 (some .int), Cond.methodLink RX4 102 yX4_send, Cond.instanceMethod yX4_send, Cond.selects RX4 yX4_send yX4_send, Cond.code yX4_send cX4_send 6 none, Cond.fieldLink RX4 88 "IdleDiscardsModel" "sentFrom" "I", Cond.fieldLink RX4 91 "IdleDiscardsModel" "sentBlocks" "I", Cond.methodLink RX4 67 yX4_limit, Cond.static yX4_limit, Cond.code yX4_limit cX4_limit 4 none, Cond.methodLink RX4 59 yX4_ranges, Cond.static yX4_ranges, Cond.code yX4_ranges cX4_ranges 3 (some .int), Cond.methodLink RX4 56 yX4_begins, Cond.static yX4_begins, Cond.code yX4_begins cX4_begins 2 (some .boolean), Cond.methodLink RX4 63 yX4_endOf]
def wsX4_tick_r3 : List Cond := [Cond.static yX4_endOf, Cond.code yX4_endOf cX4_endOf 3 (some .int)]
def wsX4_tick : List Cond := .code yX4_tick cX4_tick 6 none :: ((wsX4_tick_r1 ++ (wsX4_tick_r2 ++ wsX4_tick_r3)) ++ wsX40)
def wsX4_runOn_r1 : List Cond := [Cond.methodLink RX4 106 yX4_tick, Cond.instanceMethod yX4_tick, Cond.selects RX4 yX4_tick yX4_tick, Cond.initialized RX4, Cond.code yX4_tick cX4_tick 6 none, Cond.methodLink RX4 94 yX4_chosen, Cond.static yX4_chosen, Cond.code yX4_chosen cX4_chosen 6 (some .int), Cond.methodLink RX4 82 yX4_piece, Cond.static yX4_piece, Cond.code yX4_piece cX4_piece 4 (some .int), Cond.methodLink RX4 76 yX4_granule, Cond.static yX4_granule, Cond.code yX4_granule cX4_granule 1 (some .int), Cond.methodLink RX4 79 yX4_isGood, Cond.static yX4_isGood, Cond.code yX4_isGood cX4_isGood 4 (some .boolean), Cond.methodLink RX4 39 yX4_in, Cond.static yX4_in, Cond.code yX4_in cX4_in 6 (some .boolean), Cond.methodLink RX4 53 yX4_isQueued, Cond.static yX4_isQueued, Cond.code yX4_isQueued cX4_isQueued 2 (some .boolean), Cond.methodLink RX4 43 yX4_isBlock]
def wsX4_runOn_r2 : List Cond := [Cond.static yX4_isBlock, Cond.code yX4_isBlock cX4_isBlock 1 (some .boolean), Cond.constantLong RX4 37 (255), Cond.methodLink RX4 49 yX4_isPinned, Cond.static yX4_isPinned, Cond.code yX4_isPinned cX4_isPinned 3 (some .boolean), Cond.methodLink RX4 85 yX4_isDue, Cond.static yX4_isDue, Cond.code yX4_isDue cX4_isDue 2 (some .boolean), Cond.methodLink RX4 98 yX4_least, Cond.static yX4_least, Cond.code yX4_least cX4_least 2 (some .int), Cond.methodLink RX4 102 yX4_send, Cond.instanceMethod yX4_send, Cond.selects RX4 yX4_send yX4_send, Cond.code yX4_send cX4_send 6 none, Cond.fieldLink RX4 88 "IdleDiscardsModel" "sentFrom" "I", Cond.fieldLink RX4 91 "IdleDiscardsModel" "sentBlocks" "I", Cond.methodLink RX4 67 yX4_limit, Cond.static yX4_limit, Cond.code yX4_limit cX4_limit 4 none, Cond.methodLink RX4 59 yX4_ranges, Cond.static yX4_ranges, Cond.code yX4_ranges cX4_ranges 3 (some .int)]
def wsX4_runOn_r3 : List Cond := [Cond.methodLink RX4 56 yX4_begins, Cond.static yX4_begins, Cond.code yX4_begins cX4_begins 2 (some .boolean), Cond.methodLink RX4 63 yX4_endOf, Cond.static yX4_endOf, Cond.code yX4_endOf cX4_endOf 3 (some .int)]
def wsX4_runOn : List Cond := .code yX4_runOn cX4_runOn 5 (some .int) :: ((wsX4_runOn_r1 ++ (wsX4_runOn_r2 ++ wsX4_runOn_r3)) ++ wsX40)
def wsX4_flushOn_r1 : List Cond := [Cond.methodLink RX4 94 yX4_chosen, Cond.static yX4_chosen, Cond.initialized RX4, Cond.code yX4_chosen cX4_chosen 6 (some .int), Cond.methodLink RX4 82 yX4_piece, Cond.static yX4_piece, Cond.code yX4_piece cX4_piece 4 (some .int), Cond.methodLink RX4 76 yX4_granule, Cond.static yX4_granule, Cond.code yX4_granule cX4_granule 1 (some .int), Cond.methodLink RX4 79 yX4_isGood, Cond.static yX4_isGood, Cond.code yX4_isGood cX4_isGood 4 (some .boolean), Cond.methodLink RX4 39 yX4_in, Cond.static yX4_in, Cond.code yX4_in cX4_in 6 (some .boolean), Cond.methodLink RX4 53 yX4_isQueued, Cond.static yX4_isQueued, Cond.code yX4_isQueued cX4_isQueued 2 (some .boolean), Cond.methodLink RX4 43 yX4_isBlock, Cond.static yX4_isBlock, Cond.code yX4_isBlock cX4_isBlock 1 (some .boolean), Cond.constantLong RX4 37 (255), Cond.methodLink RX4 49 yX4_isPinned]
def wsX4_flushOn_r2 : List Cond := [Cond.static yX4_isPinned, Cond.code yX4_isPinned cX4_isPinned 3 (some .boolean), Cond.methodLink RX4 85 yX4_isDue, Cond.static yX4_isDue, Cond.code yX4_isDue cX4_isDue 2 (some .boolean), Cond.methodLink RX4 98 yX4_least, Cond.static yX4_least, Cond.code yX4_least cX4_least 2 (some .int), Cond.methodLink RX4 102 yX4_send, Cond.instanceMethod yX4_send, Cond.selects RX4 yX4_send yX4_send, Cond.code yX4_send cX4_send 6 none, Cond.fieldLink RX4 88 "IdleDiscardsModel" "sentFrom" "I", Cond.fieldLink RX4 91 "IdleDiscardsModel" "sentBlocks" "I", Cond.methodLink RX4 67 yX4_limit, Cond.static yX4_limit, Cond.code yX4_limit cX4_limit 4 none, Cond.methodLink RX4 59 yX4_ranges, Cond.static yX4_ranges, Cond.code yX4_ranges cX4_ranges 3 (some .int), Cond.methodLink RX4 56 yX4_begins, Cond.static yX4_begins, Cond.code yX4_begins cX4_begins 2 (some .boolean), Cond.methodLink RX4 63 yX4_endOf]
def wsX4_flushOn_r3 : List Cond := [Cond.static yX4_endOf, Cond.code yX4_endOf cX4_endOf 3 (some .int)]
def wsX4_flushOn : List Cond := .code yX4_flushOn cX4_flushOn 4 (some .int) :: ((wsX4_flushOn_r1 ++ (wsX4_flushOn_r2 ++ wsX4_flushOn_r3)) ++ wsX40)
def wsX4_greatest : List Cond := .code yX4_greatest cX4_greatest 1 (some .int) :: ([])
def wsX4_isSetting : List Cond := .code yX4_isSetting cX4_isSetting 2 (some .boolean) :: ([.constantLong RX4 109 (5), .methodLink RX4 39 yX4_in, .static yX4_in, .initialized RX4, .code yX4_in cX4_in 6 (some .boolean), .methodLink RX4 111 yX4_greatest, .static yX4_greatest, .code yX4_greatest cX4_greatest 1 (some .int)])
def wsX4_lay : List Cond := .code yX4_lay cX4_lay 4 (some .int) :: ([])
def wsX4_append : List Cond := .code yX4_append cX4_append 2 (some .int) :: ([.constantLong RX4 37 (255), .fieldLink RX4 115 "IdleDiscardsModel" "size" "I", .fieldLink RX4 7 "IdleDiscardsModel" "text" "[I", .methodLink RX4 39 yX4_in, .static yX4_in, .initialized RX4, .code yX4_in cX4_in 6 (some .boolean), .methodLink RX4 118 yX4_refused, .instanceMethod yX4_refused, .selects RX4 yX4_refused yX4_refused, .code yX4_refused cX4_refused 2 (some .boolean), .fieldLink RX4 33 "IdleDiscardsModel" "refusal" "I"] ++ wsX40)
def wsX4_clearText : List Cond := .code yX4_clearText cX4_clearText 2 (some .int) :: ([.fieldLink RX4 33 "IdleDiscardsModel" "refusal" "I", .fieldLink RX4 115 "IdleDiscardsModel" "size" "I"] ++ wsX40)
def wsX4_figures : List Cond := .code yX4_figures cX4_figures 9 (some .int) :: ([.fieldLink RX4 121 "IdleDiscardsModel" "spot" "I", .fieldLink RX4 115 "IdleDiscardsModel" "size" "I", .fieldLink RX4 7 "IdleDiscardsModel" "text" "[I", .constantLong RX4 124 (9), .methodLink RX4 39 yX4_in, .static yX4_in, .initialized RX4, .code yX4_in cX4_in 6 (some .boolean)] ++ wsX40)
def wsX4_done : List Cond := .code yX4_done cX4_done 2 (some .boolean) :: ([.fieldLink RX4 126 "IdleDiscardsModel" "out" "I"] ++ wsX40)
def wsX4_readCommand_r1 : List Cond := [Cond.fieldLink RX4 7 "IdleDiscardsModel" "text" "[I", Cond.fieldLink RX4 121 "IdleDiscardsModel" "spot" "I", Cond.methodLink RX4 129 yX4_figures, Cond.instanceMethod yX4_figures, Cond.selects RX4 yX4_figures yX4_figures, Cond.initialized RX4, Cond.code yX4_figures cX4_figures 9 (some .int), Cond.fieldLink RX4 115 "IdleDiscardsModel" "size" "I", Cond.constantLong RX4 124 (9), Cond.methodLink RX4 39 yX4_in, Cond.static yX4_in, Cond.code yX4_in cX4_in 6 (some .boolean), Cond.methodLink RX4 133 yX4_whyNotSpan, Cond.static yX4_whyNotSpan, Cond.code yX4_whyNotSpan cX4_whyNotSpan 2 (some .int), Cond.constantLong RX4 47 (99), Cond.methodLink RX4 43 yX4_isBlock, Cond.static yX4_isBlock, Cond.code yX4_isBlock cX4_isBlock 1 (some .boolean), Cond.constantLong RX4 37 (255), Cond.methodLink RX4 136 yX4_writeOn, Cond.static yX4_writeOn, Cond.code yX4_writeOn cX4_writeOn 5 (some .int), Cond.methodLink RX4 53 yX4_isQueued]
def wsX4_readCommand_r2 : List Cond := [Cond.static yX4_isQueued, Cond.code yX4_isQueued cX4_isQueued 2 (some .boolean), Cond.methodLink RX4 67 yX4_limit, Cond.static yX4_limit, Cond.code yX4_limit cX4_limit 4 none, Cond.methodLink RX4 59 yX4_ranges, Cond.static yX4_ranges, Cond.code yX4_ranges cX4_ranges 3 (some .int), Cond.methodLink RX4 56 yX4_begins, Cond.static yX4_begins, Cond.code yX4_begins cX4_begins 2 (some .boolean), Cond.methodLink RX4 63 yX4_endOf, Cond.static yX4_endOf, Cond.code yX4_endOf cX4_endOf 3 (some .int), Cond.methodLink RX4 140 yX4_freeOn, Cond.static yX4_freeOn, Cond.code yX4_freeOn cX4_freeOn 8 (some .int), Cond.methodLink RX4 70 yX4_startOf, Cond.static yX4_startOf, Cond.code yX4_startOf cX4_startOf 3 (some .int), Cond.methodLink RX4 143 yX4_done, Cond.instanceMethod yX4_done, Cond.selects RX4 yX4_done yX4_done, Cond.code yX4_done cX4_done 2 (some .boolean)]
def wsX4_readCommand_r3 : List Cond := [Cond.fieldLink RX4 126 "IdleDiscardsModel" "out" "I", Cond.methodLink RX4 147 yX4_runOn, Cond.instanceMethod yX4_runOn, Cond.selects RX4 yX4_runOn yX4_runOn, Cond.code yX4_runOn cX4_runOn 5 (some .int), Cond.methodLink RX4 106 yX4_tick, Cond.instanceMethod yX4_tick, Cond.selects RX4 yX4_tick yX4_tick, Cond.code yX4_tick cX4_tick 6 none, Cond.methodLink RX4 94 yX4_chosen, Cond.static yX4_chosen, Cond.code yX4_chosen cX4_chosen 6 (some .int), Cond.methodLink RX4 82 yX4_piece, Cond.static yX4_piece, Cond.code yX4_piece cX4_piece 4 (some .int), Cond.methodLink RX4 76 yX4_granule, Cond.static yX4_granule, Cond.code yX4_granule cX4_granule 1 (some .int), Cond.methodLink RX4 79 yX4_isGood, Cond.static yX4_isGood, Cond.code yX4_isGood cX4_isGood 4 (some .boolean), Cond.methodLink RX4 49 yX4_isPinned, Cond.static yX4_isPinned, Cond.code yX4_isPinned cX4_isPinned 3 (some .boolean)]
def wsX4_readCommand_r4 : List Cond := [Cond.methodLink RX4 85 yX4_isDue, Cond.static yX4_isDue, Cond.code yX4_isDue cX4_isDue 2 (some .boolean), Cond.methodLink RX4 98 yX4_least, Cond.static yX4_least, Cond.code yX4_least cX4_least 2 (some .int), Cond.methodLink RX4 102 yX4_send, Cond.instanceMethod yX4_send, Cond.selects RX4 yX4_send yX4_send, Cond.code yX4_send cX4_send 6 none, Cond.fieldLink RX4 88 "IdleDiscardsModel" "sentFrom" "I", Cond.fieldLink RX4 91 "IdleDiscardsModel" "sentBlocks" "I", Cond.methodLink RX4 150 yX4_pinOn, Cond.static yX4_pinOn, Cond.code yX4_pinOn cX4_pinOn 4 (some .int), Cond.methodLink RX4 73 yX4_allPinned, Cond.static yX4_allPinned, Cond.code yX4_allPinned cX4_allPinned 3 (some .int), Cond.methodLink RX4 154 yX4_isSetting, Cond.static yX4_isSetting, Cond.code yX4_isSetting cX4_isSetting 2 (some .boolean), Cond.constantLong RX4 109 (5), Cond.methodLink RX4 111 yX4_greatest, Cond.static yX4_greatest]
def wsX4_readCommand_r5 : List Cond := [Cond.code yX4_greatest cX4_greatest 1 (some .int), Cond.methodLink RX4 158 yX4_lay, Cond.static yX4_lay, Cond.code yX4_lay cX4_lay 4 (some .int)]
def wsX4_readCommand : List Cond := .code yX4_readCommand cX4_readCommand 6 (some .boolean) :: ((wsX4_readCommand_r1 ++ (wsX4_readCommand_r2 ++ (wsX4_readCommand_r3 ++ (wsX4_readCommand_r4 ++ wsX4_readCommand_r5)))) ++ wsX40)
def wsX4_readText_r1 : List Cond := [Cond.fieldLink RX4 126 "IdleDiscardsModel" "out" "I", Cond.fieldLink RX4 121 "IdleDiscardsModel" "spot" "I", Cond.fieldLink RX4 115 "IdleDiscardsModel" "size" "I", Cond.fieldLink RX4 7 "IdleDiscardsModel" "text" "[I", Cond.methodLink RX4 29 yX4_begin, Cond.static yX4_begin, Cond.initialized RX4, Cond.code yX4_begin cX4_begin 2 none, Cond.methodLink RX4 161 yX4_readCommand, Cond.instanceMethod yX4_readCommand, Cond.selects RX4 yX4_readCommand yX4_readCommand, Cond.code yX4_readCommand cX4_readCommand 6 (some .boolean), Cond.methodLink RX4 129 yX4_figures, Cond.instanceMethod yX4_figures, Cond.selects RX4 yX4_figures yX4_figures, Cond.code yX4_figures cX4_figures 9 (some .int), Cond.constantLong RX4 124 (9), Cond.methodLink RX4 39 yX4_in, Cond.static yX4_in, Cond.code yX4_in cX4_in 6 (some .boolean), Cond.methodLink RX4 133 yX4_whyNotSpan, Cond.static yX4_whyNotSpan, Cond.code yX4_whyNotSpan cX4_whyNotSpan 2 (some .int), Cond.constantLong RX4 47 (99)]
def wsX4_readText_r2 : List Cond := [Cond.methodLink RX4 43 yX4_isBlock, Cond.static yX4_isBlock, Cond.code yX4_isBlock cX4_isBlock 1 (some .boolean), Cond.constantLong RX4 37 (255), Cond.methodLink RX4 136 yX4_writeOn, Cond.static yX4_writeOn, Cond.code yX4_writeOn cX4_writeOn 5 (some .int), Cond.methodLink RX4 53 yX4_isQueued, Cond.static yX4_isQueued, Cond.code yX4_isQueued cX4_isQueued 2 (some .boolean), Cond.methodLink RX4 67 yX4_limit, Cond.static yX4_limit, Cond.code yX4_limit cX4_limit 4 none, Cond.methodLink RX4 59 yX4_ranges, Cond.static yX4_ranges, Cond.code yX4_ranges cX4_ranges 3 (some .int), Cond.methodLink RX4 56 yX4_begins, Cond.static yX4_begins, Cond.code yX4_begins cX4_begins 2 (some .boolean), Cond.methodLink RX4 63 yX4_endOf, Cond.static yX4_endOf, Cond.code yX4_endOf cX4_endOf 3 (some .int), Cond.methodLink RX4 140 yX4_freeOn, Cond.static yX4_freeOn]
def wsX4_readText_r3 : List Cond := [Cond.code yX4_freeOn cX4_freeOn 8 (some .int), Cond.methodLink RX4 70 yX4_startOf, Cond.static yX4_startOf, Cond.code yX4_startOf cX4_startOf 3 (some .int), Cond.methodLink RX4 143 yX4_done, Cond.instanceMethod yX4_done, Cond.selects RX4 yX4_done yX4_done, Cond.code yX4_done cX4_done 2 (some .boolean), Cond.methodLink RX4 147 yX4_runOn, Cond.instanceMethod yX4_runOn, Cond.selects RX4 yX4_runOn yX4_runOn, Cond.code yX4_runOn cX4_runOn 5 (some .int), Cond.methodLink RX4 106 yX4_tick, Cond.instanceMethod yX4_tick, Cond.selects RX4 yX4_tick yX4_tick, Cond.code yX4_tick cX4_tick 6 none, Cond.methodLink RX4 94 yX4_chosen, Cond.static yX4_chosen, Cond.code yX4_chosen cX4_chosen 6 (some .int), Cond.methodLink RX4 82 yX4_piece, Cond.static yX4_piece, Cond.code yX4_piece cX4_piece 4 (some .int), Cond.methodLink RX4 76 yX4_granule, Cond.static yX4_granule]
def wsX4_readText_r4 : List Cond := [Cond.code yX4_granule cX4_granule 1 (some .int), Cond.methodLink RX4 79 yX4_isGood, Cond.static yX4_isGood, Cond.code yX4_isGood cX4_isGood 4 (some .boolean), Cond.methodLink RX4 49 yX4_isPinned, Cond.static yX4_isPinned, Cond.code yX4_isPinned cX4_isPinned 3 (some .boolean), Cond.methodLink RX4 85 yX4_isDue, Cond.static yX4_isDue, Cond.code yX4_isDue cX4_isDue 2 (some .boolean), Cond.methodLink RX4 98 yX4_least, Cond.static yX4_least, Cond.code yX4_least cX4_least 2 (some .int), Cond.methodLink RX4 102 yX4_send, Cond.instanceMethod yX4_send, Cond.selects RX4 yX4_send yX4_send, Cond.code yX4_send cX4_send 6 none, Cond.fieldLink RX4 88 "IdleDiscardsModel" "sentFrom" "I", Cond.fieldLink RX4 91 "IdleDiscardsModel" "sentBlocks" "I", Cond.methodLink RX4 150 yX4_pinOn, Cond.static yX4_pinOn, Cond.code yX4_pinOn cX4_pinOn 4 (some .int), Cond.methodLink RX4 73 yX4_allPinned, Cond.static yX4_allPinned]
def wsX4_readText_r5 : List Cond := [Cond.code yX4_allPinned cX4_allPinned 3 (some .int), Cond.methodLink RX4 154 yX4_isSetting, Cond.static yX4_isSetting, Cond.code yX4_isSetting cX4_isSetting 2 (some .boolean), Cond.constantLong RX4 109 (5), Cond.methodLink RX4 111 yX4_greatest, Cond.static yX4_greatest, Cond.code yX4_greatest cX4_greatest 1 (some .int), Cond.methodLink RX4 158 yX4_lay, Cond.static yX4_lay, Cond.code yX4_lay cX4_lay 4 (some .int)]
def wsX4_readText : List Cond := .code yX4_readText cX4_readText 2 (some .int) :: ((wsX4_readText_r1 ++ (wsX4_readText_r2 ++ (wsX4_readText_r3 ++ (wsX4_readText_r4 ++ wsX4_readText_r5)))) ++ wsX40)
def wsX4_errorPosition_r1 : List Cond := [Cond.fieldLink RX4 33 "IdleDiscardsModel" "refusal" "I", Cond.fieldLink RX4 16 "IdleDiscardsModel" "trial" "[I", Cond.methodLink RX4 165 yX4_readText, Cond.instanceMethod yX4_readText, Cond.selects RX4 yX4_readText yX4_readText, Cond.initialized RX4, Cond.code yX4_readText cX4_readText 2 (some .int), Cond.fieldLink RX4 126 "IdleDiscardsModel" "out" "I", Cond.fieldLink RX4 121 "IdleDiscardsModel" "spot" "I", Cond.fieldLink RX4 115 "IdleDiscardsModel" "size" "I", Cond.fieldLink RX4 7 "IdleDiscardsModel" "text" "[I", Cond.methodLink RX4 29 yX4_begin, Cond.static yX4_begin, Cond.code yX4_begin cX4_begin 2 none, Cond.methodLink RX4 161 yX4_readCommand, Cond.instanceMethod yX4_readCommand, Cond.selects RX4 yX4_readCommand yX4_readCommand, Cond.code yX4_readCommand cX4_readCommand 6 (some .boolean), Cond.methodLink RX4 129 yX4_figures, Cond.instanceMethod yX4_figures, Cond.selects RX4 yX4_figures yX4_figures, Cond.code yX4_figures cX4_figures 9 (some .int), Cond.constantLong RX4 124 (9), Cond.methodLink RX4 39 yX4_in]
def wsX4_errorPosition_r2 : List Cond := [Cond.static yX4_in, Cond.code yX4_in cX4_in 6 (some .boolean), Cond.methodLink RX4 133 yX4_whyNotSpan, Cond.static yX4_whyNotSpan, Cond.code yX4_whyNotSpan cX4_whyNotSpan 2 (some .int), Cond.constantLong RX4 47 (99), Cond.methodLink RX4 43 yX4_isBlock, Cond.static yX4_isBlock, Cond.code yX4_isBlock cX4_isBlock 1 (some .boolean), Cond.constantLong RX4 37 (255), Cond.methodLink RX4 136 yX4_writeOn, Cond.static yX4_writeOn, Cond.code yX4_writeOn cX4_writeOn 5 (some .int), Cond.methodLink RX4 53 yX4_isQueued, Cond.static yX4_isQueued, Cond.code yX4_isQueued cX4_isQueued 2 (some .boolean), Cond.methodLink RX4 67 yX4_limit, Cond.static yX4_limit, Cond.code yX4_limit cX4_limit 4 none, Cond.methodLink RX4 59 yX4_ranges, Cond.static yX4_ranges, Cond.code yX4_ranges cX4_ranges 3 (some .int), Cond.methodLink RX4 56 yX4_begins, Cond.static yX4_begins]
def wsX4_errorPosition_r3 : List Cond := [Cond.code yX4_begins cX4_begins 2 (some .boolean), Cond.methodLink RX4 63 yX4_endOf, Cond.static yX4_endOf, Cond.code yX4_endOf cX4_endOf 3 (some .int), Cond.methodLink RX4 140 yX4_freeOn, Cond.static yX4_freeOn, Cond.code yX4_freeOn cX4_freeOn 8 (some .int), Cond.methodLink RX4 70 yX4_startOf, Cond.static yX4_startOf, Cond.code yX4_startOf cX4_startOf 3 (some .int), Cond.methodLink RX4 143 yX4_done, Cond.instanceMethod yX4_done, Cond.selects RX4 yX4_done yX4_done, Cond.code yX4_done cX4_done 2 (some .boolean), Cond.methodLink RX4 147 yX4_runOn, Cond.instanceMethod yX4_runOn, Cond.selects RX4 yX4_runOn yX4_runOn, Cond.code yX4_runOn cX4_runOn 5 (some .int), Cond.methodLink RX4 106 yX4_tick, Cond.instanceMethod yX4_tick, Cond.selects RX4 yX4_tick yX4_tick, Cond.code yX4_tick cX4_tick 6 none, Cond.methodLink RX4 94 yX4_chosen, Cond.static yX4_chosen]
def wsX4_errorPosition_r4 : List Cond := [Cond.code yX4_chosen cX4_chosen 6 (some .int), Cond.methodLink RX4 82 yX4_piece, Cond.static yX4_piece, Cond.code yX4_piece cX4_piece 4 (some .int), Cond.methodLink RX4 76 yX4_granule, Cond.static yX4_granule, Cond.code yX4_granule cX4_granule 1 (some .int), Cond.methodLink RX4 79 yX4_isGood, Cond.static yX4_isGood, Cond.code yX4_isGood cX4_isGood 4 (some .boolean), Cond.methodLink RX4 49 yX4_isPinned, Cond.static yX4_isPinned, Cond.code yX4_isPinned cX4_isPinned 3 (some .boolean), Cond.methodLink RX4 85 yX4_isDue, Cond.static yX4_isDue, Cond.code yX4_isDue cX4_isDue 2 (some .boolean), Cond.methodLink RX4 98 yX4_least, Cond.static yX4_least, Cond.code yX4_least cX4_least 2 (some .int), Cond.methodLink RX4 102 yX4_send, Cond.instanceMethod yX4_send, Cond.selects RX4 yX4_send yX4_send, Cond.code yX4_send cX4_send 6 none, Cond.fieldLink RX4 88 "IdleDiscardsModel" "sentFrom" "I"]
def wsX4_errorPosition_r5 : List Cond := [Cond.fieldLink RX4 91 "IdleDiscardsModel" "sentBlocks" "I", Cond.methodLink RX4 150 yX4_pinOn, Cond.static yX4_pinOn, Cond.code yX4_pinOn cX4_pinOn 4 (some .int), Cond.methodLink RX4 73 yX4_allPinned, Cond.static yX4_allPinned, Cond.code yX4_allPinned cX4_allPinned 3 (some .int), Cond.methodLink RX4 154 yX4_isSetting, Cond.static yX4_isSetting, Cond.code yX4_isSetting cX4_isSetting 2 (some .boolean), Cond.constantLong RX4 109 (5), Cond.methodLink RX4 111 yX4_greatest, Cond.static yX4_greatest, Cond.code yX4_greatest cX4_greatest 1 (some .int), Cond.methodLink RX4 158 yX4_lay, Cond.static yX4_lay, Cond.code yX4_lay cX4_lay 4 (some .int)]
def wsX4_errorPosition : List Cond := .code yX4_errorPosition cX4_errorPosition 1 (some .int) :: ((wsX4_errorPosition_r1 ++ (wsX4_errorPosition_r2 ++ (wsX4_errorPosition_r3 ++ (wsX4_errorPosition_r4 ++ wsX4_errorPosition_r5)))) ++ wsX40)
def wsX4_load_r1 : List Cond := [Cond.fieldLink RX4 16 "IdleDiscardsModel" "trial" "[I", Cond.fieldLink RX4 13 "IdleDiscardsModel" "now" "[I", Cond.fieldLink RX4 172 "IdleDiscardsModel" "acts" "I", Cond.fieldLink RX4 25 "IdleDiscardsModel" "isKept" "[Z", Cond.fieldLink RX4 126 "IdleDiscardsModel" "out" "I", Cond.methodLink RX4 165 yX4_readText, Cond.instanceMethod yX4_readText, Cond.selects RX4 yX4_readText yX4_readText, Cond.initialized RX4, Cond.code yX4_readText cX4_readText 2 (some .int), Cond.fieldLink RX4 121 "IdleDiscardsModel" "spot" "I", Cond.fieldLink RX4 115 "IdleDiscardsModel" "size" "I", Cond.fieldLink RX4 7 "IdleDiscardsModel" "text" "[I", Cond.methodLink RX4 29 yX4_begin, Cond.static yX4_begin, Cond.code yX4_begin cX4_begin 2 none, Cond.methodLink RX4 161 yX4_readCommand, Cond.instanceMethod yX4_readCommand, Cond.selects RX4 yX4_readCommand yX4_readCommand, Cond.code yX4_readCommand cX4_readCommand 6 (some .boolean), Cond.methodLink RX4 129 yX4_figures, Cond.instanceMethod yX4_figures, Cond.selects RX4 yX4_figures yX4_figures, Cond.code yX4_figures cX4_figures 9 (some .int)]
def wsX4_load_r2 : List Cond := [Cond.constantLong RX4 124 (9), Cond.methodLink RX4 39 yX4_in, Cond.static yX4_in, Cond.code yX4_in cX4_in 6 (some .boolean), Cond.methodLink RX4 133 yX4_whyNotSpan, Cond.static yX4_whyNotSpan, Cond.code yX4_whyNotSpan cX4_whyNotSpan 2 (some .int), Cond.constantLong RX4 47 (99), Cond.methodLink RX4 43 yX4_isBlock, Cond.static yX4_isBlock, Cond.code yX4_isBlock cX4_isBlock 1 (some .boolean), Cond.constantLong RX4 37 (255), Cond.methodLink RX4 136 yX4_writeOn, Cond.static yX4_writeOn, Cond.code yX4_writeOn cX4_writeOn 5 (some .int), Cond.methodLink RX4 53 yX4_isQueued, Cond.static yX4_isQueued, Cond.code yX4_isQueued cX4_isQueued 2 (some .boolean), Cond.methodLink RX4 67 yX4_limit, Cond.static yX4_limit, Cond.code yX4_limit cX4_limit 4 none, Cond.methodLink RX4 59 yX4_ranges, Cond.static yX4_ranges, Cond.code yX4_ranges cX4_ranges 3 (some .int)]
def wsX4_load_r3 : List Cond := [Cond.methodLink RX4 56 yX4_begins, Cond.static yX4_begins, Cond.code yX4_begins cX4_begins 2 (some .boolean), Cond.methodLink RX4 63 yX4_endOf, Cond.static yX4_endOf, Cond.code yX4_endOf cX4_endOf 3 (some .int), Cond.methodLink RX4 140 yX4_freeOn, Cond.static yX4_freeOn, Cond.code yX4_freeOn cX4_freeOn 8 (some .int), Cond.methodLink RX4 70 yX4_startOf, Cond.static yX4_startOf, Cond.code yX4_startOf cX4_startOf 3 (some .int), Cond.methodLink RX4 143 yX4_done, Cond.instanceMethod yX4_done, Cond.selects RX4 yX4_done yX4_done, Cond.code yX4_done cX4_done 2 (some .boolean), Cond.methodLink RX4 147 yX4_runOn, Cond.instanceMethod yX4_runOn, Cond.selects RX4 yX4_runOn yX4_runOn, Cond.code yX4_runOn cX4_runOn 5 (some .int), Cond.methodLink RX4 106 yX4_tick, Cond.instanceMethod yX4_tick, Cond.selects RX4 yX4_tick yX4_tick, Cond.code yX4_tick cX4_tick 6 none]
def wsX4_load_r4 : List Cond := [Cond.methodLink RX4 94 yX4_chosen, Cond.static yX4_chosen, Cond.code yX4_chosen cX4_chosen 6 (some .int), Cond.methodLink RX4 82 yX4_piece, Cond.static yX4_piece, Cond.code yX4_piece cX4_piece 4 (some .int), Cond.methodLink RX4 76 yX4_granule, Cond.static yX4_granule, Cond.code yX4_granule cX4_granule 1 (some .int), Cond.methodLink RX4 79 yX4_isGood, Cond.static yX4_isGood, Cond.code yX4_isGood cX4_isGood 4 (some .boolean), Cond.methodLink RX4 49 yX4_isPinned, Cond.static yX4_isPinned, Cond.code yX4_isPinned cX4_isPinned 3 (some .boolean), Cond.methodLink RX4 85 yX4_isDue, Cond.static yX4_isDue, Cond.code yX4_isDue cX4_isDue 2 (some .boolean), Cond.methodLink RX4 98 yX4_least, Cond.static yX4_least, Cond.code yX4_least cX4_least 2 (some .int), Cond.methodLink RX4 102 yX4_send, Cond.instanceMethod yX4_send, Cond.selects RX4 yX4_send yX4_send]
def wsX4_load_r5 : List Cond := [Cond.code yX4_send cX4_send 6 none, Cond.fieldLink RX4 88 "IdleDiscardsModel" "sentFrom" "I", Cond.fieldLink RX4 91 "IdleDiscardsModel" "sentBlocks" "I", Cond.methodLink RX4 150 yX4_pinOn, Cond.static yX4_pinOn, Cond.code yX4_pinOn cX4_pinOn 4 (some .int), Cond.methodLink RX4 73 yX4_allPinned, Cond.static yX4_allPinned, Cond.code yX4_allPinned cX4_allPinned 3 (some .int), Cond.methodLink RX4 154 yX4_isSetting, Cond.static yX4_isSetting, Cond.code yX4_isSetting cX4_isSetting 2 (some .boolean), Cond.constantLong RX4 109 (5), Cond.methodLink RX4 111 yX4_greatest, Cond.static yX4_greatest, Cond.code yX4_greatest cX4_greatest 1 (some .int), Cond.methodLink RX4 158 yX4_lay, Cond.static yX4_lay, Cond.code yX4_lay cX4_lay 4 (some .int), Cond.methodLink RX4 118 yX4_refused, Cond.instanceMethod yX4_refused, Cond.selects RX4 yX4_refused yX4_refused, Cond.code yX4_refused cX4_refused 2 (some .boolean), Cond.fieldLink RX4 33 "IdleDiscardsModel" "refusal" "I"]
def wsX4_load_r6 : List Cond := [Cond.methodLink RX4 168 yX4_copyState, Cond.static yX4_copyState, Cond.code yX4_copyState cX4_copyState 5 none]
def wsX4_load : List Cond := .code yX4_load cX4_load 1 (some .int) :: ((wsX4_load_r1 ++ (wsX4_load_r2 ++ (wsX4_load_r3 ++ (wsX4_load_r4 ++ (wsX4_load_r5 ++ wsX4_load_r6))))) ++ wsX40)
def wsX4_sum : List Cond := .code yX4_sum cX4_sum 4 (some .int) :: ([])
def wsX4_lost : List Cond := .code yX4_lost cX4_lost 3 (some .int) :: ([.methodLink RX4 53 yX4_isQueued, .static yX4_isQueued, .initialized RX4, .code yX4_isQueued cX4_isQueued 2 (some .boolean), .methodLink RX4 43 yX4_isBlock, .static yX4_isBlock, .code yX4_isBlock cX4_isBlock 1 (some .boolean), .constantLong RX4 37 (255), .methodLink RX4 39 yX4_in, .static yX4_in, .code yX4_in cX4_in 6 (some .boolean)])
def wsX4_about_r1 : List Cond := [Cond.constantLong RX4 175 (10), Cond.fieldLink RX4 13 "IdleDiscardsModel" "now" "[I", Cond.methodLink RX4 39 yX4_in, Cond.static yX4_in, Cond.initialized RX4, Cond.code yX4_in cX4_in 6 (some .boolean), Cond.methodLink RX4 118 yX4_refused, Cond.instanceMethod yX4_refused, Cond.selects RX4 yX4_refused yX4_refused, Cond.code yX4_refused cX4_refused 2 (some .boolean), Cond.fieldLink RX4 33 "IdleDiscardsModel" "refusal" "I", Cond.methodLink RX4 177 yX4_sum, Cond.static yX4_sum, Cond.code yX4_sum cX4_sum 4 (some .int), Cond.methodLink RX4 59 yX4_ranges, Cond.static yX4_ranges, Cond.code yX4_ranges cX4_ranges 3 (some .int), Cond.methodLink RX4 56 yX4_begins, Cond.static yX4_begins, Cond.code yX4_begins cX4_begins 2 (some .boolean), Cond.methodLink RX4 53 yX4_isQueued, Cond.static yX4_isQueued, Cond.code yX4_isQueued cX4_isQueued 2 (some .boolean), Cond.methodLink RX4 43 yX4_isBlock]
def wsX4_about_r2 : List Cond := [Cond.static yX4_isBlock, Cond.code yX4_isBlock cX4_isBlock 1 (some .boolean), Cond.constantLong RX4 37 (255), Cond.methodLink RX4 180 yX4_queuedBlocks, Cond.static yX4_queuedBlocks, Cond.code yX4_queuedBlocks cX4_queuedBlocks 3 (some .int), Cond.methodLink RX4 73 yX4_allPinned, Cond.static yX4_allPinned, Cond.code yX4_allPinned cX4_allPinned 3 (some .int), Cond.methodLink RX4 49 yX4_isPinned, Cond.static yX4_isPinned, Cond.code yX4_isPinned cX4_isPinned 3 (some .boolean), Cond.methodLink RX4 183 yX4_lost, Cond.static yX4_lost, Cond.code yX4_lost cX4_lost 3 (some .int)]
def wsX4_about : List Cond := .code yX4_about cX4_about 2 (some .int) :: ((wsX4_about_r1 ++ wsX4_about_r2) ++ wsX40)
def wsX4_block : List Cond := .code yX4_block cX4_block 5 (some .int) :: ([.constantLong RX4 186 (3), .fieldLink RX4 13 "IdleDiscardsModel" "now" "[I", .methodLink RX4 43 yX4_isBlock, .static yX4_isBlock, .initialized RX4, .code yX4_isBlock cX4_isBlock 1 (some .boolean), .constantLong RX4 37 (255), .methodLink RX4 39 yX4_in, .static yX4_in, .code yX4_in cX4_in 6 (some .boolean), .methodLink RX4 118 yX4_refused, .instanceMethod yX4_refused, .selects RX4 yX4_refused yX4_refused, .code yX4_refused cX4_refused 2 (some .boolean), .fieldLink RX4 33 "IdleDiscardsModel" "refusal" "I", .methodLink RX4 49 yX4_isPinned, .static yX4_isPinned, .code yX4_isPinned cX4_isPinned 3 (some .boolean), .methodLink RX4 56 yX4_begins, .static yX4_begins, .code yX4_begins cX4_begins 2 (some .boolean), .methodLink RX4 53 yX4_isQueued, .static yX4_isQueued, .code yX4_isQueued cX4_isQueued 2 (some .boolean)] ++ wsX40)
def wsX4_rangeAt : List Cond := .code yX4_rangeAt cX4_rangeAt 4 (some .int) :: ([.methodLink RX4 56 yX4_begins, .static yX4_begins, .initialized RX4, .code yX4_begins cX4_begins 2 (some .boolean), .methodLink RX4 53 yX4_isQueued, .static yX4_isQueued, .code yX4_isQueued cX4_isQueued 2 (some .boolean), .methodLink RX4 43 yX4_isBlock, .static yX4_isBlock, .code yX4_isBlock cX4_isBlock 1 (some .boolean), .constantLong RX4 37 (255), .methodLink RX4 39 yX4_in, .static yX4_in, .code yX4_in cX4_in 6 (some .boolean)])
def wsX4_range_r1 : List Cond := [Cond.fieldLink RX4 13 "IdleDiscardsModel" "now" "[I", Cond.constantLong RX4 109 (5), Cond.methodLink RX4 59 yX4_ranges, Cond.static yX4_ranges, Cond.initialized RX4, Cond.code yX4_ranges cX4_ranges 3 (some .int), Cond.methodLink RX4 56 yX4_begins, Cond.static yX4_begins, Cond.code yX4_begins cX4_begins 2 (some .boolean), Cond.methodLink RX4 53 yX4_isQueued, Cond.static yX4_isQueued, Cond.code yX4_isQueued cX4_isQueued 2 (some .boolean), Cond.methodLink RX4 43 yX4_isBlock, Cond.static yX4_isBlock, Cond.code yX4_isBlock cX4_isBlock 1 (some .boolean), Cond.constantLong RX4 37 (255), Cond.methodLink RX4 39 yX4_in, Cond.static yX4_in, Cond.code yX4_in cX4_in 6 (some .boolean), Cond.methodLink RX4 118 yX4_refused, Cond.instanceMethod yX4_refused, Cond.selects RX4 yX4_refused yX4_refused, Cond.code yX4_refused cX4_refused 2 (some .boolean), Cond.fieldLink RX4 33 "IdleDiscardsModel" "refusal" "I"]
def wsX4_range_r2 : List Cond := [Cond.methodLink RX4 188 yX4_rangeAt, Cond.static yX4_rangeAt, Cond.code yX4_rangeAt cX4_rangeAt 4 (some .int), Cond.methodLink RX4 63 yX4_endOf, Cond.static yX4_endOf, Cond.code yX4_endOf cX4_endOf 3 (some .int), Cond.methodLink RX4 82 yX4_piece, Cond.static yX4_piece, Cond.code yX4_piece cX4_piece 4 (some .int), Cond.methodLink RX4 76 yX4_granule, Cond.static yX4_granule, Cond.code yX4_granule cX4_granule 1 (some .int), Cond.methodLink RX4 79 yX4_isGood, Cond.static yX4_isGood, Cond.code yX4_isGood cX4_isGood 4 (some .boolean), Cond.methodLink RX4 49 yX4_isPinned, Cond.static yX4_isPinned, Cond.code yX4_isPinned cX4_isPinned 3 (some .boolean), Cond.methodLink RX4 85 yX4_isDue, Cond.static yX4_isDue, Cond.code yX4_isDue cX4_isDue 2 (some .boolean)]
def wsX4_range : List Cond := .code yX4_range cX4_range 8 (some .int) :: ((wsX4_range_r1 ++ wsX4_range_r2) ++ wsX40)
def wsX4_pinned : List Cond := .code yX4_pinned cX4_pinned 3 (some .int) :: ([.constantLong RX4 191 (2), .fieldLink RX4 13 "IdleDiscardsModel" "now" "[I", .methodLink RX4 39 yX4_in, .static yX4_in, .initialized RX4, .code yX4_in cX4_in 6 (some .boolean), .methodLink RX4 118 yX4_refused, .instanceMethod yX4_refused, .selects RX4 yX4_refused yX4_refused, .code yX4_refused cX4_refused 2 (some .boolean), .fieldLink RX4 33 "IdleDiscardsModel" "refusal" "I"] ++ wsX40)
def wsX4_setting : List Cond := .code yX4_setting cX4_setting 2 (some .int) :: ([.constantLong RX4 109 (5), .fieldLink RX4 13 "IdleDiscardsModel" "now" "[I", .methodLink RX4 39 yX4_in, .static yX4_in, .initialized RX4, .code yX4_in cX4_in 6 (some .boolean), .methodLink RX4 118 yX4_refused, .instanceMethod yX4_refused, .selects RX4 yX4_refused yX4_refused, .code yX4_refused cX4_refused 2 (some .boolean), .fieldLink RX4 33 "IdleDiscardsModel" "refusal" "I"] ++ wsX40)
def wsX4_remember : List Cond := .code yX4_remember cX4_remember 2 none :: ([.fieldLink RX4 172 "IdleDiscardsModel" "acts" "I", .fieldLink RX4 19 "IdleDiscardsModel" "diary" "[I", .fieldLink RX4 13 "IdleDiscardsModel" "now" "[I", .methodLink RX4 168 yX4_copyState, .static yX4_copyState, .initialized RX4, .code yX4_copyState cX4_copyState 5 none] ++ wsX40)
def wsX4_write_r1 : List Cond := [Cond.fieldLink RX4 13 "IdleDiscardsModel" "now" "[I", Cond.methodLink RX4 133 yX4_whyNotSpan, Cond.static yX4_whyNotSpan, Cond.initialized RX4, Cond.code yX4_whyNotSpan cX4_whyNotSpan 2 (some .int), Cond.constantLong RX4 47 (99), Cond.methodLink RX4 43 yX4_isBlock, Cond.static yX4_isBlock, Cond.code yX4_isBlock cX4_isBlock 1 (some .boolean), Cond.constantLong RX4 37 (255), Cond.methodLink RX4 39 yX4_in, Cond.static yX4_in, Cond.code yX4_in cX4_in 6 (some .boolean), Cond.methodLink RX4 118 yX4_refused, Cond.instanceMethod yX4_refused, Cond.selects RX4 yX4_refused yX4_refused, Cond.code yX4_refused cX4_refused 2 (some .boolean), Cond.fieldLink RX4 33 "IdleDiscardsModel" "refusal" "I", Cond.methodLink RX4 193 yX4_remember, Cond.instanceMethod yX4_remember, Cond.selects RX4 yX4_remember yX4_remember, Cond.code yX4_remember cX4_remember 2 none, Cond.fieldLink RX4 172 "IdleDiscardsModel" "acts" "I", Cond.fieldLink RX4 19 "IdleDiscardsModel" "diary" "[I"]
def wsX4_write_r2 : List Cond := [Cond.methodLink RX4 168 yX4_copyState, Cond.static yX4_copyState, Cond.code yX4_copyState cX4_copyState 5 none, Cond.methodLink RX4 136 yX4_writeOn, Cond.static yX4_writeOn, Cond.code yX4_writeOn cX4_writeOn 5 (some .int), Cond.methodLink RX4 53 yX4_isQueued, Cond.static yX4_isQueued, Cond.code yX4_isQueued cX4_isQueued 2 (some .boolean), Cond.methodLink RX4 67 yX4_limit, Cond.static yX4_limit, Cond.code yX4_limit cX4_limit 4 none, Cond.methodLink RX4 59 yX4_ranges, Cond.static yX4_ranges, Cond.code yX4_ranges cX4_ranges 3 (some .int), Cond.methodLink RX4 56 yX4_begins, Cond.static yX4_begins, Cond.code yX4_begins cX4_begins 2 (some .boolean), Cond.methodLink RX4 63 yX4_endOf, Cond.static yX4_endOf, Cond.code yX4_endOf cX4_endOf 3 (some .int)]
def wsX4_write : List Cond := .code yX4_write cX4_write 3 (some .int) :: ((wsX4_write_r1 ++ wsX4_write_r2) ++ wsX40)
def wsX4_free_r1 : List Cond := [Cond.fieldLink RX4 13 "IdleDiscardsModel" "now" "[I", Cond.methodLink RX4 133 yX4_whyNotSpan, Cond.static yX4_whyNotSpan, Cond.initialized RX4, Cond.code yX4_whyNotSpan cX4_whyNotSpan 2 (some .int), Cond.constantLong RX4 47 (99), Cond.methodLink RX4 43 yX4_isBlock, Cond.static yX4_isBlock, Cond.code yX4_isBlock cX4_isBlock 1 (some .boolean), Cond.constantLong RX4 37 (255), Cond.methodLink RX4 39 yX4_in, Cond.static yX4_in, Cond.code yX4_in cX4_in 6 (some .boolean), Cond.methodLink RX4 118 yX4_refused, Cond.instanceMethod yX4_refused, Cond.selects RX4 yX4_refused yX4_refused, Cond.code yX4_refused cX4_refused 2 (some .boolean), Cond.fieldLink RX4 33 "IdleDiscardsModel" "refusal" "I", Cond.methodLink RX4 193 yX4_remember, Cond.instanceMethod yX4_remember, Cond.selects RX4 yX4_remember yX4_remember, Cond.code yX4_remember cX4_remember 2 none, Cond.fieldLink RX4 172 "IdleDiscardsModel" "acts" "I", Cond.fieldLink RX4 19 "IdleDiscardsModel" "diary" "[I"]
def wsX4_free_r2 : List Cond := [Cond.methodLink RX4 168 yX4_copyState, Cond.static yX4_copyState, Cond.code yX4_copyState cX4_copyState 5 none, Cond.methodLink RX4 140 yX4_freeOn, Cond.static yX4_freeOn, Cond.code yX4_freeOn cX4_freeOn 8 (some .int), Cond.methodLink RX4 70 yX4_startOf, Cond.static yX4_startOf, Cond.code yX4_startOf cX4_startOf 3 (some .int), Cond.methodLink RX4 53 yX4_isQueued, Cond.static yX4_isQueued, Cond.code yX4_isQueued cX4_isQueued 2 (some .boolean), Cond.methodLink RX4 63 yX4_endOf, Cond.static yX4_endOf, Cond.code yX4_endOf cX4_endOf 3 (some .int), Cond.methodLink RX4 67 yX4_limit, Cond.static yX4_limit, Cond.code yX4_limit cX4_limit 4 none, Cond.methodLink RX4 59 yX4_ranges, Cond.static yX4_ranges, Cond.code yX4_ranges cX4_ranges 3 (some .int), Cond.methodLink RX4 56 yX4_begins, Cond.static yX4_begins, Cond.code yX4_begins cX4_begins 2 (some .boolean)]
def wsX4_free : List Cond := .code yX4_free cX4_free 3 (some .int) :: ((wsX4_free_r1 ++ wsX4_free_r2) ++ wsX40)
def wsX4_pin_r1 : List Cond := [Cond.constantLong RX4 191 (2), Cond.fieldLink RX4 13 "IdleDiscardsModel" "now" "[I", Cond.methodLink RX4 39 yX4_in, Cond.static yX4_in, Cond.initialized RX4, Cond.code yX4_in cX4_in 6 (some .boolean), Cond.methodLink RX4 133 yX4_whyNotSpan, Cond.static yX4_whyNotSpan, Cond.code yX4_whyNotSpan cX4_whyNotSpan 2 (some .int), Cond.constantLong RX4 47 (99), Cond.methodLink RX4 43 yX4_isBlock, Cond.static yX4_isBlock, Cond.code yX4_isBlock cX4_isBlock 1 (some .boolean), Cond.constantLong RX4 37 (255), Cond.methodLink RX4 118 yX4_refused, Cond.instanceMethod yX4_refused, Cond.selects RX4 yX4_refused yX4_refused, Cond.code yX4_refused cX4_refused 2 (some .boolean), Cond.fieldLink RX4 33 "IdleDiscardsModel" "refusal" "I", Cond.methodLink RX4 193 yX4_remember, Cond.instanceMethod yX4_remember, Cond.selects RX4 yX4_remember yX4_remember, Cond.code yX4_remember cX4_remember 2 none, Cond.fieldLink RX4 172 "IdleDiscardsModel" "acts" "I"]
def wsX4_pin_r2 : List Cond := [Cond.fieldLink RX4 19 "IdleDiscardsModel" "diary" "[I", Cond.methodLink RX4 168 yX4_copyState, Cond.static yX4_copyState, Cond.code yX4_copyState cX4_copyState 5 none, Cond.methodLink RX4 150 yX4_pinOn, Cond.static yX4_pinOn, Cond.code yX4_pinOn cX4_pinOn 4 (some .int), Cond.methodLink RX4 73 yX4_allPinned, Cond.static yX4_allPinned, Cond.code yX4_allPinned cX4_allPinned 3 (some .int), Cond.methodLink RX4 49 yX4_isPinned, Cond.static yX4_isPinned, Cond.code yX4_isPinned cX4_isPinned 3 (some .boolean)]
def wsX4_pin : List Cond := .code yX4_pin cX4_pin 4 (some .int) :: ((wsX4_pin_r1 ++ wsX4_pin_r2) ++ wsX40)
def wsX4_unpin_r1 : List Cond := [Cond.constantLong RX4 191 (2), Cond.fieldLink RX4 13 "IdleDiscardsModel" "now" "[I", Cond.methodLink RX4 39 yX4_in, Cond.static yX4_in, Cond.initialized RX4, Cond.code yX4_in cX4_in 6 (some .boolean), Cond.methodLink RX4 118 yX4_refused, Cond.instanceMethod yX4_refused, Cond.selects RX4 yX4_refused yX4_refused, Cond.code yX4_refused cX4_refused 2 (some .boolean), Cond.fieldLink RX4 33 "IdleDiscardsModel" "refusal" "I", Cond.methodLink RX4 193 yX4_remember, Cond.instanceMethod yX4_remember, Cond.selects RX4 yX4_remember yX4_remember, Cond.code yX4_remember cX4_remember 2 none, Cond.fieldLink RX4 172 "IdleDiscardsModel" "acts" "I", Cond.fieldLink RX4 19 "IdleDiscardsModel" "diary" "[I", Cond.methodLink RX4 168 yX4_copyState, Cond.static yX4_copyState, Cond.code yX4_copyState cX4_copyState 5 none, Cond.methodLink RX4 150 yX4_pinOn, Cond.static yX4_pinOn, Cond.code yX4_pinOn cX4_pinOn 4 (some .int), Cond.methodLink RX4 73 yX4_allPinned]
def wsX4_unpin_r2 : List Cond := [Cond.static yX4_allPinned, Cond.code yX4_allPinned cX4_allPinned 3 (some .int), Cond.methodLink RX4 49 yX4_isPinned, Cond.static yX4_isPinned, Cond.code yX4_isPinned cX4_isPinned 3 (some .boolean)]
def wsX4_unpin : List Cond := .code yX4_unpin cX4_unpin 2 (some .int) :: ((wsX4_unpin_r1 ++ wsX4_unpin_r2) ++ wsX40)
def wsX4_run_r1 : List Cond := [Cond.constantLong RX4 196 (60), Cond.fieldLink RX4 13 "IdleDiscardsModel" "now" "[I", Cond.methodLink RX4 39 yX4_in, Cond.static yX4_in, Cond.initialized RX4, Cond.code yX4_in cX4_in 6 (some .boolean), Cond.methodLink RX4 118 yX4_refused, Cond.instanceMethod yX4_refused, Cond.selects RX4 yX4_refused yX4_refused, Cond.code yX4_refused cX4_refused 2 (some .boolean), Cond.fieldLink RX4 33 "IdleDiscardsModel" "refusal" "I", Cond.methodLink RX4 193 yX4_remember, Cond.instanceMethod yX4_remember, Cond.selects RX4 yX4_remember yX4_remember, Cond.code yX4_remember cX4_remember 2 none, Cond.fieldLink RX4 172 "IdleDiscardsModel" "acts" "I", Cond.fieldLink RX4 19 "IdleDiscardsModel" "diary" "[I", Cond.methodLink RX4 168 yX4_copyState, Cond.static yX4_copyState, Cond.code yX4_copyState cX4_copyState 5 none, Cond.methodLink RX4 147 yX4_runOn, Cond.instanceMethod yX4_runOn, Cond.selects RX4 yX4_runOn yX4_runOn, Cond.code yX4_runOn cX4_runOn 5 (some .int)]
def wsX4_run_r2 : List Cond := [Cond.methodLink RX4 106 yX4_tick, Cond.instanceMethod yX4_tick, Cond.selects RX4 yX4_tick yX4_tick, Cond.code yX4_tick cX4_tick 6 none, Cond.methodLink RX4 94 yX4_chosen, Cond.static yX4_chosen, Cond.code yX4_chosen cX4_chosen 6 (some .int), Cond.methodLink RX4 82 yX4_piece, Cond.static yX4_piece, Cond.code yX4_piece cX4_piece 4 (some .int), Cond.methodLink RX4 76 yX4_granule, Cond.static yX4_granule, Cond.code yX4_granule cX4_granule 1 (some .int), Cond.methodLink RX4 79 yX4_isGood, Cond.static yX4_isGood, Cond.code yX4_isGood cX4_isGood 4 (some .boolean), Cond.methodLink RX4 53 yX4_isQueued, Cond.static yX4_isQueued, Cond.code yX4_isQueued cX4_isQueued 2 (some .boolean), Cond.methodLink RX4 43 yX4_isBlock, Cond.static yX4_isBlock, Cond.code yX4_isBlock cX4_isBlock 1 (some .boolean), Cond.constantLong RX4 37 (255), Cond.methodLink RX4 49 yX4_isPinned]
def wsX4_run_r3 : List Cond := [Cond.static yX4_isPinned, Cond.code yX4_isPinned cX4_isPinned 3 (some .boolean), Cond.methodLink RX4 85 yX4_isDue, Cond.static yX4_isDue, Cond.code yX4_isDue cX4_isDue 2 (some .boolean), Cond.methodLink RX4 98 yX4_least, Cond.static yX4_least, Cond.code yX4_least cX4_least 2 (some .int), Cond.methodLink RX4 102 yX4_send, Cond.instanceMethod yX4_send, Cond.selects RX4 yX4_send yX4_send, Cond.code yX4_send cX4_send 6 none, Cond.fieldLink RX4 88 "IdleDiscardsModel" "sentFrom" "I", Cond.fieldLink RX4 91 "IdleDiscardsModel" "sentBlocks" "I", Cond.methodLink RX4 67 yX4_limit, Cond.static yX4_limit, Cond.code yX4_limit cX4_limit 4 none, Cond.methodLink RX4 59 yX4_ranges, Cond.static yX4_ranges, Cond.code yX4_ranges cX4_ranges 3 (some .int), Cond.methodLink RX4 56 yX4_begins, Cond.static yX4_begins, Cond.code yX4_begins cX4_begins 2 (some .boolean), Cond.methodLink RX4 63 yX4_endOf]
def wsX4_run_r4 : List Cond := [Cond.static yX4_endOf, Cond.code yX4_endOf cX4_endOf 3 (some .int)]
def wsX4_run : List Cond := .code yX4_run cX4_run 2 (some .int) :: ((wsX4_run_r1 ++ (wsX4_run_r2 ++ (wsX4_run_r3 ++ wsX4_run_r4))) ++ wsX40)
def wsX4_flush_r1 : List Cond := [Cond.fieldLink RX4 33 "IdleDiscardsModel" "refusal" "I", Cond.fieldLink RX4 13 "IdleDiscardsModel" "now" "[I", Cond.methodLink RX4 193 yX4_remember, Cond.instanceMethod yX4_remember, Cond.selects RX4 yX4_remember yX4_remember, Cond.initialized RX4, Cond.code yX4_remember cX4_remember 2 none, Cond.fieldLink RX4 172 "IdleDiscardsModel" "acts" "I", Cond.fieldLink RX4 19 "IdleDiscardsModel" "diary" "[I", Cond.methodLink RX4 168 yX4_copyState, Cond.static yX4_copyState, Cond.code yX4_copyState cX4_copyState 5 none, Cond.methodLink RX4 198 yX4_flushOn, Cond.instanceMethod yX4_flushOn, Cond.selects RX4 yX4_flushOn yX4_flushOn, Cond.code yX4_flushOn cX4_flushOn 4 (some .int), Cond.methodLink RX4 94 yX4_chosen, Cond.static yX4_chosen, Cond.code yX4_chosen cX4_chosen 6 (some .int), Cond.methodLink RX4 82 yX4_piece, Cond.static yX4_piece, Cond.code yX4_piece cX4_piece 4 (some .int), Cond.methodLink RX4 76 yX4_granule, Cond.static yX4_granule]
def wsX4_flush_r2 : List Cond := [Cond.code yX4_granule cX4_granule 1 (some .int), Cond.methodLink RX4 79 yX4_isGood, Cond.static yX4_isGood, Cond.code yX4_isGood cX4_isGood 4 (some .boolean), Cond.methodLink RX4 39 yX4_in, Cond.static yX4_in, Cond.code yX4_in cX4_in 6 (some .boolean), Cond.methodLink RX4 53 yX4_isQueued, Cond.static yX4_isQueued, Cond.code yX4_isQueued cX4_isQueued 2 (some .boolean), Cond.methodLink RX4 43 yX4_isBlock, Cond.static yX4_isBlock, Cond.code yX4_isBlock cX4_isBlock 1 (some .boolean), Cond.constantLong RX4 37 (255), Cond.methodLink RX4 49 yX4_isPinned, Cond.static yX4_isPinned, Cond.code yX4_isPinned cX4_isPinned 3 (some .boolean), Cond.methodLink RX4 85 yX4_isDue, Cond.static yX4_isDue, Cond.code yX4_isDue cX4_isDue 2 (some .boolean), Cond.methodLink RX4 98 yX4_least, Cond.static yX4_least, Cond.code yX4_least cX4_least 2 (some .int), Cond.methodLink RX4 102 yX4_send]
def wsX4_flush_r3 : List Cond := [Cond.instanceMethod yX4_send, Cond.selects RX4 yX4_send yX4_send, Cond.code yX4_send cX4_send 6 none, Cond.fieldLink RX4 88 "IdleDiscardsModel" "sentFrom" "I", Cond.fieldLink RX4 91 "IdleDiscardsModel" "sentBlocks" "I", Cond.methodLink RX4 67 yX4_limit, Cond.static yX4_limit, Cond.code yX4_limit cX4_limit 4 none, Cond.methodLink RX4 59 yX4_ranges, Cond.static yX4_ranges, Cond.code yX4_ranges cX4_ranges 3 (some .int), Cond.methodLink RX4 56 yX4_begins, Cond.static yX4_begins, Cond.code yX4_begins cX4_begins 2 (some .boolean), Cond.methodLink RX4 63 yX4_endOf, Cond.static yX4_endOf, Cond.code yX4_endOf cX4_endOf 3 (some .int)]
def wsX4_flush : List Cond := .code yX4_flush cX4_flush 1 (some .int) :: ((wsX4_flush_r1 ++ (wsX4_flush_r2 ++ wsX4_flush_r3)) ++ wsX40)
def wsX4_set_r1 : List Cond := [Cond.fieldLink RX4 13 "IdleDiscardsModel" "now" "[I", Cond.methodLink RX4 154 yX4_isSetting, Cond.static yX4_isSetting, Cond.initialized RX4, Cond.code yX4_isSetting cX4_isSetting 2 (some .boolean), Cond.constantLong RX4 109 (5), Cond.methodLink RX4 39 yX4_in, Cond.static yX4_in, Cond.code yX4_in cX4_in 6 (some .boolean), Cond.methodLink RX4 111 yX4_greatest, Cond.static yX4_greatest, Cond.code yX4_greatest cX4_greatest 1 (some .int), Cond.methodLink RX4 118 yX4_refused, Cond.instanceMethod yX4_refused, Cond.selects RX4 yX4_refused yX4_refused, Cond.code yX4_refused cX4_refused 2 (some .boolean), Cond.fieldLink RX4 33 "IdleDiscardsModel" "refusal" "I", Cond.methodLink RX4 193 yX4_remember, Cond.instanceMethod yX4_remember, Cond.selects RX4 yX4_remember yX4_remember, Cond.code yX4_remember cX4_remember 2 none, Cond.fieldLink RX4 172 "IdleDiscardsModel" "acts" "I", Cond.fieldLink RX4 19 "IdleDiscardsModel" "diary" "[I", Cond.methodLink RX4 168 yX4_copyState]
def wsX4_set_r2 : List Cond := [Cond.static yX4_copyState, Cond.code yX4_copyState cX4_copyState 5 none, Cond.methodLink RX4 158 yX4_lay, Cond.static yX4_lay, Cond.code yX4_lay cX4_lay 4 (some .int)]
def wsX4_set : List Cond := .code yX4_set cX4_set 3 (some .int) :: ((wsX4_set_r1 ++ wsX4_set_r2) ++ wsX40)
def wsX4_undo : List Cond := .code yX4_undo cX4_undo 1 (some .int) :: ([.fieldLink RX4 172 "IdleDiscardsModel" "acts" "I", .fieldLink RX4 19 "IdleDiscardsModel" "diary" "[I", .fieldLink RX4 13 "IdleDiscardsModel" "now" "[I", .methodLink RX4 118 yX4_refused, .instanceMethod yX4_refused, .selects RX4 yX4_refused yX4_refused, .initialized RX4, .code yX4_refused cX4_refused 2 (some .boolean), .fieldLink RX4 33 "IdleDiscardsModel" "refusal" "I", .methodLink RX4 168 yX4_copyState, .static yX4_copyState, .code yX4_copyState cX4_copyState 5 none] ++ wsX40)
def wsX4_next_r1 : List Cond := [Cond.constantLong RX4 191 (2), Cond.fieldLink RX4 13 "IdleDiscardsModel" "now" "[I", Cond.fieldLink RX4 16 "IdleDiscardsModel" "trial" "[I", Cond.methodLink RX4 39 yX4_in, Cond.static yX4_in, Cond.initialized RX4, Cond.code yX4_in cX4_in 6 (some .boolean), Cond.methodLink RX4 118 yX4_refused, Cond.instanceMethod yX4_refused, Cond.selects RX4 yX4_refused yX4_refused, Cond.code yX4_refused cX4_refused 2 (some .boolean), Cond.fieldLink RX4 33 "IdleDiscardsModel" "refusal" "I", Cond.methodLink RX4 168 yX4_copyState, Cond.static yX4_copyState, Cond.code yX4_copyState cX4_copyState 5 none, Cond.methodLink RX4 94 yX4_chosen, Cond.static yX4_chosen, Cond.code yX4_chosen cX4_chosen 6 (some .int), Cond.methodLink RX4 82 yX4_piece, Cond.static yX4_piece, Cond.code yX4_piece cX4_piece 4 (some .int), Cond.methodLink RX4 76 yX4_granule, Cond.static yX4_granule, Cond.code yX4_granule cX4_granule 1 (some .int)]
def wsX4_next_r2 : List Cond := [Cond.methodLink RX4 79 yX4_isGood, Cond.static yX4_isGood, Cond.code yX4_isGood cX4_isGood 4 (some .boolean), Cond.methodLink RX4 53 yX4_isQueued, Cond.static yX4_isQueued, Cond.code yX4_isQueued cX4_isQueued 2 (some .boolean), Cond.methodLink RX4 43 yX4_isBlock, Cond.static yX4_isBlock, Cond.code yX4_isBlock cX4_isBlock 1 (some .boolean), Cond.constantLong RX4 37 (255), Cond.methodLink RX4 49 yX4_isPinned, Cond.static yX4_isPinned, Cond.code yX4_isPinned cX4_isPinned 3 (some .boolean), Cond.methodLink RX4 85 yX4_isDue, Cond.static yX4_isDue, Cond.code yX4_isDue cX4_isDue 2 (some .boolean), Cond.methodLink RX4 98 yX4_least, Cond.static yX4_least, Cond.code yX4_least cX4_least 2 (some .int), Cond.methodLink RX4 106 yX4_tick, Cond.instanceMethod yX4_tick, Cond.selects RX4 yX4_tick yX4_tick, Cond.code yX4_tick cX4_tick 6 none, Cond.methodLink RX4 102 yX4_send]
def wsX4_next_r3 : List Cond := [Cond.instanceMethod yX4_send, Cond.selects RX4 yX4_send yX4_send, Cond.code yX4_send cX4_send 6 none, Cond.fieldLink RX4 88 "IdleDiscardsModel" "sentFrom" "I", Cond.fieldLink RX4 91 "IdleDiscardsModel" "sentBlocks" "I", Cond.methodLink RX4 67 yX4_limit, Cond.static yX4_limit, Cond.code yX4_limit cX4_limit 4 none, Cond.methodLink RX4 59 yX4_ranges, Cond.static yX4_ranges, Cond.code yX4_ranges cX4_ranges 3 (some .int), Cond.methodLink RX4 56 yX4_begins, Cond.static yX4_begins, Cond.code yX4_begins cX4_begins 2 (some .boolean), Cond.methodLink RX4 63 yX4_endOf, Cond.static yX4_endOf, Cond.code yX4_endOf cX4_endOf 3 (some .int)]
def wsX4_next : List Cond := .code yX4_next cX4_next 5 (some .int) :: ((wsX4_next_r1 ++ (wsX4_next_r2 ++ wsX4_next_r3)) ++ wsX40)
def wsX4_goneIn_r1 : List Cond := [Cond.fieldLink RX4 13 "IdleDiscardsModel" "now" "[I", Cond.fieldLink RX4 16 "IdleDiscardsModel" "trial" "[I", Cond.methodLink RX4 43 yX4_isBlock, Cond.static yX4_isBlock, Cond.initialized RX4, Cond.code yX4_isBlock cX4_isBlock 1 (some .boolean), Cond.constantLong RX4 37 (255), Cond.methodLink RX4 39 yX4_in, Cond.static yX4_in, Cond.code yX4_in cX4_in 6 (some .boolean), Cond.methodLink RX4 118 yX4_refused, Cond.instanceMethod yX4_refused, Cond.selects RX4 yX4_refused yX4_refused, Cond.code yX4_refused cX4_refused 2 (some .boolean), Cond.fieldLink RX4 33 "IdleDiscardsModel" "refusal" "I", Cond.methodLink RX4 168 yX4_copyState, Cond.static yX4_copyState, Cond.code yX4_copyState cX4_copyState 5 none, Cond.methodLink RX4 106 yX4_tick, Cond.instanceMethod yX4_tick, Cond.selects RX4 yX4_tick yX4_tick, Cond.code yX4_tick cX4_tick 6 none, Cond.methodLink RX4 94 yX4_chosen, Cond.static yX4_chosen]
def wsX4_goneIn_r2 : List Cond := [Cond.code yX4_chosen cX4_chosen 6 (some .int), Cond.methodLink RX4 82 yX4_piece, Cond.static yX4_piece, Cond.code yX4_piece cX4_piece 4 (some .int), Cond.methodLink RX4 76 yX4_granule, Cond.static yX4_granule, Cond.code yX4_granule cX4_granule 1 (some .int), Cond.methodLink RX4 79 yX4_isGood, Cond.static yX4_isGood, Cond.code yX4_isGood cX4_isGood 4 (some .boolean), Cond.methodLink RX4 53 yX4_isQueued, Cond.static yX4_isQueued, Cond.code yX4_isQueued cX4_isQueued 2 (some .boolean), Cond.methodLink RX4 49 yX4_isPinned, Cond.static yX4_isPinned, Cond.code yX4_isPinned cX4_isPinned 3 (some .boolean), Cond.methodLink RX4 85 yX4_isDue, Cond.static yX4_isDue, Cond.code yX4_isDue cX4_isDue 2 (some .boolean), Cond.methodLink RX4 98 yX4_least, Cond.static yX4_least, Cond.code yX4_least cX4_least 2 (some .int), Cond.methodLink RX4 102 yX4_send, Cond.instanceMethod yX4_send]
def wsX4_goneIn_r3 : List Cond := [Cond.selects RX4 yX4_send yX4_send, Cond.code yX4_send cX4_send 6 none, Cond.fieldLink RX4 88 "IdleDiscardsModel" "sentFrom" "I", Cond.fieldLink RX4 91 "IdleDiscardsModel" "sentBlocks" "I", Cond.methodLink RX4 67 yX4_limit, Cond.static yX4_limit, Cond.code yX4_limit cX4_limit 4 none, Cond.methodLink RX4 59 yX4_ranges, Cond.static yX4_ranges, Cond.code yX4_ranges cX4_ranges 3 (some .int), Cond.methodLink RX4 56 yX4_begins, Cond.static yX4_begins, Cond.code yX4_begins cX4_begins 2 (some .boolean), Cond.methodLink RX4 63 yX4_endOf, Cond.static yX4_endOf, Cond.code yX4_endOf cX4_endOf 3 (some .int)]
def wsX4_goneIn : List Cond := .code yX4_goneIn cX4_goneIn 3 (some .int) :: ((wsX4_goneIn_r1 ++ (wsX4_goneIn_r2 ++ wsX4_goneIn_r3)) ++ wsX40)
def wsX4_coming_r1 : List Cond := [Cond.constantLong RX4 201 (100), Cond.constantLong RX4 186 (3), Cond.fieldLink RX4 13 "IdleDiscardsModel" "now" "[I", Cond.fieldLink RX4 16 "IdleDiscardsModel" "trial" "[I", Cond.methodLink RX4 39 yX4_in, Cond.static yX4_in, Cond.initialized RX4, Cond.code yX4_in cX4_in 6 (some .boolean), Cond.methodLink RX4 118 yX4_refused, Cond.instanceMethod yX4_refused, Cond.selects RX4 yX4_refused yX4_refused, Cond.code yX4_refused cX4_refused 2 (some .boolean), Cond.fieldLink RX4 33 "IdleDiscardsModel" "refusal" "I", Cond.methodLink RX4 168 yX4_copyState, Cond.static yX4_copyState, Cond.code yX4_copyState cX4_copyState 5 none, Cond.methodLink RX4 147 yX4_runOn, Cond.instanceMethod yX4_runOn, Cond.selects RX4 yX4_runOn yX4_runOn, Cond.code yX4_runOn cX4_runOn 5 (some .int), Cond.methodLink RX4 106 yX4_tick, Cond.instanceMethod yX4_tick, Cond.selects RX4 yX4_tick yX4_tick, Cond.code yX4_tick cX4_tick 6 none]
def wsX4_coming_r2 : List Cond := [Cond.methodLink RX4 94 yX4_chosen, Cond.static yX4_chosen, Cond.code yX4_chosen cX4_chosen 6 (some .int), Cond.methodLink RX4 82 yX4_piece, Cond.static yX4_piece, Cond.code yX4_piece cX4_piece 4 (some .int), Cond.methodLink RX4 76 yX4_granule, Cond.static yX4_granule, Cond.code yX4_granule cX4_granule 1 (some .int), Cond.methodLink RX4 79 yX4_isGood, Cond.static yX4_isGood, Cond.code yX4_isGood cX4_isGood 4 (some .boolean), Cond.methodLink RX4 53 yX4_isQueued, Cond.static yX4_isQueued, Cond.code yX4_isQueued cX4_isQueued 2 (some .boolean), Cond.methodLink RX4 43 yX4_isBlock, Cond.static yX4_isBlock, Cond.code yX4_isBlock cX4_isBlock 1 (some .boolean), Cond.constantLong RX4 37 (255), Cond.methodLink RX4 49 yX4_isPinned, Cond.static yX4_isPinned, Cond.code yX4_isPinned cX4_isPinned 3 (some .boolean), Cond.methodLink RX4 85 yX4_isDue, Cond.static yX4_isDue]
def wsX4_coming_r3 : List Cond := [Cond.code yX4_isDue cX4_isDue 2 (some .boolean), Cond.methodLink RX4 98 yX4_least, Cond.static yX4_least, Cond.code yX4_least cX4_least 2 (some .int), Cond.methodLink RX4 102 yX4_send, Cond.instanceMethod yX4_send, Cond.selects RX4 yX4_send yX4_send, Cond.code yX4_send cX4_send 6 none, Cond.fieldLink RX4 88 "IdleDiscardsModel" "sentFrom" "I", Cond.fieldLink RX4 91 "IdleDiscardsModel" "sentBlocks" "I", Cond.methodLink RX4 67 yX4_limit, Cond.static yX4_limit, Cond.code yX4_limit cX4_limit 4 none, Cond.methodLink RX4 59 yX4_ranges, Cond.static yX4_ranges, Cond.code yX4_ranges cX4_ranges 3 (some .int), Cond.methodLink RX4 56 yX4_begins, Cond.static yX4_begins, Cond.code yX4_begins cX4_begins 2 (some .boolean), Cond.methodLink RX4 63 yX4_endOf, Cond.static yX4_endOf, Cond.code yX4_endOf cX4_endOf 3 (some .int), Cond.methodLink RX4 180 yX4_queuedBlocks, Cond.static yX4_queuedBlocks]
def wsX4_coming_r4 : List Cond := [Cond.code yX4_queuedBlocks cX4_queuedBlocks 3 (some .int)]
def wsX4_coming : List Cond := .code yX4_coming cX4_coming 4 (some .int) :: ((wsX4_coming_r1 ++ (wsX4_coming_r2 ++ (wsX4_coming_r3 ++ wsX4_coming_r4))) ++ wsX40)
def wsX4_bestGranule_r1 : List Cond := [Cond.constantLong RX4 196 (60), Cond.fieldLink RX4 13 "IdleDiscardsModel" "now" "[I", Cond.fieldLink RX4 16 "IdleDiscardsModel" "trial" "[I", Cond.methodLink RX4 39 yX4_in, Cond.static yX4_in, Cond.initialized RX4, Cond.code yX4_in cX4_in 6 (some .boolean), Cond.methodLink RX4 118 yX4_refused, Cond.instanceMethod yX4_refused, Cond.selects RX4 yX4_refused yX4_refused, Cond.code yX4_refused cX4_refused 2 (some .boolean), Cond.fieldLink RX4 33 "IdleDiscardsModel" "refusal" "I", Cond.methodLink RX4 111 yX4_greatest, Cond.static yX4_greatest, Cond.code yX4_greatest cX4_greatest 1 (some .int), Cond.methodLink RX4 168 yX4_copyState, Cond.static yX4_copyState, Cond.code yX4_copyState cX4_copyState 5 none, Cond.methodLink RX4 147 yX4_runOn, Cond.instanceMethod yX4_runOn, Cond.selects RX4 yX4_runOn yX4_runOn, Cond.code yX4_runOn cX4_runOn 5 (some .int), Cond.methodLink RX4 106 yX4_tick, Cond.instanceMethod yX4_tick]
def wsX4_bestGranule_r2 : List Cond := [Cond.selects RX4 yX4_tick yX4_tick, Cond.code yX4_tick cX4_tick 6 none, Cond.methodLink RX4 94 yX4_chosen, Cond.static yX4_chosen, Cond.code yX4_chosen cX4_chosen 6 (some .int), Cond.methodLink RX4 82 yX4_piece, Cond.static yX4_piece, Cond.code yX4_piece cX4_piece 4 (some .int), Cond.methodLink RX4 76 yX4_granule, Cond.static yX4_granule, Cond.code yX4_granule cX4_granule 1 (some .int), Cond.methodLink RX4 79 yX4_isGood, Cond.static yX4_isGood, Cond.code yX4_isGood cX4_isGood 4 (some .boolean), Cond.methodLink RX4 53 yX4_isQueued, Cond.static yX4_isQueued, Cond.code yX4_isQueued cX4_isQueued 2 (some .boolean), Cond.methodLink RX4 43 yX4_isBlock, Cond.static yX4_isBlock, Cond.code yX4_isBlock cX4_isBlock 1 (some .boolean), Cond.constantLong RX4 37 (255), Cond.methodLink RX4 49 yX4_isPinned, Cond.static yX4_isPinned, Cond.code yX4_isPinned cX4_isPinned 3 (some .boolean)]
def wsX4_bestGranule_r3 : List Cond := [Cond.methodLink RX4 85 yX4_isDue, Cond.static yX4_isDue, Cond.code yX4_isDue cX4_isDue 2 (some .boolean), Cond.methodLink RX4 98 yX4_least, Cond.static yX4_least, Cond.code yX4_least cX4_least 2 (some .int), Cond.methodLink RX4 102 yX4_send, Cond.instanceMethod yX4_send, Cond.selects RX4 yX4_send yX4_send, Cond.code yX4_send cX4_send 6 none, Cond.fieldLink RX4 88 "IdleDiscardsModel" "sentFrom" "I", Cond.fieldLink RX4 91 "IdleDiscardsModel" "sentBlocks" "I", Cond.methodLink RX4 67 yX4_limit, Cond.static yX4_limit, Cond.code yX4_limit cX4_limit 4 none, Cond.methodLink RX4 59 yX4_ranges, Cond.static yX4_ranges, Cond.code yX4_ranges cX4_ranges 3 (some .int), Cond.methodLink RX4 56 yX4_begins, Cond.static yX4_begins, Cond.code yX4_begins cX4_begins 2 (some .boolean), Cond.methodLink RX4 63 yX4_endOf, Cond.static yX4_endOf, Cond.code yX4_endOf cX4_endOf 3 (some .int)]
def wsX4_bestGranule : List Cond := .code yX4_bestGranule cX4_bestGranule 6 (some .int) :: ((wsX4_bestGranule_r1 ++ (wsX4_bestGranule_r2 ++ wsX4_bestGranule_r3)) ++ wsX40)
def wsX4_ifWritten_r1 : List Cond := [Cond.fieldLink RX4 13 "IdleDiscardsModel" "now" "[I", Cond.fieldLink RX4 16 "IdleDiscardsModel" "trial" "[I", Cond.methodLink RX4 133 yX4_whyNotSpan, Cond.static yX4_whyNotSpan, Cond.initialized RX4, Cond.code yX4_whyNotSpan cX4_whyNotSpan 2 (some .int), Cond.constantLong RX4 47 (99), Cond.methodLink RX4 43 yX4_isBlock, Cond.static yX4_isBlock, Cond.code yX4_isBlock cX4_isBlock 1 (some .boolean), Cond.constantLong RX4 37 (255), Cond.methodLink RX4 39 yX4_in, Cond.static yX4_in, Cond.code yX4_in cX4_in 6 (some .boolean), Cond.methodLink RX4 118 yX4_refused, Cond.instanceMethod yX4_refused, Cond.selects RX4 yX4_refused yX4_refused, Cond.code yX4_refused cX4_refused 2 (some .boolean), Cond.fieldLink RX4 33 "IdleDiscardsModel" "refusal" "I", Cond.methodLink RX4 168 yX4_copyState, Cond.static yX4_copyState, Cond.code yX4_copyState cX4_copyState 5 none, Cond.methodLink RX4 136 yX4_writeOn, Cond.static yX4_writeOn]
def wsX4_ifWritten_r2 : List Cond := [Cond.code yX4_writeOn cX4_writeOn 5 (some .int), Cond.methodLink RX4 53 yX4_isQueued, Cond.static yX4_isQueued, Cond.code yX4_isQueued cX4_isQueued 2 (some .boolean), Cond.methodLink RX4 67 yX4_limit, Cond.static yX4_limit, Cond.code yX4_limit cX4_limit 4 none, Cond.methodLink RX4 59 yX4_ranges, Cond.static yX4_ranges, Cond.code yX4_ranges cX4_ranges 3 (some .int), Cond.methodLink RX4 56 yX4_begins, Cond.static yX4_begins, Cond.code yX4_begins cX4_begins 2 (some .boolean), Cond.methodLink RX4 63 yX4_endOf, Cond.static yX4_endOf, Cond.code yX4_endOf cX4_endOf 3 (some .int)]
def wsX4_ifWritten : List Cond := .code yX4_ifWritten cX4_ifWritten 3 (some .int) :: ((wsX4_ifWritten_r1 ++ wsX4_ifWritten_r2) ++ wsX40)
def wsX4_stuck_r1 : List Cond := [Cond.fieldLink RX4 33 "IdleDiscardsModel" "refusal" "I", Cond.fieldLink RX4 13 "IdleDiscardsModel" "now" "[I", Cond.methodLink RX4 180 yX4_queuedBlocks, Cond.static yX4_queuedBlocks, Cond.initialized RX4, Cond.code yX4_queuedBlocks cX4_queuedBlocks 3 (some .int), Cond.methodLink RX4 53 yX4_isQueued, Cond.static yX4_isQueued, Cond.code yX4_isQueued cX4_isQueued 2 (some .boolean), Cond.methodLink RX4 43 yX4_isBlock, Cond.static yX4_isBlock, Cond.code yX4_isBlock cX4_isBlock 1 (some .boolean), Cond.constantLong RX4 37 (255), Cond.methodLink RX4 39 yX4_in, Cond.static yX4_in, Cond.code yX4_in cX4_in 6 (some .boolean), Cond.methodLink RX4 79 yX4_isGood, Cond.static yX4_isGood, Cond.code yX4_isGood cX4_isGood 4 (some .boolean), Cond.methodLink RX4 76 yX4_granule, Cond.static yX4_granule, Cond.code yX4_granule cX4_granule 1 (some .int), Cond.methodLink RX4 49 yX4_isPinned, Cond.static yX4_isPinned]
def wsX4_stuck_r2 : List Cond := [Cond.code yX4_isPinned cX4_isPinned 3 (some .boolean)]
def wsX4_stuck : List Cond := .code yX4_stuck cX4_stuck 3 (some .int) :: ((wsX4_stuck_r1 ++ wsX4_stuck_r2) ++ wsX40)
def wsX4_command_r1 : List Cond := [Cond.fieldLink RX4 16 "IdleDiscardsModel" "trial" "[I", Cond.constantLong RX4 196 (60), Cond.methodLink RX4 133 yX4_whyNotSpan, Cond.static yX4_whyNotSpan, Cond.initialized RX4, Cond.code yX4_whyNotSpan cX4_whyNotSpan 2 (some .int), Cond.constantLong RX4 47 (99), Cond.methodLink RX4 43 yX4_isBlock, Cond.static yX4_isBlock, Cond.code yX4_isBlock cX4_isBlock 1 (some .boolean), Cond.constantLong RX4 37 (255), Cond.methodLink RX4 39 yX4_in, Cond.static yX4_in, Cond.code yX4_in cX4_in 6 (some .boolean), Cond.methodLink RX4 136 yX4_writeOn, Cond.static yX4_writeOn, Cond.code yX4_writeOn cX4_writeOn 5 (some .int), Cond.methodLink RX4 53 yX4_isQueued, Cond.static yX4_isQueued, Cond.code yX4_isQueued cX4_isQueued 2 (some .boolean), Cond.methodLink RX4 67 yX4_limit, Cond.static yX4_limit, Cond.code yX4_limit cX4_limit 4 none, Cond.methodLink RX4 59 yX4_ranges]
def wsX4_command_r2 : List Cond := [Cond.static yX4_ranges, Cond.code yX4_ranges cX4_ranges 3 (some .int), Cond.methodLink RX4 56 yX4_begins, Cond.static yX4_begins, Cond.code yX4_begins cX4_begins 2 (some .boolean), Cond.methodLink RX4 63 yX4_endOf, Cond.static yX4_endOf, Cond.code yX4_endOf cX4_endOf 3 (some .int), Cond.methodLink RX4 140 yX4_freeOn, Cond.static yX4_freeOn, Cond.code yX4_freeOn cX4_freeOn 8 (some .int), Cond.methodLink RX4 70 yX4_startOf, Cond.static yX4_startOf, Cond.code yX4_startOf cX4_startOf 3 (some .int), Cond.methodLink RX4 147 yX4_runOn, Cond.instanceMethod yX4_runOn, Cond.selects RX4 yX4_runOn yX4_runOn, Cond.code yX4_runOn cX4_runOn 5 (some .int), Cond.methodLink RX4 106 yX4_tick, Cond.instanceMethod yX4_tick, Cond.selects RX4 yX4_tick yX4_tick, Cond.code yX4_tick cX4_tick 6 none, Cond.methodLink RX4 94 yX4_chosen, Cond.static yX4_chosen]
def wsX4_command_r3 : List Cond := [Cond.code yX4_chosen cX4_chosen 6 (some .int), Cond.methodLink RX4 82 yX4_piece, Cond.static yX4_piece, Cond.code yX4_piece cX4_piece 4 (some .int), Cond.methodLink RX4 76 yX4_granule, Cond.static yX4_granule, Cond.code yX4_granule cX4_granule 1 (some .int), Cond.methodLink RX4 79 yX4_isGood, Cond.static yX4_isGood, Cond.code yX4_isGood cX4_isGood 4 (some .boolean), Cond.methodLink RX4 49 yX4_isPinned, Cond.static yX4_isPinned, Cond.code yX4_isPinned cX4_isPinned 3 (some .boolean), Cond.methodLink RX4 85 yX4_isDue, Cond.static yX4_isDue, Cond.code yX4_isDue cX4_isDue 2 (some .boolean), Cond.methodLink RX4 98 yX4_least, Cond.static yX4_least, Cond.code yX4_least cX4_least 2 (some .int), Cond.methodLink RX4 102 yX4_send, Cond.instanceMethod yX4_send, Cond.selects RX4 yX4_send yX4_send, Cond.code yX4_send cX4_send 6 none, Cond.fieldLink RX4 88 "IdleDiscardsModel" "sentFrom" "I"]
def wsX4_command_r4 : List Cond := [Cond.fieldLink RX4 91 "IdleDiscardsModel" "sentBlocks" "I", Cond.methodLink RX4 154 yX4_isSetting, Cond.static yX4_isSetting, Cond.code yX4_isSetting cX4_isSetting 2 (some .boolean), Cond.constantLong RX4 109 (5), Cond.methodLink RX4 111 yX4_greatest, Cond.static yX4_greatest, Cond.code yX4_greatest cX4_greatest 1 (some .int), Cond.methodLink RX4 158 yX4_lay, Cond.static yX4_lay, Cond.code yX4_lay cX4_lay 4 (some .int), Cond.methodLink RX4 198 yX4_flushOn, Cond.instanceMethod yX4_flushOn, Cond.selects RX4 yX4_flushOn yX4_flushOn, Cond.code yX4_flushOn cX4_flushOn 4 (some .int), Cond.methodLink RX4 180 yX4_queuedBlocks, Cond.static yX4_queuedBlocks, Cond.code yX4_queuedBlocks cX4_queuedBlocks 3 (some .int)]
def wsX4_command : List Cond := .code yX4_command cX4_command 5 (some .boolean) :: ((wsX4_command_r1 ++ (wsX4_command_r2 ++ (wsX4_command_r3 ++ wsX4_command_r4))) ++ wsX40)
def wsX4_runScript_r1 : List Cond := [Cond.constantLong RX4 203 (1000000), Cond.constantLong RX4 186 (3), Cond.fieldLink RX4 13 "IdleDiscardsModel" "now" "[I", Cond.fieldLink RX4 16 "IdleDiscardsModel" "trial" "[I", Cond.constant RX4 205 (100000), Cond.methodLink RX4 39 yX4_in, Cond.static yX4_in, Cond.initialized RX4, Cond.code yX4_in cX4_in 6 (some .boolean), Cond.methodLink RX4 118 yX4_refused, Cond.instanceMethod yX4_refused, Cond.selects RX4 yX4_refused yX4_refused, Cond.code yX4_refused cX4_refused 2 (some .boolean), Cond.fieldLink RX4 33 "IdleDiscardsModel" "refusal" "I", Cond.methodLink RX4 168 yX4_copyState, Cond.static yX4_copyState, Cond.code yX4_copyState cX4_copyState 5 none, Cond.methodLink RX4 206 yX4_command, Cond.instanceMethod yX4_command, Cond.selects RX4 yX4_command yX4_command, Cond.code yX4_command cX4_command 5 (some .boolean), Cond.constantLong RX4 196 (60), Cond.methodLink RX4 133 yX4_whyNotSpan, Cond.static yX4_whyNotSpan]
def wsX4_runScript_r2 : List Cond := [Cond.code yX4_whyNotSpan cX4_whyNotSpan 2 (some .int), Cond.constantLong RX4 47 (99), Cond.methodLink RX4 43 yX4_isBlock, Cond.static yX4_isBlock, Cond.code yX4_isBlock cX4_isBlock 1 (some .boolean), Cond.constantLong RX4 37 (255), Cond.methodLink RX4 136 yX4_writeOn, Cond.static yX4_writeOn, Cond.code yX4_writeOn cX4_writeOn 5 (some .int), Cond.methodLink RX4 53 yX4_isQueued, Cond.static yX4_isQueued, Cond.code yX4_isQueued cX4_isQueued 2 (some .boolean), Cond.methodLink RX4 67 yX4_limit, Cond.static yX4_limit, Cond.code yX4_limit cX4_limit 4 none, Cond.methodLink RX4 59 yX4_ranges, Cond.static yX4_ranges, Cond.code yX4_ranges cX4_ranges 3 (some .int), Cond.methodLink RX4 56 yX4_begins, Cond.static yX4_begins, Cond.code yX4_begins cX4_begins 2 (some .boolean), Cond.methodLink RX4 63 yX4_endOf, Cond.static yX4_endOf, Cond.code yX4_endOf cX4_endOf 3 (some .int)]
def wsX4_runScript_r3 : List Cond := [Cond.methodLink RX4 140 yX4_freeOn, Cond.static yX4_freeOn, Cond.code yX4_freeOn cX4_freeOn 8 (some .int), Cond.methodLink RX4 70 yX4_startOf, Cond.static yX4_startOf, Cond.code yX4_startOf cX4_startOf 3 (some .int), Cond.methodLink RX4 147 yX4_runOn, Cond.instanceMethod yX4_runOn, Cond.selects RX4 yX4_runOn yX4_runOn, Cond.code yX4_runOn cX4_runOn 5 (some .int), Cond.methodLink RX4 106 yX4_tick, Cond.instanceMethod yX4_tick, Cond.selects RX4 yX4_tick yX4_tick, Cond.code yX4_tick cX4_tick 6 none, Cond.methodLink RX4 94 yX4_chosen, Cond.static yX4_chosen, Cond.code yX4_chosen cX4_chosen 6 (some .int), Cond.methodLink RX4 82 yX4_piece, Cond.static yX4_piece, Cond.code yX4_piece cX4_piece 4 (some .int), Cond.methodLink RX4 76 yX4_granule, Cond.static yX4_granule, Cond.code yX4_granule cX4_granule 1 (some .int), Cond.methodLink RX4 79 yX4_isGood]
def wsX4_runScript_r4 : List Cond := [Cond.static yX4_isGood, Cond.code yX4_isGood cX4_isGood 4 (some .boolean), Cond.methodLink RX4 49 yX4_isPinned, Cond.static yX4_isPinned, Cond.code yX4_isPinned cX4_isPinned 3 (some .boolean), Cond.methodLink RX4 85 yX4_isDue, Cond.static yX4_isDue, Cond.code yX4_isDue cX4_isDue 2 (some .boolean), Cond.methodLink RX4 98 yX4_least, Cond.static yX4_least, Cond.code yX4_least cX4_least 2 (some .int), Cond.methodLink RX4 102 yX4_send, Cond.instanceMethod yX4_send, Cond.selects RX4 yX4_send yX4_send, Cond.code yX4_send cX4_send 6 none, Cond.fieldLink RX4 88 "IdleDiscardsModel" "sentFrom" "I", Cond.fieldLink RX4 91 "IdleDiscardsModel" "sentBlocks" "I", Cond.methodLink RX4 154 yX4_isSetting, Cond.static yX4_isSetting, Cond.code yX4_isSetting cX4_isSetting 2 (some .boolean), Cond.constantLong RX4 109 (5), Cond.methodLink RX4 111 yX4_greatest, Cond.static yX4_greatest, Cond.code yX4_greatest cX4_greatest 1 (some .int)]
def wsX4_runScript_r5 : List Cond := [Cond.methodLink RX4 158 yX4_lay, Cond.static yX4_lay, Cond.code yX4_lay cX4_lay 4 (some .int), Cond.methodLink RX4 198 yX4_flushOn, Cond.instanceMethod yX4_flushOn, Cond.selects RX4 yX4_flushOn yX4_flushOn, Cond.code yX4_flushOn cX4_flushOn 4 (some .int), Cond.methodLink RX4 180 yX4_queuedBlocks, Cond.static yX4_queuedBlocks, Cond.code yX4_queuedBlocks cX4_queuedBlocks 3 (some .int)]
def wsX4_runScript : List Cond := .code yX4_runScript cX4_runScript 8 (some .int) :: ((wsX4_runScript_r1 ++ (wsX4_runScript_r2 ++ (wsX4_runScript_r3 ++ (wsX4_runScript_r4 ++ wsX4_runScript_r5)))) ++ wsX40)
def wsX4_turn_r1 : List Cond := [Cond.fieldLink RX4 16 "IdleDiscardsModel" "trial" "[I", Cond.methodLink RX4 133 yX4_whyNotSpan, Cond.static yX4_whyNotSpan, Cond.initialized RX4, Cond.code yX4_whyNotSpan cX4_whyNotSpan 2 (some .int), Cond.constantLong RX4 47 (99), Cond.methodLink RX4 43 yX4_isBlock, Cond.static yX4_isBlock, Cond.code yX4_isBlock cX4_isBlock 1 (some .boolean), Cond.constantLong RX4 37 (255), Cond.methodLink RX4 39 yX4_in, Cond.static yX4_in, Cond.code yX4_in cX4_in 6 (some .boolean), Cond.methodLink RX4 136 yX4_writeOn, Cond.static yX4_writeOn, Cond.code yX4_writeOn cX4_writeOn 5 (some .int), Cond.methodLink RX4 53 yX4_isQueued, Cond.static yX4_isQueued, Cond.code yX4_isQueued cX4_isQueued 2 (some .boolean), Cond.methodLink RX4 67 yX4_limit, Cond.static yX4_limit, Cond.code yX4_limit cX4_limit 4 none, Cond.methodLink RX4 59 yX4_ranges, Cond.static yX4_ranges]
def wsX4_turn_r2 : List Cond := [Cond.code yX4_ranges cX4_ranges 3 (some .int), Cond.methodLink RX4 56 yX4_begins, Cond.static yX4_begins, Cond.code yX4_begins cX4_begins 2 (some .boolean), Cond.methodLink RX4 63 yX4_endOf, Cond.static yX4_endOf, Cond.code yX4_endOf cX4_endOf 3 (some .int), Cond.methodLink RX4 140 yX4_freeOn, Cond.static yX4_freeOn, Cond.code yX4_freeOn cX4_freeOn 8 (some .int), Cond.methodLink RX4 70 yX4_startOf, Cond.static yX4_startOf, Cond.code yX4_startOf cX4_startOf 3 (some .int), Cond.methodLink RX4 150 yX4_pinOn, Cond.static yX4_pinOn, Cond.code yX4_pinOn cX4_pinOn 4 (some .int), Cond.methodLink RX4 73 yX4_allPinned, Cond.static yX4_allPinned, Cond.code yX4_allPinned cX4_allPinned 3 (some .int), Cond.methodLink RX4 49 yX4_isPinned, Cond.static yX4_isPinned, Cond.code yX4_isPinned cX4_isPinned 3 (some .boolean), Cond.methodLink RX4 147 yX4_runOn, Cond.instanceMethod yX4_runOn]
def wsX4_turn_r3 : List Cond := [Cond.selects RX4 yX4_runOn yX4_runOn, Cond.code yX4_runOn cX4_runOn 5 (some .int), Cond.methodLink RX4 106 yX4_tick, Cond.instanceMethod yX4_tick, Cond.selects RX4 yX4_tick yX4_tick, Cond.code yX4_tick cX4_tick 6 none, Cond.methodLink RX4 94 yX4_chosen, Cond.static yX4_chosen, Cond.code yX4_chosen cX4_chosen 6 (some .int), Cond.methodLink RX4 82 yX4_piece, Cond.static yX4_piece, Cond.code yX4_piece cX4_piece 4 (some .int), Cond.methodLink RX4 76 yX4_granule, Cond.static yX4_granule, Cond.code yX4_granule cX4_granule 1 (some .int), Cond.methodLink RX4 79 yX4_isGood, Cond.static yX4_isGood, Cond.code yX4_isGood cX4_isGood 4 (some .boolean), Cond.methodLink RX4 85 yX4_isDue, Cond.static yX4_isDue, Cond.code yX4_isDue cX4_isDue 2 (some .boolean), Cond.methodLink RX4 98 yX4_least, Cond.static yX4_least, Cond.code yX4_least cX4_least 2 (some .int)]
def wsX4_turn_r4 : List Cond := [Cond.methodLink RX4 102 yX4_send, Cond.instanceMethod yX4_send, Cond.selects RX4 yX4_send yX4_send, Cond.code yX4_send cX4_send 6 none, Cond.fieldLink RX4 88 "IdleDiscardsModel" "sentFrom" "I", Cond.fieldLink RX4 91 "IdleDiscardsModel" "sentBlocks" "I"]
def wsX4_turn : List Cond := .code yX4_turn cX4_turn 5 none :: ((wsX4_turn_r1 ++ (wsX4_turn_r2 ++ (wsX4_turn_r3 ++ wsX4_turn_r4))) ++ wsX40)
def wsX4_simulate_r1 : List Cond := [Cond.constantLong RX4 196 (60), Cond.fieldLink RX4 13 "IdleDiscardsModel" "now" "[I", Cond.fieldLink RX4 16 "IdleDiscardsModel" "trial" "[I", Cond.constantLong RX4 209 (6364136223846793005), Cond.constantLong RX4 211 (1442695040888963407), Cond.methodLink RX4 39 yX4_in, Cond.static yX4_in, Cond.initialized RX4, Cond.code yX4_in cX4_in 6 (some .boolean), Cond.methodLink RX4 118 yX4_refused, Cond.instanceMethod yX4_refused, Cond.selects RX4 yX4_refused yX4_refused, Cond.code yX4_refused cX4_refused 2 (some .boolean), Cond.fieldLink RX4 33 "IdleDiscardsModel" "refusal" "I", Cond.methodLink RX4 168 yX4_copyState, Cond.static yX4_copyState, Cond.code yX4_copyState cX4_copyState 5 none, Cond.methodLink RX4 213 yX4_turn, Cond.instanceMethod yX4_turn, Cond.selects RX4 yX4_turn yX4_turn, Cond.code yX4_turn cX4_turn 5 none, Cond.methodLink RX4 133 yX4_whyNotSpan, Cond.static yX4_whyNotSpan, Cond.code yX4_whyNotSpan cX4_whyNotSpan 2 (some .int)]
def wsX4_simulate_r2 : List Cond := [Cond.constantLong RX4 47 (99), Cond.methodLink RX4 43 yX4_isBlock, Cond.static yX4_isBlock, Cond.code yX4_isBlock cX4_isBlock 1 (some .boolean), Cond.constantLong RX4 37 (255), Cond.methodLink RX4 136 yX4_writeOn, Cond.static yX4_writeOn, Cond.code yX4_writeOn cX4_writeOn 5 (some .int), Cond.methodLink RX4 53 yX4_isQueued, Cond.static yX4_isQueued, Cond.code yX4_isQueued cX4_isQueued 2 (some .boolean), Cond.methodLink RX4 67 yX4_limit, Cond.static yX4_limit, Cond.code yX4_limit cX4_limit 4 none, Cond.methodLink RX4 59 yX4_ranges, Cond.static yX4_ranges, Cond.code yX4_ranges cX4_ranges 3 (some .int), Cond.methodLink RX4 56 yX4_begins, Cond.static yX4_begins, Cond.code yX4_begins cX4_begins 2 (some .boolean), Cond.methodLink RX4 63 yX4_endOf, Cond.static yX4_endOf, Cond.code yX4_endOf cX4_endOf 3 (some .int), Cond.methodLink RX4 140 yX4_freeOn]
def wsX4_simulate_r3 : List Cond := [Cond.static yX4_freeOn, Cond.code yX4_freeOn cX4_freeOn 8 (some .int), Cond.methodLink RX4 70 yX4_startOf, Cond.static yX4_startOf, Cond.code yX4_startOf cX4_startOf 3 (some .int), Cond.methodLink RX4 150 yX4_pinOn, Cond.static yX4_pinOn, Cond.code yX4_pinOn cX4_pinOn 4 (some .int), Cond.methodLink RX4 73 yX4_allPinned, Cond.static yX4_allPinned, Cond.code yX4_allPinned cX4_allPinned 3 (some .int), Cond.methodLink RX4 49 yX4_isPinned, Cond.static yX4_isPinned, Cond.code yX4_isPinned cX4_isPinned 3 (some .boolean), Cond.methodLink RX4 147 yX4_runOn, Cond.instanceMethod yX4_runOn, Cond.selects RX4 yX4_runOn yX4_runOn, Cond.code yX4_runOn cX4_runOn 5 (some .int), Cond.methodLink RX4 106 yX4_tick, Cond.instanceMethod yX4_tick, Cond.selects RX4 yX4_tick yX4_tick, Cond.code yX4_tick cX4_tick 6 none, Cond.methodLink RX4 94 yX4_chosen, Cond.static yX4_chosen]
def wsX4_simulate_r4 : List Cond := [Cond.code yX4_chosen cX4_chosen 6 (some .int), Cond.methodLink RX4 82 yX4_piece, Cond.static yX4_piece, Cond.code yX4_piece cX4_piece 4 (some .int), Cond.methodLink RX4 76 yX4_granule, Cond.static yX4_granule, Cond.code yX4_granule cX4_granule 1 (some .int), Cond.methodLink RX4 79 yX4_isGood, Cond.static yX4_isGood, Cond.code yX4_isGood cX4_isGood 4 (some .boolean), Cond.methodLink RX4 85 yX4_isDue, Cond.static yX4_isDue, Cond.code yX4_isDue cX4_isDue 2 (some .boolean), Cond.methodLink RX4 98 yX4_least, Cond.static yX4_least, Cond.code yX4_least cX4_least 2 (some .int), Cond.methodLink RX4 102 yX4_send, Cond.instanceMethod yX4_send, Cond.selects RX4 yX4_send yX4_send, Cond.code yX4_send cX4_send 6 none, Cond.fieldLink RX4 88 "IdleDiscardsModel" "sentFrom" "I", Cond.fieldLink RX4 91 "IdleDiscardsModel" "sentBlocks" "I", Cond.methodLink RX4 180 yX4_queuedBlocks, Cond.static yX4_queuedBlocks]
def wsX4_simulate_r5 : List Cond := [Cond.code yX4_queuedBlocks cX4_queuedBlocks 3 (some .int)]
def wsX4_simulate : List Cond := .code yX4_simulate cX4_simulate 7 (some .int) :: ((wsX4_simulate_r1 ++ (wsX4_simulate_r2 ++ (wsX4_simulate_r3 ++ (wsX4_simulate_r4 ++ wsX4_simulate_r5)))) ++ wsX40)
def wsX4_save : List Cond := .code yX4_save cX4_save 2 (some .int) :: ([.fieldLink RX4 13 "IdleDiscardsModel" "now" "[I", .fieldLink RX4 22 "IdleDiscardsModel" "kept" "[I", .fieldLink RX4 25 "IdleDiscardsModel" "isKept" "[Z", .methodLink RX4 39 yX4_in, .static yX4_in, .initialized RX4, .code yX4_in cX4_in 6 (some .boolean), .methodLink RX4 118 yX4_refused, .instanceMethod yX4_refused, .selects RX4 yX4_refused yX4_refused, .code yX4_refused cX4_refused 2 (some .boolean), .fieldLink RX4 33 "IdleDiscardsModel" "refusal" "I", .methodLink RX4 168 yX4_copyState, .static yX4_copyState, .code yX4_copyState cX4_copyState 5 none] ++ wsX40)
def wsX4_restore : List Cond := .code yX4_restore cX4_restore 2 (some .int) :: ([.fieldLink RX4 25 "IdleDiscardsModel" "isKept" "[Z", .fieldLink RX4 22 "IdleDiscardsModel" "kept" "[I", .fieldLink RX4 13 "IdleDiscardsModel" "now" "[I", .fieldLink RX4 172 "IdleDiscardsModel" "acts" "I", .methodLink RX4 39 yX4_in, .static yX4_in, .initialized RX4, .code yX4_in cX4_in 6 (some .boolean), .methodLink RX4 118 yX4_refused, .instanceMethod yX4_refused, .selects RX4 yX4_refused yX4_refused, .code yX4_refused cX4_refused 2 (some .boolean), .fieldLink RX4 33 "IdleDiscardsModel" "refusal" "I", .methodLink RX4 168 yX4_copyState, .static yX4_copyState, .code yX4_copyState cX4_copyState 5 none] ++ wsX40)
def wsJ9_min_7cf53 : List Cond := .code yJ9_min_7cf53 cJ9_min_7cf53 2 (some .int) :: ([])
def wsL_append : List Cond := .codeWith yL_append cL_append 4 (some .int) [(0, 9, 12, 13), (0, 9, 15, 15)] :: ([.classLink RL 13 "java/lang/IllegalArgumentException", .classLink RL 15 "java/lang/IllegalStateException", .methodLink RL 7 yX3_append, .instanceMethod yX3_append, .selects RX3 yX3_append yX3_append, .initialized RX3, .code yX3_append cX3_append 2 (some .int), .classLink RX3 41 "java/lang/IllegalArgumentException", .initialized "java/lang/IllegalArgumentException", .classLink RX3 52 "java/lang/IllegalStateException", .initialized "java/lang/IllegalStateException", .fieldLink RX3 10 "IdleDiscards" "text" "LIdleDiscards$Text;", .methodLink RX3 48 yX2_isFull, .instanceMethod yX2_isFull, .selects RX2 yX2_isFull yX2_isFull, .initialized RX2, .code yX2_isFull cX2_isFull 1 (some .boolean), .fieldLink RX2 19 "IdleDiscards$Text" "length" "I", .methodLink RX3 57 yX2_add, .instanceMethod yX2_add, .selects RX2 yX2_add yX2_add, .code yX2_add cX2_add 2 (some .int), .fieldLink RX2 9 "IdleDiscards$Text" "chars" "[C"] ++ wsX30 ++ wsX20 ++ (vx_atS RX3 45 "java/lang/IllegalArgumentException" ["java/lang/RuntimeException", "java/lang/Exception"]).filter goodWord ++ (vx_atS RX3 56 "java/lang/IllegalStateException" ["java/lang/RuntimeException", "java/lang/Exception"]).filter goodWord)
def wsL_load_r1 : List Cond := [Cond.classLink RL 15 "java/lang/IllegalStateException", Cond.methodLink RL 17 yX3_load, Cond.instanceMethod yX3_load, Cond.selects RX3 yX3_load yX3_load, Cond.initialized RX3, Cond.code yX3_load cX3_load 3 (some .int), Cond.classLink RX3 52 "java/lang/IllegalStateException", Cond.initialized "java/lang/IllegalStateException", Cond.fieldLink RX3 10 "IdleDiscards" "text" "LIdleDiscards$Text;", Cond.fieldLink RX3 19 "IdleDiscards" "device" "LIdleDiscards$Device;", Cond.fieldLink RX3 29 "IdleDiscards" "past" "LIdleDiscards$Past;", Cond.fieldLink RX3 37 "IdleDiscards" "slotUsed" "[Z", Cond.methodLink RX3 65 yX2_firstError, Cond.instanceMethod yX2_firstError, Cond.selects RX2 yX2_firstError yX2_firstError, Cond.initialized RX2, Cond.code yX2_firstError cX2_firstError 2 (some .int), Cond.fieldLink RX2 19 "IdleDiscards$Text" "length" "I", Cond.fieldLink RX2 9 "IdleDiscards$Text" "chars" "[C", Cond.fieldLink RX2 23 "IdleDiscards$Text" "at" "I", Cond.methodLink RX2 26 yX2_readCommand, Cond.instanceMethod yX2_readCommand, Cond.selects RX2 yX2_readCommand yX2_readCommand, Cond.code yX2_readCommand cX2_readCommand 1 (some .boolean)]
def wsL_load_r2 : List Cond := [Cond.fieldLink RX2 30 "IdleDiscards$Text" "letter" "I", Cond.methodLink RX2 33 yX2_readSpan, Cond.instanceMethod yX2_readSpan, Cond.selects RX2 yX2_readSpan yX2_readSpan, Cond.code yX2_readSpan cX2_readSpan 2 (some .boolean), Cond.methodLink RX2 37 yX2_readNumber, Cond.instanceMethod yX2_readNumber, Cond.selects RX2 yX2_readNumber yX2_readNumber, Cond.code yX2_readNumber cX2_readNumber 8 (some .boolean), Cond.fieldLink RX2 15 "IdleDiscards$Text" "numbers" "[I", Cond.methodLink RX3 70 yX0_makeNew, Cond.instanceMethod yX0_makeNew, Cond.selects RX0 yX0_makeNew yX0_makeNew, Cond.initialized RX0, Cond.code yX0_makeNew cX0_makeNew 1 none, Cond.fieldLink RX0 9 "IdleDiscards$Device" "blocks" "[I", Cond.fieldLink RX0 15 "IdleDiscards$Device" "pinFirst" "[I", Cond.fieldLink RX0 18 "IdleDiscards$Device" "pinLength" "[I", Cond.fieldLink RX0 21 "IdleDiscards$Device" "settings" "[I", Cond.methodLink RX0 36 arraycopyName, Cond.native arraycopyName, Cond.static arraycopyName, Cond.initialized "java/lang/System", Cond.fieldLink RX0 42 "IdleDiscards$Device" "time" "I"]
def wsL_load_r3 : List Cond := [Cond.fieldLink RX0 46 "IdleDiscards$Device" "quiet" "I", Cond.fieldLink RX0 49 "IdleDiscards$Device" "commands" "I", Cond.fieldLink RX0 52 "IdleDiscards$Device" "discarded" "I", Cond.fieldLink RX0 55 "IdleDiscards$Device" "dropped" "I", Cond.methodLink RX0 27 yJ7_fill_53178, Cond.static yJ7_fill_53178, Cond.initialized RJ7, Cond.code yJ7_fill_53178 cJ7_fill_53178 4 none, Cond.methodLink RX3 73 yX1_forget, Cond.instanceMethod yX1_forget, Cond.selects RX1 yX1_forget yX1_forget, Cond.initialized RX1, Cond.code yX1_forget cX1_forget 1 none, Cond.fieldLink RX1 18 "IdleDiscards$Past" "size" "I", Cond.methodLink RX3 76 yX2_beginCommands, Cond.instanceMethod yX2_beginCommands, Cond.selects RX2 yX2_beginCommands yX2_beginCommands, Cond.code yX2_beginCommands cX2_beginCommands 1 none, Cond.methodLink RX3 79 yX2_readCommand, Cond.methodLink RX3 82 yX3_doTextCommand, Cond.instanceMethod yX3_doTextCommand, Cond.selects RX3 yX3_doTextCommand yX3_doTextCommand, Cond.code yX3_doTextCommand cX3_doTextCommand 3 (some .boolean), Cond.methodLink RX3 85 yX2_number]
def wsL_load_r4 : List Cond := [Cond.instanceMethod yX2_number, Cond.selects RX2 yX2_number yX2_number, Cond.code yX2_number cX2_number 2 (some .int), Cond.methodLink RX3 89 yX2_letter, Cond.instanceMethod yX2_letter, Cond.selects RX2 yX2_letter yX2_letter, Cond.code yX2_letter cX2_letter 1 (some .int), Cond.methodLink RX3 92 yX3_writeIfAllowed, Cond.static yX3_writeIfAllowed, Cond.code yX3_writeIfAllowed cX3_writeIfAllowed 3 (some .boolean), Cond.methodLink RX3 318 yX3_isSpan, Cond.static yX3_isSpan, Cond.code yX3_isSpan cX3_isSpan 2 (some .boolean), Cond.methodLink RX3 294 yX3_isBlock, Cond.static yX3_isBlock, Cond.code yX3_isBlock cX3_isBlock 1 (some .boolean), Cond.methodLink RX3 311 yX3_isLength, Cond.static yX3_isLength, Cond.code yX3_isLength cX3_isLength 1 (some .boolean), Cond.methodLink RX3 214 yX0_writeSpan, Cond.instanceMethod yX0_writeSpan, Cond.selects RX0 yX0_writeSpan yX0_writeSpan, Cond.code yX0_writeSpan cX0_writeSpan 5 (some .int), Cond.methodLink RX0 58 yX0_dropSurplus]
def wsL_load_r5 : List Cond := [Cond.instanceMethod yX0_dropSurplus, Cond.selects RX0 yX0_dropSurplus yX0_dropSurplus, Cond.code yX0_dropSurplus cX0_dropSurplus 4 none, Cond.methodLink RX0 69 yX0_countRangesAhead, Cond.instanceMethod yX0_countRangesAhead, Cond.selects RX0 yX0_countRangesAhead yX0_countRangesAhead, Cond.code yX0_countRangesAhead cX0_countRangesAhead 6 (some .int), Cond.methodLink RX0 73 yX0_shortestRange, Cond.instanceMethod yX0_shortestRange, Cond.selects RX0 yX0_shortestRange yX0_shortestRange, Cond.code yX0_shortestRange cX0_shortestRange 5 (some .int), Cond.methodLink RX3 96 yX3_freeIfAllowed, Cond.static yX3_freeIfAllowed, Cond.code yX3_freeIfAllowed cX3_freeIfAllowed 3 (some .boolean), Cond.methodLink RX3 217 yX0_freeSpan, Cond.instanceMethod yX0_freeSpan, Cond.selects RX0 yX0_freeSpan yX0_freeSpan, Cond.code yX0_freeSpan cX0_freeSpan 5 (some .int), Cond.methodLink RX0 61 yX0_queueNow, Cond.instanceMethod yX0_queueNow, Cond.selects RX0 yX0_queueNow yX0_queueNow, Cond.code yX0_queueNow cX0_queueNow 3 none, Cond.methodLink RX3 99 yX0_passTicks, Cond.instanceMethod yX0_passTicks]
def wsL_load_r6 : List Cond := [Cond.selects RX0 yX0_passTicks yX0_passTicks, Cond.code yX0_passTicks cX0_passTicks 4 (some .int), Cond.methodLink RX0 90 yX0_tick, Cond.instanceMethod yX0_tick, Cond.selects RX0 yX0_tick yX0_tick, Cond.code yX0_tick cX0_tick 5 none, Cond.methodLink RX0 93 yX0_budgetOfTick, Cond.instanceMethod yX0_budgetOfTick, Cond.selects RX0 yX0_budgetOfTick yX0_budgetOfTick, Cond.code yX0_budgetOfTick cX0_budgetOfTick 1 (some .int), Cond.methodLink RX0 96 yX0_choosePiece, Cond.instanceMethod yX0_choosePiece, Cond.selects RX0 yX0_choosePiece yX0_choosePiece, Cond.code yX0_choosePiece cX0_choosePiece 10 (some .int), Cond.methodLink RX0 87 yX0_isDue, Cond.instanceMethod yX0_isDue, Cond.selects RX0 yX0_isDue yX0_isDue, Cond.code yX0_isDue cX0_isDue 2 (some .boolean), Cond.methodLink RX0 83 yX0_isFree, Cond.instanceMethod yX0_isFree, Cond.selects RX0 yX0_isFree yX0_isFree, Cond.code yX0_isFree cX0_isFree 5 (some .boolean), Cond.methodLink RX0 77 yX0_granuleSize, Cond.instanceMethod yX0_granuleSize]
def wsL_load_r7 : List Cond := [Cond.selects RX0 yX0_granuleSize yX0_granuleSize, Cond.code yX0_granuleSize cX0_granuleSize 1 (some .int), Cond.methodLink RX0 65 yX0_isAnyPinned, Cond.instanceMethod yX0_isAnyPinned, Cond.selects RX0 yX0_isAnyPinned yX0_isAnyPinned, Cond.code yX0_isAnyPinned cX0_isAnyPinned 4 (some .boolean), Cond.methodLink RX0 100 yX0_mostGranules, Cond.instanceMethod yX0_mostGranules, Cond.selects RX0 yX0_mostGranules yX0_mostGranules, Cond.code yX0_mostGranules cX0_mostGranules 2 (some .int), Cond.methodLink RX0 111 Lib.Math.min.name, Cond.static Lib.Math.min.name, Cond.initialized "java/lang/Math", Cond.code Lib.Math.min.name Lib.Math.min.code 2 (some .int), Cond.methodLink RX0 103 yX0_granulesFrom, Cond.instanceMethod yX0_granulesFrom, Cond.selects RX0 yX0_granulesFrom yX0_granulesFrom, Cond.code yX0_granulesFrom cX0_granulesFrom 4 (some .int), Cond.methodLink RX0 107 yX0_discard, Cond.instanceMethod yX0_discard, Cond.selects RX0 yX0_discard yX0_discard, Cond.code yX0_discard cX0_discard 6 none, Cond.methodLink RX3 102 yX3_pinIfAllowed, Cond.static yX3_pinIfAllowed]
def wsL_load_r8 : List Cond := [Cond.code yX3_pinIfAllowed cX3_pinIfAllowed 4 (some .boolean), Cond.methodLink RX3 323 yX3_isPin, Cond.static yX3_isPin, Cond.code yX3_isPin cX3_isPin 1 (some .boolean), Cond.methodLink RX3 220 yX0_pinSpan, Cond.instanceMethod yX0_pinSpan, Cond.selects RX0 yX0_pinSpan yX0_pinSpan, Cond.code yX0_pinSpan cX0_pinSpan 4 none, Cond.methodLink RX3 106 yX3_setIfAllowed, Cond.static yX3_setIfAllowed, Cond.code yX3_setIfAllowed cX3_setIfAllowed 3 (some .boolean), Cond.methodLink RX3 232 yX3_isValue, Cond.static yX3_isValue, Cond.code yX3_isValue cX3_isValue 2 (some .boolean), Cond.fieldLink RX3 273 "IdleDiscards" "GREATEST_SETTINGS" "[I", Cond.methodLink RX3 198 yX3_isSetting, Cond.static yX3_isSetting, Cond.code yX3_isSetting cX3_isSetting 1 (some .boolean), Cond.methodLink RX3 237 yX0_changeSetting, Cond.instanceMethod yX0_changeSetting, Cond.selects RX0 yX0_changeSetting yX0_changeSetting, Cond.code yX0_changeSetting cX0_changeSetting 3 none]
def wsL_load : List Cond := .codeWith yL_load cL_load 3 (some .int) [(0, 8, 11, 15)] :: ((wsL_load_r1 ++ (wsL_load_r2 ++ (wsL_load_r3 ++ (wsL_load_r4 ++ (wsL_load_r5 ++ (wsL_load_r6 ++ (wsL_load_r7 ++ wsL_load_r8))))))) ++ wsX30 ++ wsX20 ++ wsX00 ++ wsX10 ++ (vx_atS RX3 56 "java/lang/IllegalStateException" ["java/lang/RuntimeException", "java/lang/Exception"]).filter goodWord)
def wsL_about_r1 : List Cond := [Cond.classLink RL 13 "java/lang/IllegalArgumentException", Cond.methodLink RL 21 yX3_about, Cond.instanceMethod yX3_about, Cond.selects RX3 yX3_about yX3_about, Cond.initialized RX3, Cond.code yX3_about cX3_about 2 (some .int), Cond.classLink RX3 41 "java/lang/IllegalArgumentException", Cond.initialized "java/lang/IllegalArgumentException", Cond.fieldLink RX3 19 "IdleDiscards" "device" "LIdleDiscards$Device;", Cond.methodLink RX3 109 yX0_count, Cond.instanceMethod yX0_count, Cond.selects RX0 yX0_count yX0_count, Cond.initialized RX0, Cond.code yX0_count cX0_count 4 (some .int), Cond.fieldLink RX0 9 "IdleDiscards$Device" "blocks" "[I", Cond.methodLink RX3 112 yX0_countRanges, Cond.instanceMethod yX0_countRanges, Cond.selects RX0 yX0_countRanges yX0_countRanges, Cond.code yX0_countRanges cX0_countRanges 1 (some .int), Cond.methodLink RX0 69 yX0_countRangesAhead, Cond.instanceMethod yX0_countRangesAhead, Cond.selects RX0 yX0_countRangesAhead yX0_countRangesAhead, Cond.code yX0_countRangesAhead cX0_countRangesAhead 6 (some .int), Cond.methodLink RX3 115 yX0_countQueued]
def wsL_about_r2 : List Cond := [Cond.instanceMethod yX0_countQueued, Cond.selects RX0 yX0_countQueued yX0_countQueued, Cond.code yX0_countQueued cX0_countQueued 3 (some .int), Cond.methodLink RX3 118 yX0_time, Cond.instanceMethod yX0_time, Cond.selects RX0 yX0_time yX0_time, Cond.code yX0_time cX0_time 1 (some .int), Cond.fieldLink RX0 42 "IdleDiscards$Device" "time" "I", Cond.methodLink RX3 121 yX0_quietTicks, Cond.instanceMethod yX0_quietTicks, Cond.selects RX0 yX0_quietTicks yX0_quietTicks, Cond.code yX0_quietTicks cX0_quietTicks 1 (some .int), Cond.fieldLink RX0 46 "IdleDiscards$Device" "quiet" "I", Cond.methodLink RX3 124 yX0_commands, Cond.instanceMethod yX0_commands, Cond.selects RX0 yX0_commands yX0_commands, Cond.code yX0_commands cX0_commands 1 (some .int), Cond.fieldLink RX0 49 "IdleDiscards$Device" "commands" "I", Cond.methodLink RX3 127 yX0_discarded, Cond.instanceMethod yX0_discarded, Cond.selects RX0 yX0_discarded yX0_discarded, Cond.code yX0_discarded cX0_discarded 1 (some .int), Cond.fieldLink RX0 52 "IdleDiscards$Device" "discarded" "I", Cond.methodLink RX3 130 yX0_dropped]
def wsL_about_r3 : List Cond := [Cond.instanceMethod yX0_dropped, Cond.selects RX0 yX0_dropped yX0_dropped, Cond.code yX0_dropped cX0_dropped 1 (some .int), Cond.fieldLink RX0 55 "IdleDiscards$Device" "dropped" "I", Cond.methodLink RX3 133 yX0_countPinned, Cond.instanceMethod yX0_countPinned, Cond.selects RX0 yX0_countPinned yX0_countPinned, Cond.code yX0_countPinned cX0_countPinned 3 (some .int), Cond.methodLink RX0 65 yX0_isAnyPinned, Cond.instanceMethod yX0_isAnyPinned, Cond.selects RX0 yX0_isAnyPinned yX0_isAnyPinned, Cond.code yX0_isAnyPinned cX0_isAnyPinned 4 (some .boolean), Cond.fieldLink RX0 18 "IdleDiscards$Device" "pinLength" "[I", Cond.fieldLink RX0 15 "IdleDiscards$Device" "pinFirst" "[I"]
def wsL_about : List Cond := .codeWith yL_about cL_about 4 (some .int) [(0, 9, 12, 13)] :: ((wsL_about_r1 ++ (wsL_about_r2 ++ wsL_about_r3)) ++ wsX30 ++ wsX00 ++ (vx_atS RX3 45 "java/lang/IllegalArgumentException" ["java/lang/RuntimeException", "java/lang/Exception"]).filter goodWord)
def wsL_block_r1 : List Cond := [Cond.classLink RL 28 "java/lang/IndexOutOfBoundsException", Cond.classLink RL 13 "java/lang/IllegalArgumentException", Cond.methodLink RL 24 yX3_block, Cond.instanceMethod yX3_block, Cond.selects RX3 yX3_block yX3_block, Cond.initialized RX3, Cond.code yX3_block cX3_block 3 (some .int), Cond.classLink RX3 41 "java/lang/IllegalArgumentException", Cond.initialized "java/lang/IllegalArgumentException", Cond.fieldLink RX3 19 "IdleDiscards" "device" "LIdleDiscards$Device;", Cond.methodLink RX3 138 yX3_checkBlock, Cond.static yX3_checkBlock, Cond.code yX3_checkBlock cX3_checkBlock 1 none, Cond.classLink RX3 158 "java/lang/IndexOutOfBoundsException", Cond.initialized "java/lang/IndexOutOfBoundsException", Cond.methodLink RX3 294 yX3_isBlock, Cond.static yX3_isBlock, Cond.code yX3_isBlock cX3_isBlock 1 (some .boolean), Cond.methodLink RX3 142 yX0_isAlive, Cond.instanceMethod yX0_isAlive, Cond.selects RX0 yX0_isAlive yX0_isAlive, Cond.initialized RX0, Cond.code yX0_isAlive cX0_isAlive 2 (some .boolean), Cond.fieldLink RX0 9 "IdleDiscards$Device" "blocks" "[I"]
def wsL_block_r2 : List Cond := [Cond.methodLink RX3 146 yX0_isHeld, Cond.instanceMethod yX0_isHeld, Cond.selects RX0 yX0_isHeld yX0_isHeld, Cond.code yX0_isHeld cX0_isHeld 2 (some .boolean), Cond.methodLink RX3 149 yX0_rangeOf, Cond.instanceMethod yX0_rangeOf, Cond.selects RX0 yX0_rangeOf yX0_rangeOf, Cond.code yX0_rangeOf cX0_rangeOf 2 (some .int), Cond.methodLink RX0 69 yX0_countRangesAhead, Cond.instanceMethod yX0_countRangesAhead, Cond.selects RX0 yX0_countRangesAhead yX0_countRangesAhead, Cond.code yX0_countRangesAhead cX0_countRangesAhead 6 (some .int), Cond.methodLink RX3 152 yX0_isAnyPinned, Cond.instanceMethod yX0_isAnyPinned, Cond.selects RX0 yX0_isAnyPinned yX0_isAnyPinned, Cond.code yX0_isAnyPinned cX0_isAnyPinned 4 (some .boolean), Cond.fieldLink RX0 18 "IdleDiscards$Device" "pinLength" "[I", Cond.fieldLink RX0 15 "IdleDiscards$Device" "pinFirst" "[I"]
def wsL_block : List Cond := .codeWith yL_block cL_block 5 (some .int) [(0, 10, 13, 28), (0, 10, 17, 13)] :: ((wsL_block_r1 ++ wsL_block_r2) ++ wsX30 ++ wsX00 ++ (vx_atS RX3 45 "java/lang/IllegalArgumentException" ["java/lang/RuntimeException", "java/lang/Exception"]).filter goodWord ++ (vx_atS RX3 162 "java/lang/IndexOutOfBoundsException" ["java/lang/RuntimeException", "java/lang/Exception"]).filter goodWord)
def wsL_range_r1 : List Cond := [Cond.classLink RL 28 "java/lang/IndexOutOfBoundsException", Cond.classLink RL 13 "java/lang/IllegalArgumentException", Cond.methodLink RL 30 yX3_range, Cond.instanceMethod yX3_range, Cond.selects RX3 yX3_range yX3_range, Cond.initialized RX3, Cond.code yX3_range cX3_range 5 (some .int), Cond.classLink RX3 158 "java/lang/IndexOutOfBoundsException", Cond.initialized "java/lang/IndexOutOfBoundsException", Cond.classLink RX3 41 "java/lang/IllegalArgumentException", Cond.initialized "java/lang/IllegalArgumentException", Cond.fieldLink RX3 19 "IdleDiscards" "device" "LIdleDiscards$Device;", Cond.methodLink RX3 112 yX0_countRanges, Cond.instanceMethod yX0_countRanges, Cond.selects RX0 yX0_countRanges yX0_countRanges, Cond.initialized RX0, Cond.code yX0_countRanges cX0_countRanges 1 (some .int), Cond.methodLink RX0 69 yX0_countRangesAhead, Cond.instanceMethod yX0_countRangesAhead, Cond.selects RX0 yX0_countRangesAhead yX0_countRangesAhead, Cond.code yX0_countRangesAhead cX0_countRangesAhead 6 (some .int), Cond.fieldLink RX0 9 "IdleDiscards$Device" "blocks" "[I", Cond.methodLink RX3 163 yX0_firstOfRange, Cond.instanceMethod yX0_firstOfRange]
def wsL_range_r2 : List Cond := [Cond.selects RX0 yX0_firstOfRange yX0_firstOfRange, Cond.code yX0_firstOfRange cX0_firstOfRange 6 (some .int), Cond.methodLink RX3 166 yX0_endOfRange, Cond.instanceMethod yX0_endOfRange, Cond.selects RX0 yX0_endOfRange yX0_endOfRange, Cond.code yX0_endOfRange cX0_endOfRange 3 (some .int), Cond.methodLink RX3 169 yX0_timeOf, Cond.instanceMethod yX0_timeOf, Cond.selects RX0 yX0_timeOf yX0_timeOf, Cond.code yX0_timeOf cX0_timeOf 2 (some .int), Cond.methodLink RX3 172 yX0_countPieces, Cond.instanceMethod yX0_countPieces, Cond.selects RX0 yX0_countPieces yX0_countPieces, Cond.code yX0_countPieces cX0_countPieces 8 (some .int), Cond.fieldLink RX0 21 "IdleDiscards$Device" "settings" "[I", Cond.methodLink RX0 80 yX0_granuleFrom, Cond.instanceMethod yX0_granuleFrom, Cond.selects RX0 yX0_granuleFrom yX0_granuleFrom, Cond.code yX0_granuleFrom cX0_granuleFrom 2 (some .int), Cond.methodLink RX0 77 yX0_granuleSize, Cond.instanceMethod yX0_granuleSize, Cond.selects RX0 yX0_granuleSize yX0_granuleSize, Cond.code yX0_granuleSize cX0_granuleSize 1 (some .int), Cond.methodLink RX0 83 yX0_isFree]
def wsL_range_r3 : List Cond := [Cond.instanceMethod yX0_isFree, Cond.selects RX0 yX0_isFree yX0_isFree, Cond.code yX0_isFree cX0_isFree 5 (some .boolean), Cond.methodLink RX0 65 yX0_isAnyPinned, Cond.instanceMethod yX0_isAnyPinned, Cond.selects RX0 yX0_isAnyPinned yX0_isAnyPinned, Cond.code yX0_isAnyPinned cX0_isAnyPinned 4 (some .boolean), Cond.fieldLink RX0 18 "IdleDiscards$Device" "pinLength" "[I", Cond.fieldLink RX0 15 "IdleDiscards$Device" "pinFirst" "[I", Cond.methodLink RX3 176 yX0_countGranules, Cond.instanceMethod yX0_countGranules, Cond.selects RX0 yX0_countGranules yX0_countGranules, Cond.code yX0_countGranules cX0_countGranules 6 (some .int), Cond.methodLink RX3 179 yX0_isDue, Cond.instanceMethod yX0_isDue, Cond.selects RX0 yX0_isDue yX0_isDue, Cond.code yX0_isDue cX0_isDue 2 (some .boolean), Cond.fieldLink RX0 42 "IdleDiscards$Device" "time" "I"]
def wsL_range : List Cond := .codeWith yL_range cL_range 5 (some .int) [(0, 10, 13, 28), (0, 10, 17, 13)] :: ((wsL_range_r1 ++ (wsL_range_r2 ++ wsL_range_r3)) ++ wsX30 ++ wsX00 ++ (vx_atS RX3 162 "java/lang/IndexOutOfBoundsException" ["java/lang/RuntimeException", "java/lang/Exception"]).filter goodWord ++ (vx_atS RX3 45 "java/lang/IllegalArgumentException" ["java/lang/RuntimeException", "java/lang/Exception"]).filter goodWord)
def wsL_pinned_r1 : List Cond := [Cond.classLink RL 28 "java/lang/IndexOutOfBoundsException", Cond.classLink RL 13 "java/lang/IllegalArgumentException", Cond.methodLink RL 33 yX3_pinned, Cond.instanceMethod yX3_pinned, Cond.selects RX3 yX3_pinned yX3_pinned, Cond.initialized RX3, Cond.code yX3_pinned cX3_pinned 3 (some .int), Cond.classLink RX3 41 "java/lang/IllegalArgumentException", Cond.initialized "java/lang/IllegalArgumentException", Cond.fieldLink RX3 19 "IdleDiscards" "device" "LIdleDiscards$Device;", Cond.methodLink RX3 184 yX3_checkPin, Cond.static yX3_checkPin, Cond.code yX3_checkPin cX3_checkPin 1 none, Cond.classLink RX3 158 "java/lang/IndexOutOfBoundsException", Cond.initialized "java/lang/IndexOutOfBoundsException", Cond.methodLink RX3 323 yX3_isPin, Cond.static yX3_isPin, Cond.code yX3_isPin cX3_isPin 1 (some .boolean), Cond.methodLink RX3 189 yX0_hasPin, Cond.instanceMethod yX0_hasPin, Cond.selects RX0 yX0_hasPin yX0_hasPin, Cond.initialized RX0, Cond.code yX0_hasPin cX0_hasPin 2 (some .boolean), Cond.fieldLink RX0 18 "IdleDiscards$Device" "pinLength" "[I"]
def wsL_pinned_r2 : List Cond := [Cond.methodLink RX3 192 yX0_firstPinned, Cond.instanceMethod yX0_firstPinned, Cond.selects RX0 yX0_firstPinned yX0_firstPinned, Cond.code yX0_firstPinned cX0_firstPinned 2 (some .int), Cond.fieldLink RX0 15 "IdleDiscards$Device" "pinFirst" "[I", Cond.methodLink RX3 195 yX0_lengthPinned, Cond.instanceMethod yX0_lengthPinned, Cond.selects RX0 yX0_lengthPinned yX0_lengthPinned, Cond.code yX0_lengthPinned cX0_lengthPinned 2 (some .int)]
def wsL_pinned : List Cond := .codeWith yL_pinned cL_pinned 5 (some .int) [(0, 10, 13, 28), (0, 10, 17, 13)] :: ((wsL_pinned_r1 ++ wsL_pinned_r2) ++ wsX30 ++ wsX00 ++ (vx_atS RX3 45 "java/lang/IllegalArgumentException" ["java/lang/RuntimeException", "java/lang/Exception"]).filter goodWord ++ (vx_atS RX3 162 "java/lang/IndexOutOfBoundsException" ["java/lang/RuntimeException", "java/lang/Exception"]).filter goodWord)
def wsL_setting : List Cond := .codeWith yL_setting cL_setting 4 (some .int) [(0, 9, 12, 13)] :: ([.classLink RL 13 "java/lang/IllegalArgumentException", .methodLink RL 36 yX3_setting, .instanceMethod yX3_setting, .selects RX3 yX3_setting yX3_setting, .initialized RX3, .code yX3_setting cX3_setting 2 (some .int), .classLink RX3 41 "java/lang/IllegalArgumentException", .initialized "java/lang/IllegalArgumentException", .fieldLink RX3 19 "IdleDiscards" "device" "LIdleDiscards$Device;", .methodLink RX3 198 yX3_isSetting, .static yX3_isSetting, .code yX3_isSetting cX3_isSetting 1 (some .boolean), .methodLink RX3 203 yX0_settingAt, .instanceMethod yX0_settingAt, .selects RX0 yX0_settingAt yX0_settingAt, .initialized RX0, .code yX0_settingAt cX0_settingAt 2 (some .int), .fieldLink RX0 21 "IdleDiscards$Device" "settings" "[I"] ++ wsX30 ++ wsX00 ++ (vx_atS RX3 45 "java/lang/IllegalArgumentException" ["java/lang/RuntimeException", "java/lang/Exception"]).filter goodWord)
def wsL_write_r1 : List Cond := [Cond.classLink RL 28 "java/lang/IndexOutOfBoundsException", Cond.classLink RL 13 "java/lang/IllegalArgumentException", Cond.classLink RL 15 "java/lang/IllegalStateException", Cond.methodLink RL 39 yX3_write, Cond.instanceMethod yX3_write, Cond.selects RX3 yX3_write yX3_write, Cond.initialized RX3, Cond.code yX3_write cX3_write 3 (some .int), Cond.fieldLink RX3 29 "IdleDiscards" "past" "LIdleDiscards$Past;", Cond.fieldLink RX3 19 "IdleDiscards" "device" "LIdleDiscards$Device;", Cond.methodLink RX3 206 yX3_checkSpan, Cond.static yX3_checkSpan, Cond.code yX3_checkSpan cX3_checkSpan 2 none, Cond.classLink RX3 41 "java/lang/IllegalArgumentException", Cond.initialized "java/lang/IllegalArgumentException", Cond.classLink RX3 52 "java/lang/IllegalStateException", Cond.initialized "java/lang/IllegalStateException", Cond.methodLink RX3 138 yX3_checkBlock, Cond.static yX3_checkBlock, Cond.code yX3_checkBlock cX3_checkBlock 1 none, Cond.classLink RX3 158 "java/lang/IndexOutOfBoundsException", Cond.initialized "java/lang/IndexOutOfBoundsException", Cond.methodLink RX3 294 yX3_isBlock, Cond.static yX3_isBlock]
def wsL_write_r2 : List Cond := [Cond.code yX3_isBlock cX3_isBlock 1 (some .boolean), Cond.methodLink RX3 311 yX3_isLength, Cond.static yX3_isLength, Cond.code yX3_isLength cX3_isLength 1 (some .boolean), Cond.methodLink RX3 318 yX3_isSpan, Cond.static yX3_isSpan, Cond.code yX3_isSpan cX3_isSpan 2 (some .boolean), Cond.methodLink RX3 210 yX1_remember, Cond.instanceMethod yX1_remember, Cond.selects RX1 yX1_remember yX1_remember, Cond.initialized RX1, Cond.code yX1_remember cX1_remember 2 none, Cond.fieldLink RX1 18 "IdleDiscards$Past" "size" "I", Cond.fieldLink RX1 22 "IdleDiscards$Past" "oldest" "I", Cond.fieldLink RX1 11 "IdleDiscards$Past" "states" "[LIdleDiscards$Device;", Cond.methodLink RX1 25 yX1_newest, Cond.instanceMethod yX1_newest, Cond.selects RX1 yX1_newest yX1_newest, Cond.code yX1_newest cX1_newest 1 (some .int), Cond.methodLink RX1 29 yX0_copyFrom, Cond.instanceMethod yX0_copyFrom, Cond.selects RX0 yX0_copyFrom yX0_copyFrom, Cond.initialized RX0, Cond.code yX0_copyFrom cX0_copyFrom 2 none]
def wsL_write_r3 : List Cond := [Cond.fieldLink RX0 9 "IdleDiscards$Device" "blocks" "[I", Cond.methodLink RX0 36 arraycopyName, Cond.native arraycopyName, Cond.static arraycopyName, Cond.initialized "java/lang/System", Cond.fieldLink RX0 15 "IdleDiscards$Device" "pinFirst" "[I", Cond.fieldLink RX0 18 "IdleDiscards$Device" "pinLength" "[I", Cond.fieldLink RX0 21 "IdleDiscards$Device" "settings" "[I", Cond.fieldLink RX0 42 "IdleDiscards$Device" "time" "I", Cond.fieldLink RX0 46 "IdleDiscards$Device" "quiet" "I", Cond.fieldLink RX0 49 "IdleDiscards$Device" "commands" "I", Cond.fieldLink RX0 52 "IdleDiscards$Device" "discarded" "I", Cond.fieldLink RX0 55 "IdleDiscards$Device" "dropped" "I", Cond.methodLink RX3 214 yX0_writeSpan, Cond.instanceMethod yX0_writeSpan, Cond.selects RX0 yX0_writeSpan yX0_writeSpan, Cond.code yX0_writeSpan cX0_writeSpan 5 (some .int), Cond.methodLink RX0 58 yX0_dropSurplus, Cond.instanceMethod yX0_dropSurplus, Cond.selects RX0 yX0_dropSurplus yX0_dropSurplus, Cond.code yX0_dropSurplus cX0_dropSurplus 4 none, Cond.methodLink RX0 69 yX0_countRangesAhead, Cond.instanceMethod yX0_countRangesAhead, Cond.selects RX0 yX0_countRangesAhead yX0_countRangesAhead]
def wsL_write_r4 : List Cond := [Cond.code yX0_countRangesAhead cX0_countRangesAhead 6 (some .int), Cond.methodLink RX0 73 yX0_shortestRange, Cond.instanceMethod yX0_shortestRange, Cond.selects RX0 yX0_shortestRange yX0_shortestRange, Cond.code yX0_shortestRange cX0_shortestRange 5 (some .int)]
def wsL_write : List Cond := .codeWith yL_write cL_write 5 (some .int) [(0, 10, 13, 28), (0, 10, 17, 13), (0, 10, 21, 15)] :: ((wsL_write_r1 ++ (wsL_write_r2 ++ (wsL_write_r3 ++ wsL_write_r4))) ++ wsX30 ++ wsX10 ++ wsX00 ++ (vx_atS RX3 45 "java/lang/IllegalArgumentException" ["java/lang/RuntimeException", "java/lang/Exception"]).filter goodWord ++ (vx_atS RX3 56 "java/lang/IllegalStateException" ["java/lang/RuntimeException", "java/lang/Exception"]).filter goodWord ++ (vx_atS RX3 162 "java/lang/IndexOutOfBoundsException" ["java/lang/RuntimeException", "java/lang/Exception"]).filter goodWord)
def wsL_free_r1 : List Cond := [Cond.classLink RL 28 "java/lang/IndexOutOfBoundsException", Cond.classLink RL 13 "java/lang/IllegalArgumentException", Cond.classLink RL 15 "java/lang/IllegalStateException", Cond.methodLink RL 42 yX3_free, Cond.instanceMethod yX3_free, Cond.selects RX3 yX3_free yX3_free, Cond.initialized RX3, Cond.code yX3_free cX3_free 3 (some .int), Cond.fieldLink RX3 29 "IdleDiscards" "past" "LIdleDiscards$Past;", Cond.fieldLink RX3 19 "IdleDiscards" "device" "LIdleDiscards$Device;", Cond.methodLink RX3 206 yX3_checkSpan, Cond.static yX3_checkSpan, Cond.code yX3_checkSpan cX3_checkSpan 2 none, Cond.classLink RX3 41 "java/lang/IllegalArgumentException", Cond.initialized "java/lang/IllegalArgumentException", Cond.classLink RX3 52 "java/lang/IllegalStateException", Cond.initialized "java/lang/IllegalStateException", Cond.methodLink RX3 138 yX3_checkBlock, Cond.static yX3_checkBlock, Cond.code yX3_checkBlock cX3_checkBlock 1 none, Cond.classLink RX3 158 "java/lang/IndexOutOfBoundsException", Cond.initialized "java/lang/IndexOutOfBoundsException", Cond.methodLink RX3 294 yX3_isBlock, Cond.static yX3_isBlock]
def wsL_free_r2 : List Cond := [Cond.code yX3_isBlock cX3_isBlock 1 (some .boolean), Cond.methodLink RX3 311 yX3_isLength, Cond.static yX3_isLength, Cond.code yX3_isLength cX3_isLength 1 (some .boolean), Cond.methodLink RX3 318 yX3_isSpan, Cond.static yX3_isSpan, Cond.code yX3_isSpan cX3_isSpan 2 (some .boolean), Cond.methodLink RX3 210 yX1_remember, Cond.instanceMethod yX1_remember, Cond.selects RX1 yX1_remember yX1_remember, Cond.initialized RX1, Cond.code yX1_remember cX1_remember 2 none, Cond.fieldLink RX1 18 "IdleDiscards$Past" "size" "I", Cond.fieldLink RX1 22 "IdleDiscards$Past" "oldest" "I", Cond.fieldLink RX1 11 "IdleDiscards$Past" "states" "[LIdleDiscards$Device;", Cond.methodLink RX1 25 yX1_newest, Cond.instanceMethod yX1_newest, Cond.selects RX1 yX1_newest yX1_newest, Cond.code yX1_newest cX1_newest 1 (some .int), Cond.methodLink RX1 29 yX0_copyFrom, Cond.instanceMethod yX0_copyFrom, Cond.selects RX0 yX0_copyFrom yX0_copyFrom, Cond.initialized RX0, Cond.code yX0_copyFrom cX0_copyFrom 2 none]
def wsL_free_r3 : List Cond := [Cond.fieldLink RX0 9 "IdleDiscards$Device" "blocks" "[I", Cond.methodLink RX0 36 arraycopyName, Cond.native arraycopyName, Cond.static arraycopyName, Cond.initialized "java/lang/System", Cond.fieldLink RX0 15 "IdleDiscards$Device" "pinFirst" "[I", Cond.fieldLink RX0 18 "IdleDiscards$Device" "pinLength" "[I", Cond.fieldLink RX0 21 "IdleDiscards$Device" "settings" "[I", Cond.fieldLink RX0 42 "IdleDiscards$Device" "time" "I", Cond.fieldLink RX0 46 "IdleDiscards$Device" "quiet" "I", Cond.fieldLink RX0 49 "IdleDiscards$Device" "commands" "I", Cond.fieldLink RX0 52 "IdleDiscards$Device" "discarded" "I", Cond.fieldLink RX0 55 "IdleDiscards$Device" "dropped" "I", Cond.methodLink RX3 217 yX0_freeSpan, Cond.instanceMethod yX0_freeSpan, Cond.selects RX0 yX0_freeSpan yX0_freeSpan, Cond.code yX0_freeSpan cX0_freeSpan 5 (some .int), Cond.methodLink RX0 61 yX0_queueNow, Cond.instanceMethod yX0_queueNow, Cond.selects RX0 yX0_queueNow yX0_queueNow, Cond.code yX0_queueNow cX0_queueNow 3 none, Cond.methodLink RX0 58 yX0_dropSurplus, Cond.instanceMethod yX0_dropSurplus, Cond.selects RX0 yX0_dropSurplus yX0_dropSurplus]
def wsL_free_r4 : List Cond := [Cond.code yX0_dropSurplus cX0_dropSurplus 4 none, Cond.methodLink RX0 69 yX0_countRangesAhead, Cond.instanceMethod yX0_countRangesAhead, Cond.selects RX0 yX0_countRangesAhead yX0_countRangesAhead, Cond.code yX0_countRangesAhead cX0_countRangesAhead 6 (some .int), Cond.methodLink RX0 73 yX0_shortestRange, Cond.instanceMethod yX0_shortestRange, Cond.selects RX0 yX0_shortestRange yX0_shortestRange, Cond.code yX0_shortestRange cX0_shortestRange 5 (some .int)]
def wsL_free : List Cond := .codeWith yL_free cL_free 5 (some .int) [(0, 10, 13, 28), (0, 10, 17, 13), (0, 10, 21, 15)] :: ((wsL_free_r1 ++ (wsL_free_r2 ++ (wsL_free_r3 ++ wsL_free_r4))) ++ wsX30 ++ wsX10 ++ wsX00 ++ (vx_atS RX3 45 "java/lang/IllegalArgumentException" ["java/lang/RuntimeException", "java/lang/Exception"]).filter goodWord ++ (vx_atS RX3 56 "java/lang/IllegalStateException" ["java/lang/RuntimeException", "java/lang/Exception"]).filter goodWord ++ (vx_atS RX3 162 "java/lang/IndexOutOfBoundsException" ["java/lang/RuntimeException", "java/lang/Exception"]).filter goodWord)
def wsL_pin_r1 : List Cond := [Cond.classLink RL 28 "java/lang/IndexOutOfBoundsException", Cond.classLink RL 13 "java/lang/IllegalArgumentException", Cond.classLink RL 15 "java/lang/IllegalStateException", Cond.methodLink RL 45 yX3_pin, Cond.instanceMethod yX3_pin, Cond.selects RX3 yX3_pin yX3_pin, Cond.initialized RX3, Cond.code yX3_pin cX3_pin 4 (some .int), Cond.fieldLink RX3 29 "IdleDiscards" "past" "LIdleDiscards$Past;", Cond.fieldLink RX3 19 "IdleDiscards" "device" "LIdleDiscards$Device;", Cond.methodLink RX3 184 yX3_checkPin, Cond.static yX3_checkPin, Cond.code yX3_checkPin cX3_checkPin 1 none, Cond.classLink RX3 158 "java/lang/IndexOutOfBoundsException", Cond.initialized "java/lang/IndexOutOfBoundsException", Cond.methodLink RX3 323 yX3_isPin, Cond.static yX3_isPin, Cond.code yX3_isPin cX3_isPin 1 (some .boolean), Cond.methodLink RX3 206 yX3_checkSpan, Cond.static yX3_checkSpan, Cond.code yX3_checkSpan cX3_checkSpan 2 none, Cond.classLink RX3 41 "java/lang/IllegalArgumentException", Cond.initialized "java/lang/IllegalArgumentException", Cond.classLink RX3 52 "java/lang/IllegalStateException"]
def wsL_pin_r2 : List Cond := [Cond.initialized "java/lang/IllegalStateException", Cond.methodLink RX3 138 yX3_checkBlock, Cond.static yX3_checkBlock, Cond.code yX3_checkBlock cX3_checkBlock 1 none, Cond.methodLink RX3 294 yX3_isBlock, Cond.static yX3_isBlock, Cond.code yX3_isBlock cX3_isBlock 1 (some .boolean), Cond.methodLink RX3 311 yX3_isLength, Cond.static yX3_isLength, Cond.code yX3_isLength cX3_isLength 1 (some .boolean), Cond.methodLink RX3 318 yX3_isSpan, Cond.static yX3_isSpan, Cond.code yX3_isSpan cX3_isSpan 2 (some .boolean), Cond.methodLink RX3 210 yX1_remember, Cond.instanceMethod yX1_remember, Cond.selects RX1 yX1_remember yX1_remember, Cond.initialized RX1, Cond.code yX1_remember cX1_remember 2 none, Cond.fieldLink RX1 18 "IdleDiscards$Past" "size" "I", Cond.fieldLink RX1 22 "IdleDiscards$Past" "oldest" "I", Cond.fieldLink RX1 11 "IdleDiscards$Past" "states" "[LIdleDiscards$Device;", Cond.methodLink RX1 25 yX1_newest, Cond.instanceMethod yX1_newest, Cond.selects RX1 yX1_newest yX1_newest]
def wsL_pin_r3 : List Cond := [Cond.code yX1_newest cX1_newest 1 (some .int), Cond.methodLink RX1 29 yX0_copyFrom, Cond.instanceMethod yX0_copyFrom, Cond.selects RX0 yX0_copyFrom yX0_copyFrom, Cond.initialized RX0, Cond.code yX0_copyFrom cX0_copyFrom 2 none, Cond.fieldLink RX0 9 "IdleDiscards$Device" "blocks" "[I", Cond.methodLink RX0 36 arraycopyName, Cond.native arraycopyName, Cond.static arraycopyName, Cond.initialized "java/lang/System", Cond.fieldLink RX0 15 "IdleDiscards$Device" "pinFirst" "[I", Cond.fieldLink RX0 18 "IdleDiscards$Device" "pinLength" "[I", Cond.fieldLink RX0 21 "IdleDiscards$Device" "settings" "[I", Cond.fieldLink RX0 42 "IdleDiscards$Device" "time" "I", Cond.fieldLink RX0 46 "IdleDiscards$Device" "quiet" "I", Cond.fieldLink RX0 49 "IdleDiscards$Device" "commands" "I", Cond.fieldLink RX0 52 "IdleDiscards$Device" "discarded" "I", Cond.fieldLink RX0 55 "IdleDiscards$Device" "dropped" "I", Cond.methodLink RX3 220 yX0_pinSpan, Cond.instanceMethod yX0_pinSpan, Cond.selects RX0 yX0_pinSpan yX0_pinSpan, Cond.code yX0_pinSpan cX0_pinSpan 4 none, Cond.methodLink RX3 133 yX0_countPinned]
def wsL_pin_r4 : List Cond := [Cond.instanceMethod yX0_countPinned, Cond.selects RX0 yX0_countPinned yX0_countPinned, Cond.code yX0_countPinned cX0_countPinned 3 (some .int), Cond.methodLink RX0 65 yX0_isAnyPinned, Cond.instanceMethod yX0_isAnyPinned, Cond.selects RX0 yX0_isAnyPinned yX0_isAnyPinned, Cond.code yX0_isAnyPinned cX0_isAnyPinned 4 (some .boolean)]
def wsL_pin : List Cond := .codeWith yL_pin cL_pin 6 (some .int) [(0, 12, 15, 28), (0, 12, 19, 13), (0, 12, 23, 15)] :: ((wsL_pin_r1 ++ (wsL_pin_r2 ++ (wsL_pin_r3 ++ wsL_pin_r4))) ++ wsX30 ++ wsX10 ++ wsX00 ++ (vx_atS RX3 162 "java/lang/IndexOutOfBoundsException" ["java/lang/RuntimeException", "java/lang/Exception"]).filter goodWord ++ (vx_atS RX3 45 "java/lang/IllegalArgumentException" ["java/lang/RuntimeException", "java/lang/Exception"]).filter goodWord ++ (vx_atS RX3 56 "java/lang/IllegalStateException" ["java/lang/RuntimeException", "java/lang/Exception"]).filter goodWord)
def wsL_unpin_r1 : List Cond := [Cond.classLink RL 28 "java/lang/IndexOutOfBoundsException", Cond.classLink RL 15 "java/lang/IllegalStateException", Cond.methodLink RL 49 yX3_unpin, Cond.instanceMethod yX3_unpin, Cond.selects RX3 yX3_unpin yX3_unpin, Cond.initialized RX3, Cond.code yX3_unpin cX3_unpin 2 (some .int), Cond.classLink RX3 52 "java/lang/IllegalStateException", Cond.initialized "java/lang/IllegalStateException", Cond.fieldLink RX3 19 "IdleDiscards" "device" "LIdleDiscards$Device;", Cond.fieldLink RX3 29 "IdleDiscards" "past" "LIdleDiscards$Past;", Cond.methodLink RX3 184 yX3_checkPin, Cond.static yX3_checkPin, Cond.code yX3_checkPin cX3_checkPin 1 none, Cond.classLink RX3 158 "java/lang/IndexOutOfBoundsException", Cond.initialized "java/lang/IndexOutOfBoundsException", Cond.methodLink RX3 323 yX3_isPin, Cond.static yX3_isPin, Cond.code yX3_isPin cX3_isPin 1 (some .boolean), Cond.methodLink RX3 189 yX0_hasPin, Cond.instanceMethod yX0_hasPin, Cond.selects RX0 yX0_hasPin yX0_hasPin, Cond.initialized RX0, Cond.code yX0_hasPin cX0_hasPin 2 (some .boolean)]
def wsL_unpin_r2 : List Cond := [Cond.fieldLink RX0 18 "IdleDiscards$Device" "pinLength" "[I", Cond.methodLink RX3 210 yX1_remember, Cond.instanceMethod yX1_remember, Cond.selects RX1 yX1_remember yX1_remember, Cond.initialized RX1, Cond.code yX1_remember cX1_remember 2 none, Cond.fieldLink RX1 18 "IdleDiscards$Past" "size" "I", Cond.fieldLink RX1 22 "IdleDiscards$Past" "oldest" "I", Cond.fieldLink RX1 11 "IdleDiscards$Past" "states" "[LIdleDiscards$Device;", Cond.methodLink RX1 25 yX1_newest, Cond.instanceMethod yX1_newest, Cond.selects RX1 yX1_newest yX1_newest, Cond.code yX1_newest cX1_newest 1 (some .int), Cond.methodLink RX1 29 yX0_copyFrom, Cond.instanceMethod yX0_copyFrom, Cond.selects RX0 yX0_copyFrom yX0_copyFrom, Cond.code yX0_copyFrom cX0_copyFrom 2 none, Cond.fieldLink RX0 9 "IdleDiscards$Device" "blocks" "[I", Cond.methodLink RX0 36 arraycopyName, Cond.native arraycopyName, Cond.static arraycopyName, Cond.initialized "java/lang/System", Cond.fieldLink RX0 15 "IdleDiscards$Device" "pinFirst" "[I", Cond.fieldLink RX0 21 "IdleDiscards$Device" "settings" "[I"]
def wsL_unpin_r3 : List Cond := [Cond.fieldLink RX0 42 "IdleDiscards$Device" "time" "I", Cond.fieldLink RX0 46 "IdleDiscards$Device" "quiet" "I", Cond.fieldLink RX0 49 "IdleDiscards$Device" "commands" "I", Cond.fieldLink RX0 52 "IdleDiscards$Device" "discarded" "I", Cond.fieldLink RX0 55 "IdleDiscards$Device" "dropped" "I", Cond.methodLink RX3 220 yX0_pinSpan, Cond.instanceMethod yX0_pinSpan, Cond.selects RX0 yX0_pinSpan yX0_pinSpan, Cond.code yX0_pinSpan cX0_pinSpan 4 none, Cond.methodLink RX3 133 yX0_countPinned, Cond.instanceMethod yX0_countPinned, Cond.selects RX0 yX0_countPinned yX0_countPinned, Cond.code yX0_countPinned cX0_countPinned 3 (some .int), Cond.methodLink RX0 65 yX0_isAnyPinned, Cond.instanceMethod yX0_isAnyPinned, Cond.selects RX0 yX0_isAnyPinned yX0_isAnyPinned, Cond.code yX0_isAnyPinned cX0_isAnyPinned 4 (some .boolean)]
def wsL_unpin : List Cond := .codeWith yL_unpin cL_unpin 4 (some .int) [(0, 9, 12, 28), (0, 9, 15, 15)] :: ((wsL_unpin_r1 ++ (wsL_unpin_r2 ++ wsL_unpin_r3)) ++ wsX30 ++ wsX00 ++ wsX10 ++ (vx_atS RX3 56 "java/lang/IllegalStateException" ["java/lang/RuntimeException", "java/lang/Exception"]).filter goodWord ++ (vx_atS RX3 162 "java/lang/IndexOutOfBoundsException" ["java/lang/RuntimeException", "java/lang/Exception"]).filter goodWord)
def wsL_run_r1 : List Cond := [Cond.classLink RL 13 "java/lang/IllegalArgumentException", Cond.methodLink RL 52 yX3_run, Cond.instanceMethod yX3_run, Cond.selects RX3 yX3_run yX3_run, Cond.initialized RX3, Cond.code yX3_run cX3_run 2 (some .int), Cond.fieldLink RX3 29 "IdleDiscards" "past" "LIdleDiscards$Past;", Cond.fieldLink RX3 19 "IdleDiscards" "device" "LIdleDiscards$Device;", Cond.methodLink RX3 226 yX3_checkTicks, Cond.static yX3_checkTicks, Cond.code yX3_checkTicks cX3_checkTicks 2 none, Cond.classLink RX3 41 "java/lang/IllegalArgumentException", Cond.initialized "java/lang/IllegalArgumentException", Cond.methodLink RX3 291 yX3_isTicks, Cond.static yX3_isTicks, Cond.code yX3_isTicks cX3_isTicks 2 (some .boolean), Cond.methodLink RX3 210 yX1_remember, Cond.instanceMethod yX1_remember, Cond.selects RX1 yX1_remember yX1_remember, Cond.initialized RX1, Cond.code yX1_remember cX1_remember 2 none, Cond.fieldLink RX1 18 "IdleDiscards$Past" "size" "I", Cond.fieldLink RX1 22 "IdleDiscards$Past" "oldest" "I", Cond.fieldLink RX1 11 "IdleDiscards$Past" "states" "[LIdleDiscards$Device;"]
def wsL_run_r2 : List Cond := [Cond.methodLink RX1 25 yX1_newest, Cond.instanceMethod yX1_newest, Cond.selects RX1 yX1_newest yX1_newest, Cond.code yX1_newest cX1_newest 1 (some .int), Cond.methodLink RX1 29 yX0_copyFrom, Cond.instanceMethod yX0_copyFrom, Cond.selects RX0 yX0_copyFrom yX0_copyFrom, Cond.initialized RX0, Cond.code yX0_copyFrom cX0_copyFrom 2 none, Cond.fieldLink RX0 9 "IdleDiscards$Device" "blocks" "[I", Cond.methodLink RX0 36 arraycopyName, Cond.native arraycopyName, Cond.static arraycopyName, Cond.initialized "java/lang/System", Cond.fieldLink RX0 15 "IdleDiscards$Device" "pinFirst" "[I", Cond.fieldLink RX0 18 "IdleDiscards$Device" "pinLength" "[I", Cond.fieldLink RX0 21 "IdleDiscards$Device" "settings" "[I", Cond.fieldLink RX0 42 "IdleDiscards$Device" "time" "I", Cond.fieldLink RX0 46 "IdleDiscards$Device" "quiet" "I", Cond.fieldLink RX0 49 "IdleDiscards$Device" "commands" "I", Cond.fieldLink RX0 52 "IdleDiscards$Device" "discarded" "I", Cond.fieldLink RX0 55 "IdleDiscards$Device" "dropped" "I", Cond.methodLink RX3 99 yX0_passTicks, Cond.instanceMethod yX0_passTicks]
def wsL_run_r3 : List Cond := [Cond.selects RX0 yX0_passTicks yX0_passTicks, Cond.code yX0_passTicks cX0_passTicks 4 (some .int), Cond.methodLink RX0 90 yX0_tick, Cond.instanceMethod yX0_tick, Cond.selects RX0 yX0_tick yX0_tick, Cond.code yX0_tick cX0_tick 5 none, Cond.methodLink RX0 93 yX0_budgetOfTick, Cond.instanceMethod yX0_budgetOfTick, Cond.selects RX0 yX0_budgetOfTick yX0_budgetOfTick, Cond.code yX0_budgetOfTick cX0_budgetOfTick 1 (some .int), Cond.methodLink RX0 96 yX0_choosePiece, Cond.instanceMethod yX0_choosePiece, Cond.selects RX0 yX0_choosePiece yX0_choosePiece, Cond.code yX0_choosePiece cX0_choosePiece 10 (some .int), Cond.methodLink RX0 87 yX0_isDue, Cond.instanceMethod yX0_isDue, Cond.selects RX0 yX0_isDue yX0_isDue, Cond.code yX0_isDue cX0_isDue 2 (some .boolean), Cond.methodLink RX0 83 yX0_isFree, Cond.instanceMethod yX0_isFree, Cond.selects RX0 yX0_isFree yX0_isFree, Cond.code yX0_isFree cX0_isFree 5 (some .boolean), Cond.methodLink RX0 77 yX0_granuleSize, Cond.instanceMethod yX0_granuleSize]
def wsL_run_r4 : List Cond := [Cond.selects RX0 yX0_granuleSize yX0_granuleSize, Cond.code yX0_granuleSize cX0_granuleSize 1 (some .int), Cond.methodLink RX0 65 yX0_isAnyPinned, Cond.instanceMethod yX0_isAnyPinned, Cond.selects RX0 yX0_isAnyPinned yX0_isAnyPinned, Cond.code yX0_isAnyPinned cX0_isAnyPinned 4 (some .boolean), Cond.methodLink RX0 100 yX0_mostGranules, Cond.instanceMethod yX0_mostGranules, Cond.selects RX0 yX0_mostGranules yX0_mostGranules, Cond.code yX0_mostGranules cX0_mostGranules 2 (some .int), Cond.methodLink RX0 111 Lib.Math.min.name, Cond.static Lib.Math.min.name, Cond.initialized "java/lang/Math", Cond.code Lib.Math.min.name Lib.Math.min.code 2 (some .int), Cond.methodLink RX0 103 yX0_granulesFrom, Cond.instanceMethod yX0_granulesFrom, Cond.selects RX0 yX0_granulesFrom yX0_granulesFrom, Cond.code yX0_granulesFrom cX0_granulesFrom 4 (some .int), Cond.methodLink RX0 107 yX0_discard, Cond.instanceMethod yX0_discard, Cond.selects RX0 yX0_discard yX0_discard, Cond.code yX0_discard cX0_discard 6 none, Cond.methodLink RX0 58 yX0_dropSurplus, Cond.instanceMethod yX0_dropSurplus]
def wsL_run_r5 : List Cond := [Cond.selects RX0 yX0_dropSurplus yX0_dropSurplus, Cond.code yX0_dropSurplus cX0_dropSurplus 4 none, Cond.methodLink RX0 69 yX0_countRangesAhead, Cond.instanceMethod yX0_countRangesAhead, Cond.selects RX0 yX0_countRangesAhead yX0_countRangesAhead, Cond.code yX0_countRangesAhead cX0_countRangesAhead 6 (some .int), Cond.methodLink RX0 73 yX0_shortestRange, Cond.instanceMethod yX0_shortestRange, Cond.selects RX0 yX0_shortestRange yX0_shortestRange, Cond.code yX0_shortestRange cX0_shortestRange 5 (some .int)]
def wsL_run : List Cond := .codeWith yL_run cL_run 4 (some .int) [(0, 9, 12, 13)] :: ((wsL_run_r1 ++ (wsL_run_r2 ++ (wsL_run_r3 ++ (wsL_run_r4 ++ wsL_run_r5)))) ++ wsX30 ++ wsX10 ++ wsX00 ++ (vx_atS RX3 45 "java/lang/IllegalArgumentException" ["java/lang/RuntimeException", "java/lang/Exception"]).filter goodWord)
def wsL_set_r1 : List Cond := [Cond.classLink RL 13 "java/lang/IllegalArgumentException", Cond.methodLink RL 55 yX3_set, Cond.instanceMethod yX3_set, Cond.selects RX3 yX3_set yX3_set, Cond.initialized RX3, Cond.code yX3_set cX3_set 4 (some .int), Cond.classLink RX3 41 "java/lang/IllegalArgumentException", Cond.initialized "java/lang/IllegalArgumentException", Cond.fieldLink RX3 29 "IdleDiscards" "past" "LIdleDiscards$Past;", Cond.fieldLink RX3 19 "IdleDiscards" "device" "LIdleDiscards$Device;", Cond.methodLink RX3 232 yX3_isValue, Cond.static yX3_isValue, Cond.code yX3_isValue cX3_isValue 2 (some .boolean), Cond.fieldLink RX3 273 "IdleDiscards" "GREATEST_SETTINGS" "[I", Cond.methodLink RX3 198 yX3_isSetting, Cond.static yX3_isSetting, Cond.code yX3_isSetting cX3_isSetting 1 (some .boolean), Cond.methodLink RX3 210 yX1_remember, Cond.instanceMethod yX1_remember, Cond.selects RX1 yX1_remember yX1_remember, Cond.initialized RX1, Cond.code yX1_remember cX1_remember 2 none, Cond.fieldLink RX1 18 "IdleDiscards$Past" "size" "I", Cond.fieldLink RX1 22 "IdleDiscards$Past" "oldest" "I"]
def wsL_set_r2 : List Cond := [Cond.fieldLink RX1 11 "IdleDiscards$Past" "states" "[LIdleDiscards$Device;", Cond.methodLink RX1 25 yX1_newest, Cond.instanceMethod yX1_newest, Cond.selects RX1 yX1_newest yX1_newest, Cond.code yX1_newest cX1_newest 1 (some .int), Cond.methodLink RX1 29 yX0_copyFrom, Cond.instanceMethod yX0_copyFrom, Cond.selects RX0 yX0_copyFrom yX0_copyFrom, Cond.initialized RX0, Cond.code yX0_copyFrom cX0_copyFrom 2 none, Cond.fieldLink RX0 9 "IdleDiscards$Device" "blocks" "[I", Cond.methodLink RX0 36 arraycopyName, Cond.native arraycopyName, Cond.static arraycopyName, Cond.initialized "java/lang/System", Cond.fieldLink RX0 15 "IdleDiscards$Device" "pinFirst" "[I", Cond.fieldLink RX0 18 "IdleDiscards$Device" "pinLength" "[I", Cond.fieldLink RX0 21 "IdleDiscards$Device" "settings" "[I", Cond.fieldLink RX0 42 "IdleDiscards$Device" "time" "I", Cond.fieldLink RX0 46 "IdleDiscards$Device" "quiet" "I", Cond.fieldLink RX0 49 "IdleDiscards$Device" "commands" "I", Cond.fieldLink RX0 52 "IdleDiscards$Device" "discarded" "I", Cond.fieldLink RX0 55 "IdleDiscards$Device" "dropped" "I", Cond.methodLink RX3 203 yX0_settingAt]
def wsL_set_r3 : List Cond := [Cond.instanceMethod yX0_settingAt, Cond.selects RX0 yX0_settingAt yX0_settingAt, Cond.code yX0_settingAt cX0_settingAt 2 (some .int), Cond.methodLink RX3 237 yX0_changeSetting, Cond.instanceMethod yX0_changeSetting, Cond.selects RX0 yX0_changeSetting yX0_changeSetting, Cond.code yX0_changeSetting cX0_changeSetting 3 none]
def wsL_set : List Cond := .codeWith yL_set cL_set 5 (some .int) [(0, 10, 13, 13)] :: ((wsL_set_r1 ++ (wsL_set_r2 ++ wsL_set_r3)) ++ wsX30 ++ wsX10 ++ wsX00 ++ (vx_atS RX3 45 "java/lang/IllegalArgumentException" ["java/lang/RuntimeException", "java/lang/Exception"]).filter goodWord)
def wsL_undo_r1 : List Cond := [Cond.classLink RL 15 "java/lang/IllegalStateException", Cond.methodLink RL 58 yX3_undo, Cond.instanceMethod yX3_undo, Cond.selects RX3 yX3_undo yX3_undo, Cond.initialized RX3, Cond.code yX3_undo cX3_undo 1 (some .int), Cond.classLink RX3 52 "java/lang/IllegalStateException", Cond.initialized "java/lang/IllegalStateException", Cond.fieldLink RX3 29 "IdleDiscards" "past" "LIdleDiscards$Past;", Cond.fieldLink RX3 19 "IdleDiscards" "device" "LIdleDiscards$Device;", Cond.methodLink RX3 240 yX1_size, Cond.instanceMethod yX1_size, Cond.selects RX1 yX1_size yX1_size, Cond.initialized RX1, Cond.code yX1_size cX1_size 1 (some .int), Cond.fieldLink RX1 18 "IdleDiscards$Past" "size" "I", Cond.methodLink RX3 245 yX1_takeBack, Cond.instanceMethod yX1_takeBack, Cond.selects RX1 yX1_takeBack yX1_takeBack, Cond.code yX1_takeBack cX1_takeBack 2 none, Cond.fieldLink RX1 11 "IdleDiscards$Past" "states" "[LIdleDiscards$Device;", Cond.methodLink RX1 25 yX1_newest, Cond.instanceMethod yX1_newest, Cond.selects RX1 yX1_newest yX1_newest]
def wsL_undo_r2 : List Cond := [Cond.code yX1_newest cX1_newest 1 (some .int), Cond.fieldLink RX1 22 "IdleDiscards$Past" "oldest" "I", Cond.methodLink RX1 29 yX0_copyFrom, Cond.instanceMethod yX0_copyFrom, Cond.selects RX0 yX0_copyFrom yX0_copyFrom, Cond.initialized RX0, Cond.code yX0_copyFrom cX0_copyFrom 2 none, Cond.fieldLink RX0 9 "IdleDiscards$Device" "blocks" "[I", Cond.methodLink RX0 36 arraycopyName, Cond.native arraycopyName, Cond.static arraycopyName, Cond.initialized "java/lang/System", Cond.fieldLink RX0 15 "IdleDiscards$Device" "pinFirst" "[I", Cond.fieldLink RX0 18 "IdleDiscards$Device" "pinLength" "[I", Cond.fieldLink RX0 21 "IdleDiscards$Device" "settings" "[I", Cond.fieldLink RX0 42 "IdleDiscards$Device" "time" "I", Cond.fieldLink RX0 46 "IdleDiscards$Device" "quiet" "I", Cond.fieldLink RX0 49 "IdleDiscards$Device" "commands" "I", Cond.fieldLink RX0 52 "IdleDiscards$Device" "discarded" "I", Cond.fieldLink RX0 55 "IdleDiscards$Device" "dropped" "I"]
def wsL_undo : List Cond := .codeWith yL_undo cL_undo 3 (some .int) [(0, 8, 11, 15)] :: ((wsL_undo_r1 ++ wsL_undo_r2) ++ wsX30 ++ wsX10 ++ wsX00 ++ (vx_atS RX3 56 "java/lang/IllegalStateException" ["java/lang/RuntimeException", "java/lang/Exception"]).filter goodWord)
def wsL_next_r1 : List Cond := [Cond.classLink RL 13 "java/lang/IllegalArgumentException", Cond.methodLink RL 61 yX3_next, Cond.instanceMethod yX3_next, Cond.selects RX3 yX3_next yX3_next, Cond.initialized RX3, Cond.code yX3_next cX3_next 4 (some .int), Cond.classLink RX3 41 "java/lang/IllegalArgumentException", Cond.initialized "java/lang/IllegalArgumentException", Cond.fieldLink RX3 23 "IdleDiscards" "copy" "LIdleDiscards$Device;", Cond.fieldLink RX3 19 "IdleDiscards" "device" "LIdleDiscards$Device;", Cond.methodLink RX3 250 yX0_copyFrom, Cond.instanceMethod yX0_copyFrom, Cond.selects RX0 yX0_copyFrom yX0_copyFrom, Cond.initialized RX0, Cond.code yX0_copyFrom cX0_copyFrom 2 none, Cond.fieldLink RX0 9 "IdleDiscards$Device" "blocks" "[I", Cond.methodLink RX0 36 arraycopyName, Cond.native arraycopyName, Cond.static arraycopyName, Cond.initialized "java/lang/System", Cond.fieldLink RX0 15 "IdleDiscards$Device" "pinFirst" "[I", Cond.fieldLink RX0 18 "IdleDiscards$Device" "pinLength" "[I", Cond.fieldLink RX0 21 "IdleDiscards$Device" "settings" "[I", Cond.fieldLink RX0 42 "IdleDiscards$Device" "time" "I"]
def wsL_next_r2 : List Cond := [Cond.fieldLink RX0 46 "IdleDiscards$Device" "quiet" "I", Cond.fieldLink RX0 49 "IdleDiscards$Device" "commands" "I", Cond.fieldLink RX0 52 "IdleDiscards$Device" "discarded" "I", Cond.fieldLink RX0 55 "IdleDiscards$Device" "dropped" "I", Cond.methodLink RX3 253 yX0_pieceOfTick, Cond.instanceMethod yX0_pieceOfTick, Cond.selects RX0 yX0_pieceOfTick yX0_pieceOfTick, Cond.code yX0_pieceOfTick cX0_pieceOfTick 1 (some .int), Cond.methodLink RX0 93 yX0_budgetOfTick, Cond.instanceMethod yX0_budgetOfTick, Cond.selects RX0 yX0_budgetOfTick yX0_budgetOfTick, Cond.code yX0_budgetOfTick cX0_budgetOfTick 1 (some .int), Cond.methodLink RX0 96 yX0_choosePiece, Cond.instanceMethod yX0_choosePiece, Cond.selects RX0 yX0_choosePiece yX0_choosePiece, Cond.code yX0_choosePiece cX0_choosePiece 10 (some .int), Cond.methodLink RX0 87 yX0_isDue, Cond.instanceMethod yX0_isDue, Cond.selects RX0 yX0_isDue yX0_isDue, Cond.code yX0_isDue cX0_isDue 2 (some .boolean), Cond.methodLink RX0 83 yX0_isFree, Cond.instanceMethod yX0_isFree, Cond.selects RX0 yX0_isFree yX0_isFree, Cond.code yX0_isFree cX0_isFree 5 (some .boolean)]
def wsL_next_r3 : List Cond := [Cond.methodLink RX0 77 yX0_granuleSize, Cond.instanceMethod yX0_granuleSize, Cond.selects RX0 yX0_granuleSize yX0_granuleSize, Cond.code yX0_granuleSize cX0_granuleSize 1 (some .int), Cond.methodLink RX0 65 yX0_isAnyPinned, Cond.instanceMethod yX0_isAnyPinned, Cond.selects RX0 yX0_isAnyPinned yX0_isAnyPinned, Cond.code yX0_isAnyPinned cX0_isAnyPinned 4 (some .boolean), Cond.methodLink RX3 256 yX3_ofCommand, Cond.instanceMethod yX3_ofCommand, Cond.selects RX3 yX3_ofCommand yX3_ofCommand, Cond.code yX3_ofCommand cX3_ofCommand 3 (some .int), Cond.methodLink RX3 262 yX0_granuleSize, Cond.methodLink RX3 265 yX0_granulesOfTick, Cond.instanceMethod yX0_granulesOfTick, Cond.selects RX0 yX0_granulesOfTick yX0_granulesOfTick, Cond.code yX0_granulesOfTick cX0_granulesOfTick 2 (some .int), Cond.methodLink RX0 100 yX0_mostGranules, Cond.instanceMethod yX0_mostGranules, Cond.selects RX0 yX0_mostGranules yX0_mostGranules, Cond.code yX0_mostGranules cX0_mostGranules 2 (some .int), Cond.methodLink RX0 111 Lib.Math.min.name, Cond.static Lib.Math.min.name, Cond.initialized "java/lang/Math"]
def wsL_next_r4 : List Cond := [Cond.code Lib.Math.min.name Lib.Math.min.code 2 (some .int), Cond.methodLink RX0 103 yX0_granulesFrom, Cond.instanceMethod yX0_granulesFrom, Cond.selects RX0 yX0_granulesFrom yX0_granulesFrom, Cond.code yX0_granulesFrom cX0_granulesFrom 4 (some .int), Cond.methodLink RX3 118 yX0_time, Cond.instanceMethod yX0_time, Cond.selects RX0 yX0_time yX0_time, Cond.code yX0_time cX0_time 1 (some .int), Cond.methodLink RX3 259 yX0_tick, Cond.instanceMethod yX0_tick, Cond.selects RX0 yX0_tick yX0_tick, Cond.code yX0_tick cX0_tick 5 none, Cond.methodLink RX0 107 yX0_discard, Cond.instanceMethod yX0_discard, Cond.selects RX0 yX0_discard yX0_discard, Cond.code yX0_discard cX0_discard 6 none, Cond.methodLink RX0 58 yX0_dropSurplus, Cond.instanceMethod yX0_dropSurplus, Cond.selects RX0 yX0_dropSurplus yX0_dropSurplus, Cond.code yX0_dropSurplus cX0_dropSurplus 4 none, Cond.methodLink RX0 69 yX0_countRangesAhead, Cond.instanceMethod yX0_countRangesAhead, Cond.selects RX0 yX0_countRangesAhead yX0_countRangesAhead]
def wsL_next_r5 : List Cond := [Cond.code yX0_countRangesAhead cX0_countRangesAhead 6 (some .int), Cond.methodLink RX0 73 yX0_shortestRange, Cond.instanceMethod yX0_shortestRange, Cond.selects RX0 yX0_shortestRange yX0_shortestRange, Cond.code yX0_shortestRange cX0_shortestRange 5 (some .int)]
def wsL_next : List Cond := .codeWith yL_next cL_next 4 (some .int) [(0, 9, 12, 13)] :: ((wsL_next_r1 ++ (wsL_next_r2 ++ (wsL_next_r3 ++ (wsL_next_r4 ++ wsL_next_r5)))) ++ wsX30 ++ wsX00 ++ (vx_atS RX3 45 "java/lang/IllegalArgumentException" ["java/lang/RuntimeException", "java/lang/Exception"]).filter goodWord)
def wsL_goneIn_r1 : List Cond := [Cond.classLink RL 28 "java/lang/IndexOutOfBoundsException", Cond.methodLink RL 64 yX3_goneIn, Cond.instanceMethod yX3_goneIn, Cond.selects RX3 yX3_goneIn yX3_goneIn, Cond.initialized RX3, Cond.code yX3_goneIn cX3_goneIn 3 (some .int), Cond.fieldLink RX3 23 "IdleDiscards" "copy" "LIdleDiscards$Device;", Cond.fieldLink RX3 19 "IdleDiscards" "device" "LIdleDiscards$Device;", Cond.methodLink RX3 138 yX3_checkBlock, Cond.static yX3_checkBlock, Cond.code yX3_checkBlock cX3_checkBlock 1 none, Cond.classLink RX3 158 "java/lang/IndexOutOfBoundsException", Cond.initialized "java/lang/IndexOutOfBoundsException", Cond.methodLink RX3 294 yX3_isBlock, Cond.static yX3_isBlock, Cond.code yX3_isBlock cX3_isBlock 1 (some .boolean), Cond.methodLink RX3 250 yX0_copyFrom, Cond.instanceMethod yX0_copyFrom, Cond.selects RX0 yX0_copyFrom yX0_copyFrom, Cond.initialized RX0, Cond.code yX0_copyFrom cX0_copyFrom 2 none, Cond.fieldLink RX0 9 "IdleDiscards$Device" "blocks" "[I", Cond.methodLink RX0 36 arraycopyName, Cond.native arraycopyName]
def wsL_goneIn_r2 : List Cond := [Cond.static arraycopyName, Cond.initialized "java/lang/System", Cond.fieldLink RX0 15 "IdleDiscards$Device" "pinFirst" "[I", Cond.fieldLink RX0 18 "IdleDiscards$Device" "pinLength" "[I", Cond.fieldLink RX0 21 "IdleDiscards$Device" "settings" "[I", Cond.fieldLink RX0 42 "IdleDiscards$Device" "time" "I", Cond.fieldLink RX0 46 "IdleDiscards$Device" "quiet" "I", Cond.fieldLink RX0 49 "IdleDiscards$Device" "commands" "I", Cond.fieldLink RX0 52 "IdleDiscards$Device" "discarded" "I", Cond.fieldLink RX0 55 "IdleDiscards$Device" "dropped" "I", Cond.methodLink RX3 268 yX0_isQueued, Cond.instanceMethod yX0_isQueued, Cond.selects RX0 yX0_isQueued yX0_isQueued, Cond.code yX0_isQueued cX0_isQueued 2 (some .boolean), Cond.methodLink RX3 259 yX0_tick, Cond.instanceMethod yX0_tick, Cond.selects RX0 yX0_tick yX0_tick, Cond.code yX0_tick cX0_tick 5 none, Cond.methodLink RX0 93 yX0_budgetOfTick, Cond.instanceMethod yX0_budgetOfTick, Cond.selects RX0 yX0_budgetOfTick yX0_budgetOfTick, Cond.code yX0_budgetOfTick cX0_budgetOfTick 1 (some .int), Cond.methodLink RX0 96 yX0_choosePiece, Cond.instanceMethod yX0_choosePiece]
def wsL_goneIn_r3 : List Cond := [Cond.selects RX0 yX0_choosePiece yX0_choosePiece, Cond.code yX0_choosePiece cX0_choosePiece 10 (some .int), Cond.methodLink RX0 87 yX0_isDue, Cond.instanceMethod yX0_isDue, Cond.selects RX0 yX0_isDue yX0_isDue, Cond.code yX0_isDue cX0_isDue 2 (some .boolean), Cond.methodLink RX0 83 yX0_isFree, Cond.instanceMethod yX0_isFree, Cond.selects RX0 yX0_isFree yX0_isFree, Cond.code yX0_isFree cX0_isFree 5 (some .boolean), Cond.methodLink RX0 77 yX0_granuleSize, Cond.instanceMethod yX0_granuleSize, Cond.selects RX0 yX0_granuleSize yX0_granuleSize, Cond.code yX0_granuleSize cX0_granuleSize 1 (some .int), Cond.methodLink RX0 65 yX0_isAnyPinned, Cond.instanceMethod yX0_isAnyPinned, Cond.selects RX0 yX0_isAnyPinned yX0_isAnyPinned, Cond.code yX0_isAnyPinned cX0_isAnyPinned 4 (some .boolean), Cond.methodLink RX0 100 yX0_mostGranules, Cond.instanceMethod yX0_mostGranules, Cond.selects RX0 yX0_mostGranules yX0_mostGranules, Cond.code yX0_mostGranules cX0_mostGranules 2 (some .int), Cond.methodLink RX0 111 Lib.Math.min.name, Cond.static Lib.Math.min.name]
def wsL_goneIn_r4 : List Cond := [Cond.initialized "java/lang/Math", Cond.code Lib.Math.min.name Lib.Math.min.code 2 (some .int), Cond.methodLink RX0 103 yX0_granulesFrom, Cond.instanceMethod yX0_granulesFrom, Cond.selects RX0 yX0_granulesFrom yX0_granulesFrom, Cond.code yX0_granulesFrom cX0_granulesFrom 4 (some .int), Cond.methodLink RX0 107 yX0_discard, Cond.instanceMethod yX0_discard, Cond.selects RX0 yX0_discard yX0_discard, Cond.code yX0_discard cX0_discard 6 none, Cond.methodLink RX0 58 yX0_dropSurplus, Cond.instanceMethod yX0_dropSurplus, Cond.selects RX0 yX0_dropSurplus yX0_dropSurplus, Cond.code yX0_dropSurplus cX0_dropSurplus 4 none, Cond.methodLink RX0 69 yX0_countRangesAhead, Cond.instanceMethod yX0_countRangesAhead, Cond.selects RX0 yX0_countRangesAhead yX0_countRangesAhead, Cond.code yX0_countRangesAhead cX0_countRangesAhead 6 (some .int), Cond.methodLink RX0 73 yX0_shortestRange, Cond.instanceMethod yX0_shortestRange, Cond.selects RX0 yX0_shortestRange yX0_shortestRange, Cond.code yX0_shortestRange cX0_shortestRange 5 (some .int), Cond.methodLink RX3 146 yX0_isHeld, Cond.instanceMethod yX0_isHeld]
def wsL_goneIn_r5 : List Cond := [Cond.selects RX0 yX0_isHeld yX0_isHeld, Cond.code yX0_isHeld cX0_isHeld 2 (some .boolean), Cond.methodLink RX3 118 yX0_time, Cond.instanceMethod yX0_time, Cond.selects RX0 yX0_time yX0_time, Cond.code yX0_time cX0_time 1 (some .int)]
def wsL_goneIn : List Cond := .codeWith yL_goneIn cL_goneIn 4 (some .int) [(0, 9, 12, 28)] :: ((wsL_goneIn_r1 ++ (wsL_goneIn_r2 ++ (wsL_goneIn_r3 ++ (wsL_goneIn_r4 ++ wsL_goneIn_r5)))) ++ wsX30 ++ wsX00 ++ (vx_atS RX3 162 "java/lang/IndexOutOfBoundsException" ["java/lang/RuntimeException", "java/lang/Exception"]).filter goodWord)
def wsL_coming_r1 : List Cond := [Cond.classLink RL 13 "java/lang/IllegalArgumentException", Cond.methodLink RL 67 yX3_coming, Cond.instanceMethod yX3_coming, Cond.selects RX3 yX3_coming yX3_coming, Cond.initialized RX3, Cond.code yX3_coming cX3_coming 4 (some .int), Cond.classLink RX3 41 "java/lang/IllegalArgumentException", Cond.initialized "java/lang/IllegalArgumentException", Cond.fieldLink RX3 23 "IdleDiscards" "copy" "LIdleDiscards$Device;", Cond.fieldLink RX3 19 "IdleDiscards" "device" "LIdleDiscards$Device;", Cond.methodLink RX3 226 yX3_checkTicks, Cond.static yX3_checkTicks, Cond.code yX3_checkTicks cX3_checkTicks 2 none, Cond.methodLink RX3 291 yX3_isTicks, Cond.static yX3_isTicks, Cond.code yX3_isTicks cX3_isTicks 2 (some .boolean), Cond.methodLink RX3 250 yX0_copyFrom, Cond.instanceMethod yX0_copyFrom, Cond.selects RX0 yX0_copyFrom yX0_copyFrom, Cond.initialized RX0, Cond.code yX0_copyFrom cX0_copyFrom 2 none, Cond.fieldLink RX0 9 "IdleDiscards$Device" "blocks" "[I", Cond.methodLink RX0 36 arraycopyName, Cond.native arraycopyName]
def wsL_coming_r2 : List Cond := [Cond.static arraycopyName, Cond.initialized "java/lang/System", Cond.fieldLink RX0 15 "IdleDiscards$Device" "pinFirst" "[I", Cond.fieldLink RX0 18 "IdleDiscards$Device" "pinLength" "[I", Cond.fieldLink RX0 21 "IdleDiscards$Device" "settings" "[I", Cond.fieldLink RX0 42 "IdleDiscards$Device" "time" "I", Cond.fieldLink RX0 46 "IdleDiscards$Device" "quiet" "I", Cond.fieldLink RX0 49 "IdleDiscards$Device" "commands" "I", Cond.fieldLink RX0 52 "IdleDiscards$Device" "discarded" "I", Cond.fieldLink RX0 55 "IdleDiscards$Device" "dropped" "I", Cond.methodLink RX3 99 yX0_passTicks, Cond.instanceMethod yX0_passTicks, Cond.selects RX0 yX0_passTicks yX0_passTicks, Cond.code yX0_passTicks cX0_passTicks 4 (some .int), Cond.methodLink RX0 90 yX0_tick, Cond.instanceMethod yX0_tick, Cond.selects RX0 yX0_tick yX0_tick, Cond.code yX0_tick cX0_tick 5 none, Cond.methodLink RX0 93 yX0_budgetOfTick, Cond.instanceMethod yX0_budgetOfTick, Cond.selects RX0 yX0_budgetOfTick yX0_budgetOfTick, Cond.code yX0_budgetOfTick cX0_budgetOfTick 1 (some .int), Cond.methodLink RX0 96 yX0_choosePiece, Cond.instanceMethod yX0_choosePiece]
def wsL_coming_r3 : List Cond := [Cond.selects RX0 yX0_choosePiece yX0_choosePiece, Cond.code yX0_choosePiece cX0_choosePiece 10 (some .int), Cond.methodLink RX0 87 yX0_isDue, Cond.instanceMethod yX0_isDue, Cond.selects RX0 yX0_isDue yX0_isDue, Cond.code yX0_isDue cX0_isDue 2 (some .boolean), Cond.methodLink RX0 83 yX0_isFree, Cond.instanceMethod yX0_isFree, Cond.selects RX0 yX0_isFree yX0_isFree, Cond.code yX0_isFree cX0_isFree 5 (some .boolean), Cond.methodLink RX0 77 yX0_granuleSize, Cond.instanceMethod yX0_granuleSize, Cond.selects RX0 yX0_granuleSize yX0_granuleSize, Cond.code yX0_granuleSize cX0_granuleSize 1 (some .int), Cond.methodLink RX0 65 yX0_isAnyPinned, Cond.instanceMethod yX0_isAnyPinned, Cond.selects RX0 yX0_isAnyPinned yX0_isAnyPinned, Cond.code yX0_isAnyPinned cX0_isAnyPinned 4 (some .boolean), Cond.methodLink RX0 100 yX0_mostGranules, Cond.instanceMethod yX0_mostGranules, Cond.selects RX0 yX0_mostGranules yX0_mostGranules, Cond.code yX0_mostGranules cX0_mostGranules 2 (some .int), Cond.methodLink RX0 111 Lib.Math.min.name, Cond.static Lib.Math.min.name]
def wsL_coming_r4 : List Cond := [Cond.initialized "java/lang/Math", Cond.code Lib.Math.min.name Lib.Math.min.code 2 (some .int), Cond.methodLink RX0 103 yX0_granulesFrom, Cond.instanceMethod yX0_granulesFrom, Cond.selects RX0 yX0_granulesFrom yX0_granulesFrom, Cond.code yX0_granulesFrom cX0_granulesFrom 4 (some .int), Cond.methodLink RX0 107 yX0_discard, Cond.instanceMethod yX0_discard, Cond.selects RX0 yX0_discard yX0_discard, Cond.code yX0_discard cX0_discard 6 none, Cond.methodLink RX0 58 yX0_dropSurplus, Cond.instanceMethod yX0_dropSurplus, Cond.selects RX0 yX0_dropSurplus yX0_dropSurplus, Cond.code yX0_dropSurplus cX0_dropSurplus 4 none, Cond.methodLink RX0 69 yX0_countRangesAhead, Cond.instanceMethod yX0_countRangesAhead, Cond.selects RX0 yX0_countRangesAhead yX0_countRangesAhead, Cond.code yX0_countRangesAhead cX0_countRangesAhead 6 (some .int), Cond.methodLink RX0 73 yX0_shortestRange, Cond.instanceMethod yX0_shortestRange, Cond.selects RX0 yX0_shortestRange yX0_shortestRange, Cond.code yX0_shortestRange cX0_shortestRange 5 (some .int), Cond.methodLink RX3 124 yX0_commands, Cond.instanceMethod yX0_commands]
def wsL_coming_r5 : List Cond := [Cond.selects RX0 yX0_commands yX0_commands, Cond.code yX0_commands cX0_commands 1 (some .int), Cond.methodLink RX3 112 yX0_countRanges, Cond.instanceMethod yX0_countRanges, Cond.selects RX0 yX0_countRanges yX0_countRanges, Cond.code yX0_countRanges cX0_countRanges 1 (some .int), Cond.methodLink RX3 115 yX0_countQueued, Cond.instanceMethod yX0_countQueued, Cond.selects RX0 yX0_countQueued yX0_countQueued, Cond.code yX0_countQueued cX0_countQueued 3 (some .int)]
def wsL_coming : List Cond := .codeWith yL_coming cL_coming 5 (some .int) [(0, 10, 13, 13)] :: ((wsL_coming_r1 ++ (wsL_coming_r2 ++ (wsL_coming_r3 ++ (wsL_coming_r4 ++ wsL_coming_r5)))) ++ wsX30 ++ wsX00 ++ (vx_atS RX3 45 "java/lang/IllegalArgumentException" ["java/lang/RuntimeException", "java/lang/Exception"]).filter goodWord)
def wsL_bestGranule_r1 : List Cond := [Cond.classLink RL 13 "java/lang/IllegalArgumentException", Cond.methodLink RL 70 yX3_bestGranule, Cond.instanceMethod yX3_bestGranule, Cond.selects RX3 yX3_bestGranule yX3_bestGranule, Cond.initialized RX3, Cond.code yX3_bestGranule cX3_bestGranule 6 (some .int), Cond.fieldLink RX3 273 "IdleDiscards" "GREATEST_SETTINGS" "[I", Cond.fieldLink RX3 23 "IdleDiscards" "copy" "LIdleDiscards$Device;", Cond.fieldLink RX3 19 "IdleDiscards" "device" "LIdleDiscards$Device;", Cond.methodLink RX3 226 yX3_checkTicks, Cond.static yX3_checkTicks, Cond.code yX3_checkTicks cX3_checkTicks 2 none, Cond.classLink RX3 41 "java/lang/IllegalArgumentException", Cond.initialized "java/lang/IllegalArgumentException", Cond.methodLink RX3 291 yX3_isTicks, Cond.static yX3_isTicks, Cond.code yX3_isTicks cX3_isTicks 2 (some .boolean), Cond.methodLink RX3 250 yX0_copyFrom, Cond.instanceMethod yX0_copyFrom, Cond.selects RX0 yX0_copyFrom yX0_copyFrom, Cond.initialized RX0, Cond.code yX0_copyFrom cX0_copyFrom 2 none, Cond.fieldLink RX0 9 "IdleDiscards$Device" "blocks" "[I", Cond.methodLink RX0 36 arraycopyName]
def wsL_bestGranule_r2 : List Cond := [Cond.native arraycopyName, Cond.static arraycopyName, Cond.initialized "java/lang/System", Cond.fieldLink RX0 15 "IdleDiscards$Device" "pinFirst" "[I", Cond.fieldLink RX0 18 "IdleDiscards$Device" "pinLength" "[I", Cond.fieldLink RX0 21 "IdleDiscards$Device" "settings" "[I", Cond.fieldLink RX0 42 "IdleDiscards$Device" "time" "I", Cond.fieldLink RX0 46 "IdleDiscards$Device" "quiet" "I", Cond.fieldLink RX0 49 "IdleDiscards$Device" "commands" "I", Cond.fieldLink RX0 52 "IdleDiscards$Device" "discarded" "I", Cond.fieldLink RX0 55 "IdleDiscards$Device" "dropped" "I", Cond.methodLink RX3 237 yX0_changeSetting, Cond.instanceMethod yX0_changeSetting, Cond.selects RX0 yX0_changeSetting yX0_changeSetting, Cond.code yX0_changeSetting cX0_changeSetting 3 none, Cond.methodLink RX3 99 yX0_passTicks, Cond.instanceMethod yX0_passTicks, Cond.selects RX0 yX0_passTicks yX0_passTicks, Cond.code yX0_passTicks cX0_passTicks 4 (some .int), Cond.methodLink RX0 90 yX0_tick, Cond.instanceMethod yX0_tick, Cond.selects RX0 yX0_tick yX0_tick, Cond.code yX0_tick cX0_tick 5 none, Cond.methodLink RX0 93 yX0_budgetOfTick]
def wsL_bestGranule_r3 : List Cond := [Cond.instanceMethod yX0_budgetOfTick, Cond.selects RX0 yX0_budgetOfTick yX0_budgetOfTick, Cond.code yX0_budgetOfTick cX0_budgetOfTick 1 (some .int), Cond.methodLink RX0 96 yX0_choosePiece, Cond.instanceMethod yX0_choosePiece, Cond.selects RX0 yX0_choosePiece yX0_choosePiece, Cond.code yX0_choosePiece cX0_choosePiece 10 (some .int), Cond.methodLink RX0 87 yX0_isDue, Cond.instanceMethod yX0_isDue, Cond.selects RX0 yX0_isDue yX0_isDue, Cond.code yX0_isDue cX0_isDue 2 (some .boolean), Cond.methodLink RX0 83 yX0_isFree, Cond.instanceMethod yX0_isFree, Cond.selects RX0 yX0_isFree yX0_isFree, Cond.code yX0_isFree cX0_isFree 5 (some .boolean), Cond.methodLink RX0 77 yX0_granuleSize, Cond.instanceMethod yX0_granuleSize, Cond.selects RX0 yX0_granuleSize yX0_granuleSize, Cond.code yX0_granuleSize cX0_granuleSize 1 (some .int), Cond.methodLink RX0 65 yX0_isAnyPinned, Cond.instanceMethod yX0_isAnyPinned, Cond.selects RX0 yX0_isAnyPinned yX0_isAnyPinned, Cond.code yX0_isAnyPinned cX0_isAnyPinned 4 (some .boolean), Cond.methodLink RX0 100 yX0_mostGranules]
def wsL_bestGranule_r4 : List Cond := [Cond.instanceMethod yX0_mostGranules, Cond.selects RX0 yX0_mostGranules yX0_mostGranules, Cond.code yX0_mostGranules cX0_mostGranules 2 (some .int), Cond.methodLink RX0 111 Lib.Math.min.name, Cond.static Lib.Math.min.name, Cond.initialized "java/lang/Math", Cond.code Lib.Math.min.name Lib.Math.min.code 2 (some .int), Cond.methodLink RX0 103 yX0_granulesFrom, Cond.instanceMethod yX0_granulesFrom, Cond.selects RX0 yX0_granulesFrom yX0_granulesFrom, Cond.code yX0_granulesFrom cX0_granulesFrom 4 (some .int), Cond.methodLink RX0 107 yX0_discard, Cond.instanceMethod yX0_discard, Cond.selects RX0 yX0_discard yX0_discard, Cond.code yX0_discard cX0_discard 6 none, Cond.methodLink RX0 58 yX0_dropSurplus, Cond.instanceMethod yX0_dropSurplus, Cond.selects RX0 yX0_dropSurplus yX0_dropSurplus, Cond.code yX0_dropSurplus cX0_dropSurplus 4 none, Cond.methodLink RX0 69 yX0_countRangesAhead, Cond.instanceMethod yX0_countRangesAhead, Cond.selects RX0 yX0_countRangesAhead yX0_countRangesAhead, Cond.code yX0_countRangesAhead cX0_countRangesAhead 6 (some .int), Cond.methodLink RX0 73 yX0_shortestRange]
def wsL_bestGranule_r5 : List Cond := [Cond.instanceMethod yX0_shortestRange, Cond.selects RX0 yX0_shortestRange yX0_shortestRange, Cond.code yX0_shortestRange cX0_shortestRange 5 (some .int)]
def wsL_bestGranule : List Cond := .codeWith yL_bestGranule cL_bestGranule 4 (some .int) [(0, 9, 12, 13)] :: ((wsL_bestGranule_r1 ++ (wsL_bestGranule_r2 ++ (wsL_bestGranule_r3 ++ (wsL_bestGranule_r4 ++ wsL_bestGranule_r5)))) ++ wsX30 ++ wsX00 ++ (vx_atS RX3 45 "java/lang/IllegalArgumentException" ["java/lang/RuntimeException", "java/lang/Exception"]).filter goodWord)
def wsL_ifWritten_r1 : List Cond := [Cond.classLink RL 28 "java/lang/IndexOutOfBoundsException", Cond.classLink RL 13 "java/lang/IllegalArgumentException", Cond.classLink RL 15 "java/lang/IllegalStateException", Cond.methodLink RL 73 yX3_ifWritten, Cond.instanceMethod yX3_ifWritten, Cond.selects RX3 yX3_ifWritten yX3_ifWritten, Cond.initialized RX3, Cond.code yX3_ifWritten cX3_ifWritten 3 (some .int), Cond.fieldLink RX3 23 "IdleDiscards" "copy" "LIdleDiscards$Device;", Cond.fieldLink RX3 19 "IdleDiscards" "device" "LIdleDiscards$Device;", Cond.methodLink RX3 206 yX3_checkSpan, Cond.static yX3_checkSpan, Cond.code yX3_checkSpan cX3_checkSpan 2 none, Cond.classLink RX3 41 "java/lang/IllegalArgumentException", Cond.initialized "java/lang/IllegalArgumentException", Cond.classLink RX3 52 "java/lang/IllegalStateException", Cond.initialized "java/lang/IllegalStateException", Cond.methodLink RX3 138 yX3_checkBlock, Cond.static yX3_checkBlock, Cond.code yX3_checkBlock cX3_checkBlock 1 none, Cond.classLink RX3 158 "java/lang/IndexOutOfBoundsException", Cond.initialized "java/lang/IndexOutOfBoundsException", Cond.methodLink RX3 294 yX3_isBlock, Cond.static yX3_isBlock]
def wsL_ifWritten_r2 : List Cond := [Cond.code yX3_isBlock cX3_isBlock 1 (some .boolean), Cond.methodLink RX3 311 yX3_isLength, Cond.static yX3_isLength, Cond.code yX3_isLength cX3_isLength 1 (some .boolean), Cond.methodLink RX3 318 yX3_isSpan, Cond.static yX3_isSpan, Cond.code yX3_isSpan cX3_isSpan 2 (some .boolean), Cond.methodLink RX3 250 yX0_copyFrom, Cond.instanceMethod yX0_copyFrom, Cond.selects RX0 yX0_copyFrom yX0_copyFrom, Cond.initialized RX0, Cond.code yX0_copyFrom cX0_copyFrom 2 none, Cond.fieldLink RX0 9 "IdleDiscards$Device" "blocks" "[I", Cond.methodLink RX0 36 arraycopyName, Cond.native arraycopyName, Cond.static arraycopyName, Cond.initialized "java/lang/System", Cond.fieldLink RX0 15 "IdleDiscards$Device" "pinFirst" "[I", Cond.fieldLink RX0 18 "IdleDiscards$Device" "pinLength" "[I", Cond.fieldLink RX0 21 "IdleDiscards$Device" "settings" "[I", Cond.fieldLink RX0 42 "IdleDiscards$Device" "time" "I", Cond.fieldLink RX0 46 "IdleDiscards$Device" "quiet" "I", Cond.fieldLink RX0 49 "IdleDiscards$Device" "commands" "I", Cond.fieldLink RX0 52 "IdleDiscards$Device" "discarded" "I"]
def wsL_ifWritten_r3 : List Cond := [Cond.fieldLink RX0 55 "IdleDiscards$Device" "dropped" "I", Cond.methodLink RX3 214 yX0_writeSpan, Cond.instanceMethod yX0_writeSpan, Cond.selects RX0 yX0_writeSpan yX0_writeSpan, Cond.code yX0_writeSpan cX0_writeSpan 5 (some .int), Cond.methodLink RX0 58 yX0_dropSurplus, Cond.instanceMethod yX0_dropSurplus, Cond.selects RX0 yX0_dropSurplus yX0_dropSurplus, Cond.code yX0_dropSurplus cX0_dropSurplus 4 none, Cond.methodLink RX0 69 yX0_countRangesAhead, Cond.instanceMethod yX0_countRangesAhead, Cond.selects RX0 yX0_countRangesAhead yX0_countRangesAhead, Cond.code yX0_countRangesAhead cX0_countRangesAhead 6 (some .int), Cond.methodLink RX0 73 yX0_shortestRange, Cond.instanceMethod yX0_shortestRange, Cond.selects RX0 yX0_shortestRange yX0_shortestRange, Cond.code yX0_shortestRange cX0_shortestRange 5 (some .int), Cond.methodLink RX3 112 yX0_countRanges, Cond.instanceMethod yX0_countRanges, Cond.selects RX0 yX0_countRanges yX0_countRanges, Cond.code yX0_countRanges cX0_countRanges 1 (some .int)]
def wsL_ifWritten : List Cond := .codeWith yL_ifWritten cL_ifWritten 5 (some .int) [(0, 10, 13, 28), (0, 10, 17, 13), (0, 10, 21, 15)] :: ((wsL_ifWritten_r1 ++ (wsL_ifWritten_r2 ++ wsL_ifWritten_r3)) ++ wsX30 ++ wsX00 ++ (vx_atS RX3 45 "java/lang/IllegalArgumentException" ["java/lang/RuntimeException", "java/lang/Exception"]).filter goodWord ++ (vx_atS RX3 56 "java/lang/IllegalStateException" ["java/lang/RuntimeException", "java/lang/Exception"]).filter goodWord ++ (vx_atS RX3 162 "java/lang/IndexOutOfBoundsException" ["java/lang/RuntimeException", "java/lang/Exception"]).filter goodWord)
def wsL_runScript_r1 : List Cond := [Cond.classLink RL 13 "java/lang/IllegalArgumentException", Cond.methodLink RL 76 yX3_runScript, Cond.instanceMethod yX3_runScript, Cond.selects RX3 yX3_runScript yX3_runScript, Cond.initialized RX3, Cond.code yX3_runScript cX3_runScript 6 (some .int), Cond.classLink RX3 41 "java/lang/IllegalArgumentException", Cond.initialized "java/lang/IllegalArgumentException", Cond.fieldLink RX3 23 "IdleDiscards" "copy" "LIdleDiscards$Device;", Cond.fieldLink RX3 19 "IdleDiscards" "device" "LIdleDiscards$Device;", Cond.constantLong RX3 285 (1000000), Cond.methodLink RX3 279 yX3_groupsFrom, Cond.static yX3_groupsFrom, Cond.code yX3_groupsFrom cX3_groupsFrom 6 (some .long), Cond.methodLink RX3 250 yX0_copyFrom, Cond.instanceMethod yX0_copyFrom, Cond.selects RX0 yX0_copyFrom yX0_copyFrom, Cond.initialized RX0, Cond.code yX0_copyFrom cX0_copyFrom 2 none, Cond.fieldLink RX0 9 "IdleDiscards$Device" "blocks" "[I", Cond.methodLink RX0 36 arraycopyName, Cond.native arraycopyName, Cond.static arraycopyName, Cond.initialized "java/lang/System"]
def wsL_runScript_r2 : List Cond := [Cond.fieldLink RX0 15 "IdleDiscards$Device" "pinFirst" "[I", Cond.fieldLink RX0 18 "IdleDiscards$Device" "pinLength" "[I", Cond.fieldLink RX0 21 "IdleDiscards$Device" "settings" "[I", Cond.fieldLink RX0 42 "IdleDiscards$Device" "time" "I", Cond.fieldLink RX0 46 "IdleDiscards$Device" "quiet" "I", Cond.fieldLink RX0 49 "IdleDiscards$Device" "commands" "I", Cond.fieldLink RX0 52 "IdleDiscards$Device" "discarded" "I", Cond.fieldLink RX0 55 "IdleDiscards$Device" "dropped" "I", Cond.methodLink RX3 287 yX3_doScriptCommand, Cond.instanceMethod yX3_doScriptCommand, Cond.selects RX3 yX3_doScriptCommand yX3_doScriptCommand, Cond.code yX3_doScriptCommand cX3_doScriptCommand 3 (some .boolean), Cond.constant RX3 290 (100000), Cond.methodLink RX3 92 yX3_writeIfAllowed, Cond.static yX3_writeIfAllowed, Cond.code yX3_writeIfAllowed cX3_writeIfAllowed 3 (some .boolean), Cond.methodLink RX3 318 yX3_isSpan, Cond.static yX3_isSpan, Cond.code yX3_isSpan cX3_isSpan 2 (some .boolean), Cond.methodLink RX3 294 yX3_isBlock, Cond.static yX3_isBlock, Cond.code yX3_isBlock cX3_isBlock 1 (some .boolean), Cond.methodLink RX3 311 yX3_isLength, Cond.static yX3_isLength]
def wsL_runScript_r3 : List Cond := [Cond.code yX3_isLength cX3_isLength 1 (some .boolean), Cond.methodLink RX3 214 yX0_writeSpan, Cond.instanceMethod yX0_writeSpan, Cond.selects RX0 yX0_writeSpan yX0_writeSpan, Cond.code yX0_writeSpan cX0_writeSpan 5 (some .int), Cond.methodLink RX0 58 yX0_dropSurplus, Cond.instanceMethod yX0_dropSurplus, Cond.selects RX0 yX0_dropSurplus yX0_dropSurplus, Cond.code yX0_dropSurplus cX0_dropSurplus 4 none, Cond.methodLink RX0 69 yX0_countRangesAhead, Cond.instanceMethod yX0_countRangesAhead, Cond.selects RX0 yX0_countRangesAhead yX0_countRangesAhead, Cond.code yX0_countRangesAhead cX0_countRangesAhead 6 (some .int), Cond.methodLink RX0 73 yX0_shortestRange, Cond.instanceMethod yX0_shortestRange, Cond.selects RX0 yX0_shortestRange yX0_shortestRange, Cond.code yX0_shortestRange cX0_shortestRange 5 (some .int), Cond.methodLink RX3 96 yX3_freeIfAllowed, Cond.static yX3_freeIfAllowed, Cond.code yX3_freeIfAllowed cX3_freeIfAllowed 3 (some .boolean), Cond.methodLink RX3 217 yX0_freeSpan, Cond.instanceMethod yX0_freeSpan, Cond.selects RX0 yX0_freeSpan yX0_freeSpan, Cond.code yX0_freeSpan cX0_freeSpan 5 (some .int)]
def wsL_runScript_r4 : List Cond := [Cond.methodLink RX0 61 yX0_queueNow, Cond.instanceMethod yX0_queueNow, Cond.selects RX0 yX0_queueNow yX0_queueNow, Cond.code yX0_queueNow cX0_queueNow 3 none, Cond.methodLink RX3 291 yX3_isTicks, Cond.static yX3_isTicks, Cond.code yX3_isTicks cX3_isTicks 2 (some .boolean), Cond.methodLink RX3 99 yX0_passTicks, Cond.instanceMethod yX0_passTicks, Cond.selects RX0 yX0_passTicks yX0_passTicks, Cond.code yX0_passTicks cX0_passTicks 4 (some .int), Cond.methodLink RX0 90 yX0_tick, Cond.instanceMethod yX0_tick, Cond.selects RX0 yX0_tick yX0_tick, Cond.code yX0_tick cX0_tick 5 none, Cond.methodLink RX0 93 yX0_budgetOfTick, Cond.instanceMethod yX0_budgetOfTick, Cond.selects RX0 yX0_budgetOfTick yX0_budgetOfTick, Cond.code yX0_budgetOfTick cX0_budgetOfTick 1 (some .int), Cond.methodLink RX0 96 yX0_choosePiece, Cond.instanceMethod yX0_choosePiece, Cond.selects RX0 yX0_choosePiece yX0_choosePiece, Cond.code yX0_choosePiece cX0_choosePiece 10 (some .int), Cond.methodLink RX0 87 yX0_isDue]
def wsL_runScript_r5 : List Cond := [Cond.instanceMethod yX0_isDue, Cond.selects RX0 yX0_isDue yX0_isDue, Cond.code yX0_isDue cX0_isDue 2 (some .boolean), Cond.methodLink RX0 83 yX0_isFree, Cond.instanceMethod yX0_isFree, Cond.selects RX0 yX0_isFree yX0_isFree, Cond.code yX0_isFree cX0_isFree 5 (some .boolean), Cond.methodLink RX0 77 yX0_granuleSize, Cond.instanceMethod yX0_granuleSize, Cond.selects RX0 yX0_granuleSize yX0_granuleSize, Cond.code yX0_granuleSize cX0_granuleSize 1 (some .int), Cond.methodLink RX0 65 yX0_isAnyPinned, Cond.instanceMethod yX0_isAnyPinned, Cond.selects RX0 yX0_isAnyPinned yX0_isAnyPinned, Cond.code yX0_isAnyPinned cX0_isAnyPinned 4 (some .boolean), Cond.methodLink RX0 100 yX0_mostGranules, Cond.instanceMethod yX0_mostGranules, Cond.selects RX0 yX0_mostGranules yX0_mostGranules, Cond.code yX0_mostGranules cX0_mostGranules 2 (some .int), Cond.methodLink RX0 111 Lib.Math.min.name, Cond.static Lib.Math.min.name, Cond.initialized "java/lang/Math", Cond.code Lib.Math.min.name Lib.Math.min.code 2 (some .int), Cond.methodLink RX0 103 yX0_granulesFrom]
def wsL_runScript_r6 : List Cond := [Cond.instanceMethod yX0_granulesFrom, Cond.selects RX0 yX0_granulesFrom yX0_granulesFrom, Cond.code yX0_granulesFrom cX0_granulesFrom 4 (some .int), Cond.methodLink RX0 107 yX0_discard, Cond.instanceMethod yX0_discard, Cond.selects RX0 yX0_discard yX0_discard, Cond.code yX0_discard cX0_discard 6 none, Cond.methodLink RX3 106 yX3_setIfAllowed, Cond.static yX3_setIfAllowed, Cond.code yX3_setIfAllowed cX3_setIfAllowed 3 (some .boolean), Cond.methodLink RX3 232 yX3_isValue, Cond.static yX3_isValue, Cond.code yX3_isValue cX3_isValue 2 (some .boolean), Cond.fieldLink RX3 273 "IdleDiscards" "GREATEST_SETTINGS" "[I", Cond.methodLink RX3 198 yX3_isSetting, Cond.static yX3_isSetting, Cond.code yX3_isSetting cX3_isSetting 1 (some .boolean), Cond.methodLink RX3 237 yX0_changeSetting, Cond.instanceMethod yX0_changeSetting, Cond.selects RX0 yX0_changeSetting yX0_changeSetting, Cond.code yX0_changeSetting cX0_changeSetting 3 none, Cond.methodLink RX3 229 yX0_sendAll, Cond.instanceMethod yX0_sendAll, Cond.selects RX0 yX0_sendAll yX0_sendAll]
def wsL_runScript_r7 : List Cond := [Cond.code yX0_sendAll cX0_sendAll 4 (some .int), Cond.methodLink RX3 146 yX0_isHeld, Cond.instanceMethod yX0_isHeld, Cond.selects RX0 yX0_isHeld yX0_isHeld, Cond.code yX0_isHeld cX0_isHeld 2 (some .boolean), Cond.methodLink RX3 115 yX0_countQueued, Cond.instanceMethod yX0_countQueued, Cond.selects RX0 yX0_countQueued yX0_countQueued, Cond.code yX0_countQueued cX0_countQueued 3 (some .int), Cond.methodLink RX3 112 yX0_countRanges, Cond.instanceMethod yX0_countRanges, Cond.selects RX0 yX0_countRanges yX0_countRanges, Cond.code yX0_countRanges cX0_countRanges 1 (some .int), Cond.methodLink RX3 142 yX0_isAlive, Cond.instanceMethod yX0_isAlive, Cond.selects RX0 yX0_isAlive yX0_isAlive, Cond.code yX0_isAlive cX0_isAlive 2 (some .boolean)]
def wsL_runScript : List Cond := .codeWith yL_runScript cL_runScript 6 (some .int) [(0, 11, 14, 13)] :: ((wsL_runScript_r1 ++ (wsL_runScript_r2 ++ (wsL_runScript_r3 ++ (wsL_runScript_r4 ++ (wsL_runScript_r5 ++ (wsL_runScript_r6 ++ wsL_runScript_r7)))))) ++ wsX30 ++ wsX00 ++ (vx_atS RX3 45 "java/lang/IllegalArgumentException" ["java/lang/RuntimeException", "java/lang/Exception"]).filter goodWord)
def wsL_simulate_r1 : List Cond := [Cond.classLink RL 13 "java/lang/IllegalArgumentException", Cond.methodLink RL 80 yX3_simulate, Cond.instanceMethod yX3_simulate, Cond.selects RX3 yX3_simulate yX3_simulate, Cond.initialized RX3, Cond.code yX3_simulate cX3_simulate 7 (some .int), Cond.classLink RX3 41 "java/lang/IllegalArgumentException", Cond.initialized "java/lang/IllegalArgumentException", Cond.fieldLink RX3 23 "IdleDiscards" "copy" "LIdleDiscards$Device;", Cond.fieldLink RX3 19 "IdleDiscards" "device" "LIdleDiscards$Device;", Cond.constantLong RX3 299 (6364136223846793005), Cond.constantLong RX3 301 (1442695040888963407), Cond.methodLink RX3 250 yX0_copyFrom, Cond.instanceMethod yX0_copyFrom, Cond.selects RX0 yX0_copyFrom yX0_copyFrom, Cond.initialized RX0, Cond.code yX0_copyFrom cX0_copyFrom 2 none, Cond.fieldLink RX0 9 "IdleDiscards$Device" "blocks" "[I", Cond.methodLink RX0 36 arraycopyName, Cond.native arraycopyName, Cond.static arraycopyName, Cond.initialized "java/lang/System", Cond.fieldLink RX0 15 "IdleDiscards$Device" "pinFirst" "[I", Cond.fieldLink RX0 18 "IdleDiscards$Device" "pinLength" "[I"]
def wsL_simulate_r2 : List Cond := [Cond.fieldLink RX0 21 "IdleDiscards$Device" "settings" "[I", Cond.fieldLink RX0 42 "IdleDiscards$Device" "time" "I", Cond.fieldLink RX0 46 "IdleDiscards$Device" "quiet" "I", Cond.fieldLink RX0 49 "IdleDiscards$Device" "commands" "I", Cond.fieldLink RX0 52 "IdleDiscards$Device" "discarded" "I", Cond.fieldLink RX0 55 "IdleDiscards$Device" "dropped" "I", Cond.methodLink RX3 303 yX3_takeTurn, Cond.instanceMethod yX3_takeTurn, Cond.selects RX3 yX3_takeTurn yX3_takeTurn, Cond.code yX3_takeTurn cX3_takeTurn 4 none, Cond.methodLink RX3 92 yX3_writeIfAllowed, Cond.static yX3_writeIfAllowed, Cond.code yX3_writeIfAllowed cX3_writeIfAllowed 3 (some .boolean), Cond.methodLink RX3 318 yX3_isSpan, Cond.static yX3_isSpan, Cond.code yX3_isSpan cX3_isSpan 2 (some .boolean), Cond.methodLink RX3 294 yX3_isBlock, Cond.static yX3_isBlock, Cond.code yX3_isBlock cX3_isBlock 1 (some .boolean), Cond.methodLink RX3 311 yX3_isLength, Cond.static yX3_isLength, Cond.code yX3_isLength cX3_isLength 1 (some .boolean), Cond.methodLink RX3 214 yX0_writeSpan, Cond.instanceMethod yX0_writeSpan]
def wsL_simulate_r3 : List Cond := [Cond.selects RX0 yX0_writeSpan yX0_writeSpan, Cond.code yX0_writeSpan cX0_writeSpan 5 (some .int), Cond.methodLink RX0 58 yX0_dropSurplus, Cond.instanceMethod yX0_dropSurplus, Cond.selects RX0 yX0_dropSurplus yX0_dropSurplus, Cond.code yX0_dropSurplus cX0_dropSurplus 4 none, Cond.methodLink RX0 69 yX0_countRangesAhead, Cond.instanceMethod yX0_countRangesAhead, Cond.selects RX0 yX0_countRangesAhead yX0_countRangesAhead, Cond.code yX0_countRangesAhead cX0_countRangesAhead 6 (some .int), Cond.methodLink RX0 73 yX0_shortestRange, Cond.instanceMethod yX0_shortestRange, Cond.selects RX0 yX0_shortestRange yX0_shortestRange, Cond.code yX0_shortestRange cX0_shortestRange 5 (some .int), Cond.methodLink RX3 96 yX3_freeIfAllowed, Cond.static yX3_freeIfAllowed, Cond.code yX3_freeIfAllowed cX3_freeIfAllowed 3 (some .boolean), Cond.methodLink RX3 217 yX0_freeSpan, Cond.instanceMethod yX0_freeSpan, Cond.selects RX0 yX0_freeSpan yX0_freeSpan, Cond.code yX0_freeSpan cX0_freeSpan 5 (some .int), Cond.methodLink RX0 61 yX0_queueNow, Cond.instanceMethod yX0_queueNow, Cond.selects RX0 yX0_queueNow yX0_queueNow]
def wsL_simulate_r4 : List Cond := [Cond.code yX0_queueNow cX0_queueNow 3 none, Cond.methodLink RX3 102 yX3_pinIfAllowed, Cond.static yX3_pinIfAllowed, Cond.code yX3_pinIfAllowed cX3_pinIfAllowed 4 (some .boolean), Cond.methodLink RX3 323 yX3_isPin, Cond.static yX3_isPin, Cond.code yX3_isPin cX3_isPin 1 (some .boolean), Cond.methodLink RX3 220 yX0_pinSpan, Cond.instanceMethod yX0_pinSpan, Cond.selects RX0 yX0_pinSpan yX0_pinSpan, Cond.code yX0_pinSpan cX0_pinSpan 4 none, Cond.methodLink RX3 99 yX0_passTicks, Cond.instanceMethod yX0_passTicks, Cond.selects RX0 yX0_passTicks yX0_passTicks, Cond.code yX0_passTicks cX0_passTicks 4 (some .int), Cond.methodLink RX0 90 yX0_tick, Cond.instanceMethod yX0_tick, Cond.selects RX0 yX0_tick yX0_tick, Cond.code yX0_tick cX0_tick 5 none, Cond.methodLink RX0 93 yX0_budgetOfTick, Cond.instanceMethod yX0_budgetOfTick, Cond.selects RX0 yX0_budgetOfTick yX0_budgetOfTick, Cond.code yX0_budgetOfTick cX0_budgetOfTick 1 (some .int), Cond.methodLink RX0 96 yX0_choosePiece]
def wsL_simulate_r5 : List Cond := [Cond.instanceMethod yX0_choosePiece, Cond.selects RX0 yX0_choosePiece yX0_choosePiece, Cond.code yX0_choosePiece cX0_choosePiece 10 (some .int), Cond.methodLink RX0 87 yX0_isDue, Cond.instanceMethod yX0_isDue, Cond.selects RX0 yX0_isDue yX0_isDue, Cond.code yX0_isDue cX0_isDue 2 (some .boolean), Cond.methodLink RX0 83 yX0_isFree, Cond.instanceMethod yX0_isFree, Cond.selects RX0 yX0_isFree yX0_isFree, Cond.code yX0_isFree cX0_isFree 5 (some .boolean), Cond.methodLink RX0 77 yX0_granuleSize, Cond.instanceMethod yX0_granuleSize, Cond.selects RX0 yX0_granuleSize yX0_granuleSize, Cond.code yX0_granuleSize cX0_granuleSize 1 (some .int), Cond.methodLink RX0 65 yX0_isAnyPinned, Cond.instanceMethod yX0_isAnyPinned, Cond.selects RX0 yX0_isAnyPinned yX0_isAnyPinned, Cond.code yX0_isAnyPinned cX0_isAnyPinned 4 (some .boolean), Cond.methodLink RX0 100 yX0_mostGranules, Cond.instanceMethod yX0_mostGranules, Cond.selects RX0 yX0_mostGranules yX0_mostGranules, Cond.code yX0_mostGranules cX0_mostGranules 2 (some .int), Cond.methodLink RX0 111 Lib.Math.min.name]
def wsL_simulate_r6 : List Cond := [Cond.static Lib.Math.min.name, Cond.initialized "java/lang/Math", Cond.code Lib.Math.min.name Lib.Math.min.code 2 (some .int), Cond.methodLink RX0 103 yX0_granulesFrom, Cond.instanceMethod yX0_granulesFrom, Cond.selects RX0 yX0_granulesFrom yX0_granulesFrom, Cond.code yX0_granulesFrom cX0_granulesFrom 4 (some .int), Cond.methodLink RX0 107 yX0_discard, Cond.instanceMethod yX0_discard, Cond.selects RX0 yX0_discard yX0_discard, Cond.code yX0_discard cX0_discard 6 none, Cond.methodLink RX3 127 yX0_discarded, Cond.instanceMethod yX0_discarded, Cond.selects RX0 yX0_discarded yX0_discarded, Cond.code yX0_discarded cX0_discarded 1 (some .int), Cond.methodLink RX3 115 yX0_countQueued, Cond.instanceMethod yX0_countQueued, Cond.selects RX0 yX0_countQueued yX0_countQueued, Cond.code yX0_countQueued cX0_countQueued 3 (some .int)]
def wsL_simulate : List Cond := .codeWith yL_simulate cL_simulate 6 (some .int) [(0, 11, 14, 13)] :: ((wsL_simulate_r1 ++ (wsL_simulate_r2 ++ (wsL_simulate_r3 ++ (wsL_simulate_r4 ++ (wsL_simulate_r5 ++ wsL_simulate_r6))))) ++ wsX30 ++ wsX00 ++ (vx_atS RX3 45 "java/lang/IllegalArgumentException" ["java/lang/RuntimeException", "java/lang/Exception"]).filter goodWord)
def wsL_save_r1 : List Cond := [Cond.classLink RL 28 "java/lang/IndexOutOfBoundsException", Cond.methodLink RL 84 yX3_save, Cond.instanceMethod yX3_save, Cond.selects RX3 yX3_save yX3_save, Cond.initialized RX3, Cond.code yX3_save cX3_save 2 (some .int), Cond.fieldLink RX3 33 "IdleDiscards" "slots" "[LIdleDiscards$Device;", Cond.fieldLink RX3 19 "IdleDiscards" "device" "LIdleDiscards$Device;", Cond.fieldLink RX3 37 "IdleDiscards" "slotUsed" "[Z", Cond.methodLink RX3 306 yX3_checkSlot, Cond.static yX3_checkSlot, Cond.code yX3_checkSlot cX3_checkSlot 1 none, Cond.classLink RX3 158 "java/lang/IndexOutOfBoundsException", Cond.initialized "java/lang/IndexOutOfBoundsException", Cond.methodLink RX3 250 yX0_copyFrom, Cond.instanceMethod yX0_copyFrom, Cond.selects RX0 yX0_copyFrom yX0_copyFrom, Cond.initialized RX0, Cond.code yX0_copyFrom cX0_copyFrom 2 none, Cond.fieldLink RX0 9 "IdleDiscards$Device" "blocks" "[I", Cond.methodLink RX0 36 arraycopyName, Cond.native arraycopyName, Cond.static arraycopyName, Cond.initialized "java/lang/System"]
def wsL_save_r2 : List Cond := [Cond.fieldLink RX0 15 "IdleDiscards$Device" "pinFirst" "[I", Cond.fieldLink RX0 18 "IdleDiscards$Device" "pinLength" "[I", Cond.fieldLink RX0 21 "IdleDiscards$Device" "settings" "[I", Cond.fieldLink RX0 42 "IdleDiscards$Device" "time" "I", Cond.fieldLink RX0 46 "IdleDiscards$Device" "quiet" "I", Cond.fieldLink RX0 49 "IdleDiscards$Device" "commands" "I", Cond.fieldLink RX0 52 "IdleDiscards$Device" "discarded" "I", Cond.fieldLink RX0 55 "IdleDiscards$Device" "dropped" "I", Cond.methodLink RX3 118 yX0_time, Cond.instanceMethod yX0_time, Cond.selects RX0 yX0_time yX0_time, Cond.code yX0_time cX0_time 1 (some .int)]
def wsL_save : List Cond := .codeWith yL_save cL_save 4 (some .int) [(0, 9, 12, 28)] :: ((wsL_save_r1 ++ wsL_save_r2) ++ wsX30 ++ wsX00 ++ (vx_atS RX3 162 "java/lang/IndexOutOfBoundsException" ["java/lang/RuntimeException", "java/lang/Exception"]).filter goodWord)
def wsL_restore_r1 : List Cond := [Cond.classLink RL 28 "java/lang/IndexOutOfBoundsException", Cond.classLink RL 15 "java/lang/IllegalStateException", Cond.methodLink RL 87 yX3_restore, Cond.instanceMethod yX3_restore, Cond.selects RX3 yX3_restore yX3_restore, Cond.initialized RX3, Cond.code yX3_restore cX3_restore 2 (some .int), Cond.classLink RX3 52 "java/lang/IllegalStateException", Cond.initialized "java/lang/IllegalStateException", Cond.fieldLink RX3 37 "IdleDiscards" "slotUsed" "[Z", Cond.fieldLink RX3 19 "IdleDiscards" "device" "LIdleDiscards$Device;", Cond.fieldLink RX3 33 "IdleDiscards" "slots" "[LIdleDiscards$Device;", Cond.fieldLink RX3 29 "IdleDiscards" "past" "LIdleDiscards$Past;", Cond.methodLink RX3 306 yX3_checkSlot, Cond.static yX3_checkSlot, Cond.code yX3_checkSlot cX3_checkSlot 1 none, Cond.classLink RX3 158 "java/lang/IndexOutOfBoundsException", Cond.initialized "java/lang/IndexOutOfBoundsException", Cond.methodLink RX3 250 yX0_copyFrom, Cond.instanceMethod yX0_copyFrom, Cond.selects RX0 yX0_copyFrom yX0_copyFrom, Cond.initialized RX0, Cond.code yX0_copyFrom cX0_copyFrom 2 none, Cond.fieldLink RX0 9 "IdleDiscards$Device" "blocks" "[I"]
def wsL_restore_r2 : List Cond := [Cond.methodLink RX0 36 arraycopyName, Cond.native arraycopyName, Cond.static arraycopyName, Cond.initialized "java/lang/System", Cond.fieldLink RX0 15 "IdleDiscards$Device" "pinFirst" "[I", Cond.fieldLink RX0 18 "IdleDiscards$Device" "pinLength" "[I", Cond.fieldLink RX0 21 "IdleDiscards$Device" "settings" "[I", Cond.fieldLink RX0 42 "IdleDiscards$Device" "time" "I", Cond.fieldLink RX0 46 "IdleDiscards$Device" "quiet" "I", Cond.fieldLink RX0 49 "IdleDiscards$Device" "commands" "I", Cond.fieldLink RX0 52 "IdleDiscards$Device" "discarded" "I", Cond.fieldLink RX0 55 "IdleDiscards$Device" "dropped" "I", Cond.methodLink RX3 73 yX1_forget, Cond.instanceMethod yX1_forget, Cond.selects RX1 yX1_forget yX1_forget, Cond.initialized RX1, Cond.code yX1_forget cX1_forget 1 none, Cond.fieldLink RX1 18 "IdleDiscards$Past" "size" "I", Cond.methodLink RX3 118 yX0_time, Cond.instanceMethod yX0_time, Cond.selects RX0 yX0_time yX0_time, Cond.code yX0_time cX0_time 1 (some .int)]
def wsL_restore : List Cond := .codeWith yL_restore cL_restore 4 (some .int) [(0, 9, 12, 28), (0, 9, 15, 15)] :: ((wsL_restore_r1 ++ wsL_restore_r2) ++ wsX30 ++ wsX00 ++ wsX10 ++ (vx_atS RX3 56 "java/lang/IllegalStateException" ["java/lang/RuntimeException", "java/lang/Exception"]).filter goodWord ++ (vx_atS RX3 162 "java/lang/IndexOutOfBoundsException" ["java/lang/RuntimeException", "java/lang/Exception"]).filter goodWord)
def wsL_law0_r1 : List Cond := [Cond.classLink RL 8 RX3, Cond.instantiable RX3 6, Cond.initialized RX3, Cond.classLink RL 91 RX4, Cond.instantiable RX4 13, Cond.initialized RX4, Cond.arrayClass .long, Cond.constantLong RL 176 (4294967295), Cond.methodLink RL 90 yX3_init, Cond.instanceMethod yX3_init, Cond.code yX3_init cX3_init 2 none, Cond.methodLink RX3 1 objectInit, Cond.instanceMethod objectInit, Cond.code objectInit ⟨#[0xb1]⟩ 1 none, Cond.classLink RX3 7 RX2, Cond.instantiable RX2 5, Cond.initialized RX2, Cond.fieldLink RX3 10 "IdleDiscards" "text" "LIdleDiscards$Text;", Cond.classLink RX3 16 RX0, Cond.instantiable RX0 9, Cond.initialized RX0, Cond.fieldLink RX3 19 "IdleDiscards" "device" "LIdleDiscards$Device;", Cond.fieldLink RX3 23 "IdleDiscards" "copy" "LIdleDiscards$Device;", Cond.classLink RX3 26 RX1]
def wsL_law0_r2 : List Cond := [Cond.instantiable RX1 3, Cond.initialized RX1, Cond.fieldLink RX3 29 "IdleDiscards" "past" "LIdleDiscards$Past;", Cond.fieldLink RX3 33 "IdleDiscards" "slots" "[LIdleDiscards$Device;", Cond.arrayClass .boolean, Cond.fieldLink RX3 37 "IdleDiscards" "slotUsed" "[Z", Cond.instanceMethod yX2_init, Cond.code yX2_init cX2_init 1 none, Cond.methodLink RX2 3 objectInit, Cond.arrayClass .char, Cond.fieldLink RX2 9 "IdleDiscards$Text" "chars" "[C", Cond.arrayClass .int, Cond.fieldLink RX2 15 "IdleDiscards$Text" "numbers" "[I", Cond.methodLink RX3 18 yX0_init, Cond.instanceMethod yX0_init, Cond.code yX0_init cX0_init 1 none, Cond.methodLink RX0 3 objectInit, Cond.fieldLink RX0 9 "IdleDiscards$Device" "blocks" "[I", Cond.fieldLink RX0 15 "IdleDiscards$Device" "pinFirst" "[I", Cond.fieldLink RX0 18 "IdleDiscards$Device" "pinLength" "[I", Cond.fieldLink RX0 21 "IdleDiscards$Device" "settings" "[I", Cond.methodLink RX0 24 yX0_makeNew, Cond.instanceMethod yX0_makeNew, Cond.selects RX0 yX0_makeNew yX0_makeNew]
def wsL_law0_r3 : List Cond := [Cond.code yX0_makeNew cX0_makeNew 1 none, Cond.methodLink RX0 36 arraycopyName, Cond.native arraycopyName, Cond.static arraycopyName, Cond.initialized "java/lang/System", Cond.fieldLink RX0 42 "IdleDiscards$Device" "time" "I", Cond.fieldLink RX0 46 "IdleDiscards$Device" "quiet" "I", Cond.fieldLink RX0 49 "IdleDiscards$Device" "commands" "I", Cond.fieldLink RX0 52 "IdleDiscards$Device" "discarded" "I", Cond.fieldLink RX0 55 "IdleDiscards$Device" "dropped" "I", Cond.methodLink RX0 27 yJ7_fill_53178, Cond.static yJ7_fill_53178, Cond.initialized RJ7, Cond.code yJ7_fill_53178 cJ7_fill_53178 4 none, Cond.methodLink RX3 28 yX1_init, Cond.instanceMethod yX1_init, Cond.code yX1_init cX1_init 2 none, Cond.methodLink RX1 3 objectInit, Cond.classLink RX1 9 RX0, Cond.fieldLink RX1 11 "IdleDiscards$Past" "states" "[LIdleDiscards$Device;", Cond.methodLink RX1 17 yX0_init, Cond.methodLink RL 93 yX4_init, Cond.instanceMethod yX4_init, Cond.code yX4_init cX4_init 1 none]
def wsL_law0_r4 : List Cond := [Cond.methodLink RX4 1 objectInit, Cond.fieldLink RX4 7 "IdleDiscardsModel" "text" "[I", Cond.fieldLink RX4 13 "IdleDiscardsModel" "now" "[I", Cond.fieldLink RX4 16 "IdleDiscardsModel" "trial" "[I", Cond.fieldLink RX4 19 "IdleDiscardsModel" "diary" "[I", Cond.fieldLink RX4 22 "IdleDiscardsModel" "kept" "[I", Cond.fieldLink RX4 25 "IdleDiscardsModel" "isKept" "[Z", Cond.methodLink RX4 29 yX4_begin, Cond.static yX4_begin, Cond.code yX4_begin cX4_begin 2 none, Cond.methodLink RL 94 yL_append, Cond.static yL_append, Cond.initialized RL, Cond.codeWith yL_append cL_append 4 (some .int) [(0, 9, 12, 13), (0, 9, 15, 15)], Cond.classLink RL 13 "java/lang/IllegalArgumentException", Cond.classLink RL 15 "java/lang/IllegalStateException", Cond.methodLink RL 7 yX3_append, Cond.instanceMethod yX3_append, Cond.selects RX3 yX3_append yX3_append, Cond.code yX3_append cX3_append 2 (some .int), Cond.classLink RX3 41 "java/lang/IllegalArgumentException", Cond.initialized "java/lang/IllegalArgumentException", Cond.classLink RX3 52 "java/lang/IllegalStateException", Cond.initialized "java/lang/IllegalStateException"]
def wsL_law0_r5 : List Cond := [Cond.methodLink RX3 48 yX2_isFull, Cond.instanceMethod yX2_isFull, Cond.selects RX2 yX2_isFull yX2_isFull, Cond.code yX2_isFull cX2_isFull 1 (some .boolean), Cond.fieldLink RX2 19 "IdleDiscards$Text" "length" "I", Cond.methodLink RX3 57 yX2_add, Cond.instanceMethod yX2_add, Cond.selects RX2 yX2_add yX2_add, Cond.code yX2_add cX2_add 2 (some .int), Cond.methodLink RL 99 yX4_append, Cond.instanceMethod yX4_append, Cond.selects RX4 yX4_append yX4_append, Cond.code yX4_append cX4_append 2 (some .int), Cond.constantLong RX4 37 (255), Cond.fieldLink RX4 115 "IdleDiscardsModel" "size" "I", Cond.methodLink RX4 39 yX4_in, Cond.static yX4_in, Cond.code yX4_in cX4_in 6 (some .boolean), Cond.methodLink RX4 118 yX4_refused, Cond.instanceMethod yX4_refused, Cond.selects RX4 yX4_refused yX4_refused, Cond.code yX4_refused cX4_refused 2 (some .boolean), Cond.fieldLink RX4 33 "IdleDiscardsModel" "refusal" "I", Cond.methodLink RL 100 yX4_thrown]
def wsL_law0_r6 : List Cond := [Cond.instanceMethod yX4_thrown, Cond.selects RX4 yX4_thrown yX4_thrown, Cond.code yX4_thrown cX4_thrown 1 (some .int), Cond.methodLink RL 103 yX3_clearText, Cond.instanceMethod yX3_clearText, Cond.selects RX3 yX3_clearText yX3_clearText, Cond.code yX3_clearText cX3_clearText 1 (some .int), Cond.methodLink RX3 61 yX2_empty, Cond.instanceMethod yX2_empty, Cond.selects RX2 yX2_empty yX2_empty, Cond.code yX2_empty cX2_empty 2 (some .int), Cond.methodLink RL 106 yX4_clearText, Cond.instanceMethod yX4_clearText, Cond.selects RX4 yX4_clearText yX4_clearText, Cond.code yX4_clearText cX4_clearText 2 (some .int), Cond.methodLink RL 107 yX3_errorPosition, Cond.instanceMethod yX3_errorPosition, Cond.selects RX3 yX3_errorPosition yX3_errorPosition, Cond.code yX3_errorPosition cX3_errorPosition 1 (some .int), Cond.methodLink RX3 65 yX2_firstError, Cond.instanceMethod yX2_firstError, Cond.selects RX2 yX2_firstError yX2_firstError, Cond.code yX2_firstError cX2_firstError 2 (some .int), Cond.fieldLink RX2 23 "IdleDiscards$Text" "at" "I"]
def wsL_law0_r7 : List Cond := [Cond.methodLink RX2 26 yX2_readCommand, Cond.instanceMethod yX2_readCommand, Cond.selects RX2 yX2_readCommand yX2_readCommand, Cond.code yX2_readCommand cX2_readCommand 1 (some .boolean), Cond.fieldLink RX2 30 "IdleDiscards$Text" "letter" "I", Cond.methodLink RX2 33 yX2_readSpan, Cond.instanceMethod yX2_readSpan, Cond.selects RX2 yX2_readSpan yX2_readSpan, Cond.code yX2_readSpan cX2_readSpan 2 (some .boolean), Cond.methodLink RX2 37 yX2_readNumber, Cond.instanceMethod yX2_readNumber, Cond.selects RX2 yX2_readNumber yX2_readNumber, Cond.code yX2_readNumber cX2_readNumber 8 (some .boolean), Cond.methodLink RL 110 yX4_errorPosition, Cond.instanceMethod yX4_errorPosition, Cond.selects RX4 yX4_errorPosition yX4_errorPosition, Cond.code yX4_errorPosition cX4_errorPosition 1 (some .int), Cond.methodLink RX4 165 yX4_readText, Cond.instanceMethod yX4_readText, Cond.selects RX4 yX4_readText yX4_readText, Cond.code yX4_readText cX4_readText 2 (some .int), Cond.fieldLink RX4 126 "IdleDiscardsModel" "out" "I", Cond.fieldLink RX4 121 "IdleDiscardsModel" "spot" "I", Cond.methodLink RX4 161 yX4_readCommand]
def wsL_law0_r8 : List Cond := [Cond.instanceMethod yX4_readCommand, Cond.selects RX4 yX4_readCommand yX4_readCommand, Cond.code yX4_readCommand cX4_readCommand 6 (some .boolean), Cond.methodLink RX4 129 yX4_figures, Cond.instanceMethod yX4_figures, Cond.selects RX4 yX4_figures yX4_figures, Cond.code yX4_figures cX4_figures 9 (some .int), Cond.constantLong RX4 124 (9), Cond.methodLink RX4 133 yX4_whyNotSpan, Cond.static yX4_whyNotSpan, Cond.code yX4_whyNotSpan cX4_whyNotSpan 2 (some .int), Cond.constantLong RX4 47 (99), Cond.methodLink RX4 43 yX4_isBlock, Cond.static yX4_isBlock, Cond.code yX4_isBlock cX4_isBlock 1 (some .boolean), Cond.methodLink RX4 136 yX4_writeOn, Cond.static yX4_writeOn, Cond.code yX4_writeOn cX4_writeOn 5 (some .int), Cond.methodLink RX4 53 yX4_isQueued, Cond.static yX4_isQueued, Cond.code yX4_isQueued cX4_isQueued 2 (some .boolean), Cond.methodLink RX4 67 yX4_limit, Cond.static yX4_limit, Cond.code yX4_limit cX4_limit 4 none]
def wsL_law0_r9 : List Cond := [Cond.methodLink RX4 59 yX4_ranges, Cond.static yX4_ranges, Cond.code yX4_ranges cX4_ranges 3 (some .int), Cond.methodLink RX4 56 yX4_begins, Cond.static yX4_begins, Cond.code yX4_begins cX4_begins 2 (some .boolean), Cond.methodLink RX4 63 yX4_endOf, Cond.static yX4_endOf, Cond.code yX4_endOf cX4_endOf 3 (some .int), Cond.methodLink RX4 140 yX4_freeOn, Cond.static yX4_freeOn, Cond.code yX4_freeOn cX4_freeOn 8 (some .int), Cond.methodLink RX4 70 yX4_startOf, Cond.static yX4_startOf, Cond.code yX4_startOf cX4_startOf 3 (some .int), Cond.methodLink RX4 143 yX4_done, Cond.instanceMethod yX4_done, Cond.selects RX4 yX4_done yX4_done, Cond.code yX4_done cX4_done 2 (some .boolean), Cond.methodLink RX4 147 yX4_runOn, Cond.instanceMethod yX4_runOn, Cond.selects RX4 yX4_runOn yX4_runOn, Cond.code yX4_runOn cX4_runOn 5 (some .int), Cond.methodLink RX4 106 yX4_tick]
def wsL_law0_r10 : List Cond := [Cond.instanceMethod yX4_tick, Cond.selects RX4 yX4_tick yX4_tick, Cond.code yX4_tick cX4_tick 6 none, Cond.methodLink RX4 94 yX4_chosen, Cond.static yX4_chosen, Cond.code yX4_chosen cX4_chosen 6 (some .int), Cond.methodLink RX4 82 yX4_piece, Cond.static yX4_piece, Cond.code yX4_piece cX4_piece 4 (some .int), Cond.methodLink RX4 76 yX4_granule, Cond.static yX4_granule, Cond.code yX4_granule cX4_granule 1 (some .int), Cond.methodLink RX4 79 yX4_isGood, Cond.static yX4_isGood, Cond.code yX4_isGood cX4_isGood 4 (some .boolean), Cond.methodLink RX4 49 yX4_isPinned, Cond.static yX4_isPinned, Cond.code yX4_isPinned cX4_isPinned 3 (some .boolean), Cond.methodLink RX4 85 yX4_isDue, Cond.static yX4_isDue, Cond.code yX4_isDue cX4_isDue 2 (some .boolean), Cond.methodLink RX4 98 yX4_least, Cond.static yX4_least, Cond.code yX4_least cX4_least 2 (some .int)]
def wsL_law0_r11 : List Cond := [Cond.methodLink RX4 102 yX4_send, Cond.instanceMethod yX4_send, Cond.selects RX4 yX4_send yX4_send, Cond.code yX4_send cX4_send 6 none, Cond.fieldLink RX4 88 "IdleDiscardsModel" "sentFrom" "I", Cond.fieldLink RX4 91 "IdleDiscardsModel" "sentBlocks" "I", Cond.methodLink RX4 150 yX4_pinOn, Cond.static yX4_pinOn, Cond.code yX4_pinOn cX4_pinOn 4 (some .int), Cond.methodLink RX4 73 yX4_allPinned, Cond.static yX4_allPinned, Cond.code yX4_allPinned cX4_allPinned 3 (some .int), Cond.methodLink RX4 154 yX4_isSetting, Cond.static yX4_isSetting, Cond.code yX4_isSetting cX4_isSetting 2 (some .boolean), Cond.constantLong RX4 109 (5), Cond.methodLink RX4 111 yX4_greatest, Cond.static yX4_greatest, Cond.code yX4_greatest cX4_greatest 1 (some .int), Cond.methodLink RX4 158 yX4_lay, Cond.static yX4_lay, Cond.code yX4_lay cX4_lay 4 (some .int), Cond.methodLink RL 111 yL_load, Cond.static yL_load]
def wsL_law0_r12 : List Cond := [Cond.codeWith yL_load cL_load 3 (some .int) [(0, 8, 11, 15)], Cond.methodLink RL 17 yX3_load, Cond.instanceMethod yX3_load, Cond.selects RX3 yX3_load yX3_load, Cond.code yX3_load cX3_load 3 (some .int), Cond.methodLink RX3 70 yX0_makeNew, Cond.methodLink RX3 73 yX1_forget, Cond.instanceMethod yX1_forget, Cond.selects RX1 yX1_forget yX1_forget, Cond.code yX1_forget cX1_forget 1 none, Cond.fieldLink RX1 18 "IdleDiscards$Past" "size" "I", Cond.methodLink RX3 76 yX2_beginCommands, Cond.instanceMethod yX2_beginCommands, Cond.selects RX2 yX2_beginCommands yX2_beginCommands, Cond.code yX2_beginCommands cX2_beginCommands 1 none, Cond.methodLink RX3 79 yX2_readCommand, Cond.methodLink RX3 82 yX3_doTextCommand, Cond.instanceMethod yX3_doTextCommand, Cond.selects RX3 yX3_doTextCommand yX3_doTextCommand, Cond.code yX3_doTextCommand cX3_doTextCommand 3 (some .boolean), Cond.methodLink RX3 85 yX2_number, Cond.instanceMethod yX2_number, Cond.selects RX2 yX2_number yX2_number, Cond.code yX2_number cX2_number 2 (some .int)]
def wsL_law0_r13 : List Cond := [Cond.methodLink RX3 89 yX2_letter, Cond.instanceMethod yX2_letter, Cond.selects RX2 yX2_letter yX2_letter, Cond.code yX2_letter cX2_letter 1 (some .int), Cond.methodLink RX3 92 yX3_writeIfAllowed, Cond.static yX3_writeIfAllowed, Cond.code yX3_writeIfAllowed cX3_writeIfAllowed 3 (some .boolean), Cond.methodLink RX3 318 yX3_isSpan, Cond.static yX3_isSpan, Cond.code yX3_isSpan cX3_isSpan 2 (some .boolean), Cond.methodLink RX3 294 yX3_isBlock, Cond.static yX3_isBlock, Cond.code yX3_isBlock cX3_isBlock 1 (some .boolean), Cond.methodLink RX3 311 yX3_isLength, Cond.static yX3_isLength, Cond.code yX3_isLength cX3_isLength 1 (some .boolean), Cond.methodLink RX3 214 yX0_writeSpan, Cond.instanceMethod yX0_writeSpan, Cond.selects RX0 yX0_writeSpan yX0_writeSpan, Cond.code yX0_writeSpan cX0_writeSpan 5 (some .int), Cond.methodLink RX0 58 yX0_dropSurplus, Cond.instanceMethod yX0_dropSurplus, Cond.selects RX0 yX0_dropSurplus yX0_dropSurplus, Cond.code yX0_dropSurplus cX0_dropSurplus 4 none]
def wsL_law0_r14 : List Cond := [Cond.methodLink RX0 69 yX0_countRangesAhead, Cond.instanceMethod yX0_countRangesAhead, Cond.selects RX0 yX0_countRangesAhead yX0_countRangesAhead, Cond.code yX0_countRangesAhead cX0_countRangesAhead 6 (some .int), Cond.methodLink RX0 73 yX0_shortestRange, Cond.instanceMethod yX0_shortestRange, Cond.selects RX0 yX0_shortestRange yX0_shortestRange, Cond.code yX0_shortestRange cX0_shortestRange 5 (some .int), Cond.methodLink RX3 96 yX3_freeIfAllowed, Cond.static yX3_freeIfAllowed, Cond.code yX3_freeIfAllowed cX3_freeIfAllowed 3 (some .boolean), Cond.methodLink RX3 217 yX0_freeSpan, Cond.instanceMethod yX0_freeSpan, Cond.selects RX0 yX0_freeSpan yX0_freeSpan, Cond.code yX0_freeSpan cX0_freeSpan 5 (some .int), Cond.methodLink RX0 61 yX0_queueNow, Cond.instanceMethod yX0_queueNow, Cond.selects RX0 yX0_queueNow yX0_queueNow, Cond.code yX0_queueNow cX0_queueNow 3 none, Cond.methodLink RX3 99 yX0_passTicks, Cond.instanceMethod yX0_passTicks, Cond.selects RX0 yX0_passTicks yX0_passTicks, Cond.code yX0_passTicks cX0_passTicks 4 (some .int), Cond.methodLink RX0 90 yX0_tick]
def wsL_law0_r15 : List Cond := [Cond.instanceMethod yX0_tick, Cond.selects RX0 yX0_tick yX0_tick, Cond.code yX0_tick cX0_tick 5 none, Cond.methodLink RX0 93 yX0_budgetOfTick, Cond.instanceMethod yX0_budgetOfTick, Cond.selects RX0 yX0_budgetOfTick yX0_budgetOfTick, Cond.code yX0_budgetOfTick cX0_budgetOfTick 1 (some .int), Cond.methodLink RX0 96 yX0_choosePiece, Cond.instanceMethod yX0_choosePiece, Cond.selects RX0 yX0_choosePiece yX0_choosePiece, Cond.code yX0_choosePiece cX0_choosePiece 10 (some .int), Cond.methodLink RX0 87 yX0_isDue, Cond.instanceMethod yX0_isDue, Cond.selects RX0 yX0_isDue yX0_isDue, Cond.code yX0_isDue cX0_isDue 2 (some .boolean), Cond.methodLink RX0 83 yX0_isFree, Cond.instanceMethod yX0_isFree, Cond.selects RX0 yX0_isFree yX0_isFree, Cond.code yX0_isFree cX0_isFree 5 (some .boolean), Cond.methodLink RX0 77 yX0_granuleSize, Cond.instanceMethod yX0_granuleSize, Cond.selects RX0 yX0_granuleSize yX0_granuleSize, Cond.code yX0_granuleSize cX0_granuleSize 1 (some .int), Cond.methodLink RX0 65 yX0_isAnyPinned]
def wsL_law0_r16 : List Cond := [Cond.instanceMethod yX0_isAnyPinned, Cond.selects RX0 yX0_isAnyPinned yX0_isAnyPinned, Cond.code yX0_isAnyPinned cX0_isAnyPinned 4 (some .boolean), Cond.methodLink RX0 100 yX0_mostGranules, Cond.instanceMethod yX0_mostGranules, Cond.selects RX0 yX0_mostGranules yX0_mostGranules, Cond.code yX0_mostGranules cX0_mostGranules 2 (some .int), Cond.methodLink RX0 111 Lib.Math.min.name, Cond.static Lib.Math.min.name, Cond.initialized "java/lang/Math", Cond.code Lib.Math.min.name Lib.Math.min.code 2 (some .int), Cond.methodLink RX0 103 yX0_granulesFrom, Cond.instanceMethod yX0_granulesFrom, Cond.selects RX0 yX0_granulesFrom yX0_granulesFrom, Cond.code yX0_granulesFrom cX0_granulesFrom 4 (some .int), Cond.methodLink RX0 107 yX0_discard, Cond.instanceMethod yX0_discard, Cond.selects RX0 yX0_discard yX0_discard, Cond.code yX0_discard cX0_discard 6 none, Cond.methodLink RX3 102 yX3_pinIfAllowed, Cond.static yX3_pinIfAllowed, Cond.code yX3_pinIfAllowed cX3_pinIfAllowed 4 (some .boolean), Cond.methodLink RX3 323 yX3_isPin, Cond.static yX3_isPin]
def wsL_law0_r17 : List Cond := [Cond.code yX3_isPin cX3_isPin 1 (some .boolean), Cond.methodLink RX3 220 yX0_pinSpan, Cond.instanceMethod yX0_pinSpan, Cond.selects RX0 yX0_pinSpan yX0_pinSpan, Cond.code yX0_pinSpan cX0_pinSpan 4 none, Cond.methodLink RX3 106 yX3_setIfAllowed, Cond.static yX3_setIfAllowed, Cond.code yX3_setIfAllowed cX3_setIfAllowed 3 (some .boolean), Cond.methodLink RX3 232 yX3_isValue, Cond.static yX3_isValue, Cond.code yX3_isValue cX3_isValue 2 (some .boolean), Cond.fieldLink RX3 273 "IdleDiscards" "GREATEST_SETTINGS" "[I", Cond.methodLink RX3 198 yX3_isSetting, Cond.static yX3_isSetting, Cond.code yX3_isSetting cX3_isSetting 1 (some .boolean), Cond.methodLink RX3 237 yX0_changeSetting, Cond.instanceMethod yX0_changeSetting, Cond.selects RX0 yX0_changeSetting yX0_changeSetting, Cond.code yX0_changeSetting cX0_changeSetting 3 none, Cond.methodLink RL 114 yX4_load, Cond.instanceMethod yX4_load, Cond.selects RX4 yX4_load yX4_load, Cond.code yX4_load cX4_load 1 (some .int), Cond.fieldLink RX4 172 "IdleDiscardsModel" "acts" "I"]
def wsL_law0_r18 : List Cond := [Cond.methodLink RX4 168 yX4_copyState, Cond.static yX4_copyState, Cond.code yX4_copyState cX4_copyState 5 none, Cond.methodLink RL 115 yL_about, Cond.static yL_about, Cond.codeWith yL_about cL_about 4 (some .int) [(0, 9, 12, 13)], Cond.methodLink RL 21 yX3_about, Cond.instanceMethod yX3_about, Cond.selects RX3 yX3_about yX3_about, Cond.code yX3_about cX3_about 2 (some .int), Cond.methodLink RX3 109 yX0_count, Cond.instanceMethod yX0_count, Cond.selects RX0 yX0_count yX0_count, Cond.code yX0_count cX0_count 4 (some .int), Cond.methodLink RX3 112 yX0_countRanges, Cond.instanceMethod yX0_countRanges, Cond.selects RX0 yX0_countRanges yX0_countRanges, Cond.code yX0_countRanges cX0_countRanges 1 (some .int), Cond.methodLink RX3 115 yX0_countQueued, Cond.instanceMethod yX0_countQueued, Cond.selects RX0 yX0_countQueued yX0_countQueued, Cond.code yX0_countQueued cX0_countQueued 3 (some .int), Cond.methodLink RX3 118 yX0_time, Cond.instanceMethod yX0_time]
def wsL_law0_r19 : List Cond := [Cond.selects RX0 yX0_time yX0_time, Cond.code yX0_time cX0_time 1 (some .int), Cond.methodLink RX3 121 yX0_quietTicks, Cond.instanceMethod yX0_quietTicks, Cond.selects RX0 yX0_quietTicks yX0_quietTicks, Cond.code yX0_quietTicks cX0_quietTicks 1 (some .int), Cond.methodLink RX3 124 yX0_commands, Cond.instanceMethod yX0_commands, Cond.selects RX0 yX0_commands yX0_commands, Cond.code yX0_commands cX0_commands 1 (some .int), Cond.methodLink RX3 127 yX0_discarded, Cond.instanceMethod yX0_discarded, Cond.selects RX0 yX0_discarded yX0_discarded, Cond.code yX0_discarded cX0_discarded 1 (some .int), Cond.methodLink RX3 130 yX0_dropped, Cond.instanceMethod yX0_dropped, Cond.selects RX0 yX0_dropped yX0_dropped, Cond.code yX0_dropped cX0_dropped 1 (some .int), Cond.methodLink RX3 133 yX0_countPinned, Cond.instanceMethod yX0_countPinned, Cond.selects RX0 yX0_countPinned yX0_countPinned, Cond.code yX0_countPinned cX0_countPinned 3 (some .int), Cond.methodLink RL 117 yX4_about, Cond.instanceMethod yX4_about]
def wsL_law0_r20 : List Cond := [Cond.selects RX4 yX4_about yX4_about, Cond.code yX4_about cX4_about 2 (some .int), Cond.constantLong RX4 175 (10), Cond.methodLink RX4 177 yX4_sum, Cond.static yX4_sum, Cond.code yX4_sum cX4_sum 4 (some .int), Cond.methodLink RX4 180 yX4_queuedBlocks, Cond.static yX4_queuedBlocks, Cond.code yX4_queuedBlocks cX4_queuedBlocks 3 (some .int), Cond.methodLink RX4 183 yX4_lost, Cond.static yX4_lost, Cond.code yX4_lost cX4_lost 3 (some .int), Cond.methodLink RL 118 yL_block, Cond.static yL_block, Cond.codeWith yL_block cL_block 5 (some .int) [(0, 10, 13, 28), (0, 10, 17, 13)], Cond.classLink RL 28 "java/lang/IndexOutOfBoundsException", Cond.methodLink RL 24 yX3_block, Cond.instanceMethod yX3_block, Cond.selects RX3 yX3_block yX3_block, Cond.code yX3_block cX3_block 3 (some .int), Cond.methodLink RX3 138 yX3_checkBlock, Cond.static yX3_checkBlock, Cond.code yX3_checkBlock cX3_checkBlock 1 none, Cond.classLink RX3 158 "java/lang/IndexOutOfBoundsException"]
def wsL_law0_r21 : List Cond := [Cond.initialized "java/lang/IndexOutOfBoundsException", Cond.methodLink RX3 142 yX0_isAlive, Cond.instanceMethod yX0_isAlive, Cond.selects RX0 yX0_isAlive yX0_isAlive, Cond.code yX0_isAlive cX0_isAlive 2 (some .boolean), Cond.methodLink RX3 146 yX0_isHeld, Cond.instanceMethod yX0_isHeld, Cond.selects RX0 yX0_isHeld yX0_isHeld, Cond.code yX0_isHeld cX0_isHeld 2 (some .boolean), Cond.methodLink RX3 149 yX0_rangeOf, Cond.instanceMethod yX0_rangeOf, Cond.selects RX0 yX0_rangeOf yX0_rangeOf, Cond.code yX0_rangeOf cX0_rangeOf 2 (some .int), Cond.methodLink RX3 152 yX0_isAnyPinned, Cond.methodLink RL 121 yX4_block, Cond.instanceMethod yX4_block, Cond.selects RX4 yX4_block yX4_block, Cond.code yX4_block cX4_block 5 (some .int), Cond.constantLong RX4 186 (3), Cond.methodLink RL 122 yL_range, Cond.static yL_range, Cond.codeWith yL_range cL_range 5 (some .int) [(0, 10, 13, 28), (0, 10, 17, 13)], Cond.methodLink RL 30 yX3_range, Cond.instanceMethod yX3_range]
def wsL_law0_r22 : List Cond := [Cond.selects RX3 yX3_range yX3_range, Cond.code yX3_range cX3_range 5 (some .int), Cond.methodLink RX3 163 yX0_firstOfRange, Cond.instanceMethod yX0_firstOfRange, Cond.selects RX0 yX0_firstOfRange yX0_firstOfRange, Cond.code yX0_firstOfRange cX0_firstOfRange 6 (some .int), Cond.methodLink RX3 166 yX0_endOfRange, Cond.instanceMethod yX0_endOfRange, Cond.selects RX0 yX0_endOfRange yX0_endOfRange, Cond.code yX0_endOfRange cX0_endOfRange 3 (some .int), Cond.methodLink RX3 169 yX0_timeOf, Cond.instanceMethod yX0_timeOf, Cond.selects RX0 yX0_timeOf yX0_timeOf, Cond.code yX0_timeOf cX0_timeOf 2 (some .int), Cond.methodLink RX3 172 yX0_countPieces, Cond.instanceMethod yX0_countPieces, Cond.selects RX0 yX0_countPieces yX0_countPieces, Cond.code yX0_countPieces cX0_countPieces 8 (some .int), Cond.methodLink RX0 80 yX0_granuleFrom, Cond.instanceMethod yX0_granuleFrom, Cond.selects RX0 yX0_granuleFrom yX0_granuleFrom, Cond.code yX0_granuleFrom cX0_granuleFrom 2 (some .int), Cond.methodLink RX3 176 yX0_countGranules, Cond.instanceMethod yX0_countGranules]
def wsL_law0_r23 : List Cond := [Cond.selects RX0 yX0_countGranules yX0_countGranules, Cond.code yX0_countGranules cX0_countGranules 6 (some .int), Cond.methodLink RX3 179 yX0_isDue, Cond.methodLink RL 124 yX4_range, Cond.instanceMethod yX4_range, Cond.selects RX4 yX4_range yX4_range, Cond.code yX4_range cX4_range 8 (some .int), Cond.methodLink RX4 188 yX4_rangeAt, Cond.static yX4_rangeAt, Cond.code yX4_rangeAt cX4_rangeAt 4 (some .int), Cond.methodLink RL 125 yL_pinned, Cond.static yL_pinned, Cond.codeWith yL_pinned cL_pinned 5 (some .int) [(0, 10, 13, 28), (0, 10, 17, 13)], Cond.methodLink RL 33 yX3_pinned, Cond.instanceMethod yX3_pinned, Cond.selects RX3 yX3_pinned yX3_pinned, Cond.code yX3_pinned cX3_pinned 3 (some .int), Cond.methodLink RX3 184 yX3_checkPin, Cond.static yX3_checkPin, Cond.code yX3_checkPin cX3_checkPin 1 none, Cond.methodLink RX3 189 yX0_hasPin, Cond.instanceMethod yX0_hasPin, Cond.selects RX0 yX0_hasPin yX0_hasPin, Cond.code yX0_hasPin cX0_hasPin 2 (some .boolean)]
def wsL_law0_r24 : List Cond := [Cond.methodLink RX3 192 yX0_firstPinned, Cond.instanceMethod yX0_firstPinned, Cond.selects RX0 yX0_firstPinned yX0_firstPinned, Cond.code yX0_firstPinned cX0_firstPinned 2 (some .int), Cond.methodLink RX3 195 yX0_lengthPinned, Cond.instanceMethod yX0_lengthPinned, Cond.selects RX0 yX0_lengthPinned yX0_lengthPinned, Cond.code yX0_lengthPinned cX0_lengthPinned 2 (some .int), Cond.methodLink RL 127 yX4_pinned, Cond.instanceMethod yX4_pinned, Cond.selects RX4 yX4_pinned yX4_pinned, Cond.code yX4_pinned cX4_pinned 3 (some .int), Cond.constantLong RX4 191 (2), Cond.methodLink RL 128 yL_setting, Cond.static yL_setting, Cond.codeWith yL_setting cL_setting 4 (some .int) [(0, 9, 12, 13)], Cond.methodLink RL 36 yX3_setting, Cond.instanceMethod yX3_setting, Cond.selects RX3 yX3_setting yX3_setting, Cond.code yX3_setting cX3_setting 2 (some .int), Cond.methodLink RX3 203 yX0_settingAt, Cond.instanceMethod yX0_settingAt, Cond.selects RX0 yX0_settingAt yX0_settingAt, Cond.code yX0_settingAt cX0_settingAt 2 (some .int)]
def wsL_law0_r25 : List Cond := [Cond.methodLink RL 130 yX4_setting, Cond.instanceMethod yX4_setting, Cond.selects RX4 yX4_setting yX4_setting, Cond.code yX4_setting cX4_setting 2 (some .int), Cond.methodLink RL 131 yL_write, Cond.static yL_write, Cond.codeWith yL_write cL_write 5 (some .int) [(0, 10, 13, 28), (0, 10, 17, 13), (0, 10, 21, 15)], Cond.methodLink RL 39 yX3_write, Cond.instanceMethod yX3_write, Cond.selects RX3 yX3_write yX3_write, Cond.code yX3_write cX3_write 3 (some .int), Cond.methodLink RX3 206 yX3_checkSpan, Cond.static yX3_checkSpan, Cond.code yX3_checkSpan cX3_checkSpan 2 none, Cond.methodLink RX3 210 yX1_remember, Cond.instanceMethod yX1_remember, Cond.selects RX1 yX1_remember yX1_remember, Cond.code yX1_remember cX1_remember 2 none, Cond.fieldLink RX1 22 "IdleDiscards$Past" "oldest" "I", Cond.methodLink RX1 25 yX1_newest, Cond.instanceMethod yX1_newest, Cond.selects RX1 yX1_newest yX1_newest, Cond.code yX1_newest cX1_newest 1 (some .int), Cond.methodLink RX1 29 yX0_copyFrom]
def wsL_law0_r26 : List Cond := [Cond.instanceMethod yX0_copyFrom, Cond.selects RX0 yX0_copyFrom yX0_copyFrom, Cond.code yX0_copyFrom cX0_copyFrom 2 none, Cond.methodLink RL 133 yX4_write, Cond.instanceMethod yX4_write, Cond.selects RX4 yX4_write yX4_write, Cond.code yX4_write cX4_write 3 (some .int), Cond.methodLink RX4 193 yX4_remember, Cond.instanceMethod yX4_remember, Cond.selects RX4 yX4_remember yX4_remember, Cond.code yX4_remember cX4_remember 2 none, Cond.methodLink RL 134 yL_free, Cond.static yL_free, Cond.codeWith yL_free cL_free 5 (some .int) [(0, 10, 13, 28), (0, 10, 17, 13), (0, 10, 21, 15)], Cond.methodLink RL 42 yX3_free, Cond.instanceMethod yX3_free, Cond.selects RX3 yX3_free yX3_free, Cond.code yX3_free cX3_free 3 (some .int), Cond.methodLink RL 136 yX4_free, Cond.instanceMethod yX4_free, Cond.selects RX4 yX4_free yX4_free, Cond.code yX4_free cX4_free 3 (some .int), Cond.methodLink RL 137 yL_pin, Cond.static yL_pin]
def wsL_law0_r27 : List Cond := [Cond.codeWith yL_pin cL_pin 6 (some .int) [(0, 12, 15, 28), (0, 12, 19, 13), (0, 12, 23, 15)], Cond.methodLink RL 45 yX3_pin, Cond.instanceMethod yX3_pin, Cond.selects RX3 yX3_pin yX3_pin, Cond.code yX3_pin cX3_pin 4 (some .int), Cond.methodLink RL 140 yX4_pin, Cond.instanceMethod yX4_pin, Cond.selects RX4 yX4_pin yX4_pin, Cond.code yX4_pin cX4_pin 4 (some .int), Cond.methodLink RL 141 yL_unpin, Cond.static yL_unpin, Cond.codeWith yL_unpin cL_unpin 4 (some .int) [(0, 9, 12, 28), (0, 9, 15, 15)], Cond.methodLink RL 49 yX3_unpin, Cond.instanceMethod yX3_unpin, Cond.selects RX3 yX3_unpin yX3_unpin, Cond.code yX3_unpin cX3_unpin 2 (some .int), Cond.methodLink RL 143 yX4_unpin, Cond.instanceMethod yX4_unpin, Cond.selects RX4 yX4_unpin yX4_unpin, Cond.code yX4_unpin cX4_unpin 2 (some .int), Cond.methodLink RL 144 yL_run, Cond.static yL_run, Cond.codeWith yL_run cL_run 4 (some .int) [(0, 9, 12, 13)], Cond.methodLink RL 52 yX3_run]
def wsL_law0_r28 : List Cond := [Cond.instanceMethod yX3_run, Cond.selects RX3 yX3_run yX3_run, Cond.code yX3_run cX3_run 2 (some .int), Cond.methodLink RX3 226 yX3_checkTicks, Cond.static yX3_checkTicks, Cond.code yX3_checkTicks cX3_checkTicks 2 none, Cond.methodLink RX3 291 yX3_isTicks, Cond.static yX3_isTicks, Cond.code yX3_isTicks cX3_isTicks 2 (some .boolean), Cond.methodLink RL 146 yX4_run, Cond.instanceMethod yX4_run, Cond.selects RX4 yX4_run yX4_run, Cond.code yX4_run cX4_run 2 (some .int), Cond.constantLong RX4 196 (60), Cond.methodLink RL 147 yX3_flush, Cond.instanceMethod yX3_flush, Cond.selects RX3 yX3_flush yX3_flush, Cond.code yX3_flush cX3_flush 1 (some .int), Cond.methodLink RX3 229 yX0_sendAll, Cond.instanceMethod yX0_sendAll, Cond.selects RX0 yX0_sendAll yX0_sendAll, Cond.code yX0_sendAll cX0_sendAll 4 (some .int), Cond.methodLink RL 150 yX4_flush, Cond.instanceMethod yX4_flush]
def wsL_law0_r29 : List Cond := [Cond.selects RX4 yX4_flush yX4_flush, Cond.code yX4_flush cX4_flush 1 (some .int), Cond.methodLink RX4 198 yX4_flushOn, Cond.instanceMethod yX4_flushOn, Cond.selects RX4 yX4_flushOn yX4_flushOn, Cond.code yX4_flushOn cX4_flushOn 4 (some .int), Cond.methodLink RL 151 yL_set, Cond.static yL_set, Cond.codeWith yL_set cL_set 5 (some .int) [(0, 10, 13, 13)], Cond.methodLink RL 55 yX3_set, Cond.instanceMethod yX3_set, Cond.selects RX3 yX3_set yX3_set, Cond.code yX3_set cX3_set 4 (some .int), Cond.methodLink RL 153 yX4_set, Cond.instanceMethod yX4_set, Cond.selects RX4 yX4_set yX4_set, Cond.code yX4_set cX4_set 3 (some .int), Cond.methodLink RL 154 yL_undo, Cond.static yL_undo, Cond.codeWith yL_undo cL_undo 3 (some .int) [(0, 8, 11, 15)], Cond.methodLink RL 58 yX3_undo, Cond.instanceMethod yX3_undo, Cond.selects RX3 yX3_undo yX3_undo, Cond.code yX3_undo cX3_undo 1 (some .int)]
def wsL_law0_r30 : List Cond := [Cond.methodLink RX3 240 yX1_size, Cond.instanceMethod yX1_size, Cond.selects RX1 yX1_size yX1_size, Cond.code yX1_size cX1_size 1 (some .int), Cond.methodLink RX3 245 yX1_takeBack, Cond.instanceMethod yX1_takeBack, Cond.selects RX1 yX1_takeBack yX1_takeBack, Cond.code yX1_takeBack cX1_takeBack 2 none, Cond.methodLink RL 156 yX4_undo, Cond.instanceMethod yX4_undo, Cond.selects RX4 yX4_undo yX4_undo, Cond.code yX4_undo cX4_undo 1 (some .int), Cond.methodLink RL 157 yL_next, Cond.static yL_next, Cond.codeWith yL_next cL_next 4 (some .int) [(0, 9, 12, 13)], Cond.methodLink RL 61 yX3_next, Cond.instanceMethod yX3_next, Cond.selects RX3 yX3_next yX3_next, Cond.code yX3_next cX3_next 4 (some .int), Cond.methodLink RX3 250 yX0_copyFrom, Cond.methodLink RX3 253 yX0_pieceOfTick, Cond.instanceMethod yX0_pieceOfTick, Cond.selects RX0 yX0_pieceOfTick yX0_pieceOfTick, Cond.code yX0_pieceOfTick cX0_pieceOfTick 1 (some .int)]
def wsL_law0_r31 : List Cond := [Cond.methodLink RX3 256 yX3_ofCommand, Cond.instanceMethod yX3_ofCommand, Cond.selects RX3 yX3_ofCommand yX3_ofCommand, Cond.code yX3_ofCommand cX3_ofCommand 3 (some .int), Cond.methodLink RX3 262 yX0_granuleSize, Cond.methodLink RX3 265 yX0_granulesOfTick, Cond.instanceMethod yX0_granulesOfTick, Cond.selects RX0 yX0_granulesOfTick yX0_granulesOfTick, Cond.code yX0_granulesOfTick cX0_granulesOfTick 2 (some .int), Cond.methodLink RX3 259 yX0_tick, Cond.methodLink RL 159 yX4_next, Cond.instanceMethod yX4_next, Cond.selects RX4 yX4_next yX4_next, Cond.code yX4_next cX4_next 5 (some .int), Cond.methodLink RL 160 yL_goneIn, Cond.static yL_goneIn, Cond.codeWith yL_goneIn cL_goneIn 4 (some .int) [(0, 9, 12, 28)], Cond.methodLink RL 64 yX3_goneIn, Cond.instanceMethod yX3_goneIn, Cond.selects RX3 yX3_goneIn yX3_goneIn, Cond.code yX3_goneIn cX3_goneIn 3 (some .int), Cond.methodLink RX3 268 yX0_isQueued, Cond.instanceMethod yX0_isQueued, Cond.selects RX0 yX0_isQueued yX0_isQueued]
def wsL_law0_r32 : List Cond := [Cond.code yX0_isQueued cX0_isQueued 2 (some .boolean), Cond.methodLink RL 162 yX4_goneIn, Cond.instanceMethod yX4_goneIn, Cond.selects RX4 yX4_goneIn yX4_goneIn, Cond.code yX4_goneIn cX4_goneIn 3 (some .int), Cond.methodLink RL 163 yL_coming, Cond.static yL_coming, Cond.codeWith yL_coming cL_coming 5 (some .int) [(0, 10, 13, 13)], Cond.methodLink RL 67 yX3_coming, Cond.instanceMethod yX3_coming, Cond.selects RX3 yX3_coming yX3_coming, Cond.code yX3_coming cX3_coming 4 (some .int), Cond.methodLink RL 165 yX4_coming, Cond.instanceMethod yX4_coming, Cond.selects RX4 yX4_coming yX4_coming, Cond.code yX4_coming cX4_coming 4 (some .int), Cond.constantLong RX4 201 (100), Cond.methodLink RL 166 yL_bestGranule, Cond.static yL_bestGranule, Cond.codeWith yL_bestGranule cL_bestGranule 4 (some .int) [(0, 9, 12, 13)], Cond.methodLink RL 70 yX3_bestGranule, Cond.instanceMethod yX3_bestGranule, Cond.selects RX3 yX3_bestGranule yX3_bestGranule, Cond.code yX3_bestGranule cX3_bestGranule 6 (some .int)]
def wsL_law0_r33 : List Cond := [Cond.methodLink RL 168 yX4_bestGranule, Cond.instanceMethod yX4_bestGranule, Cond.selects RX4 yX4_bestGranule yX4_bestGranule, Cond.code yX4_bestGranule cX4_bestGranule 6 (some .int), Cond.methodLink RL 169 yL_ifWritten, Cond.static yL_ifWritten, Cond.codeWith yL_ifWritten cL_ifWritten 5 (some .int) [(0, 10, 13, 28), (0, 10, 17, 13), (0, 10, 21, 15)], Cond.methodLink RL 73 yX3_ifWritten, Cond.instanceMethod yX3_ifWritten, Cond.selects RX3 yX3_ifWritten yX3_ifWritten, Cond.code yX3_ifWritten cX3_ifWritten 3 (some .int), Cond.methodLink RL 171 yX4_ifWritten, Cond.instanceMethod yX4_ifWritten, Cond.selects RX4 yX4_ifWritten yX4_ifWritten, Cond.code yX4_ifWritten cX4_ifWritten 3 (some .int), Cond.methodLink RL 172 yX3_stuck, Cond.instanceMethod yX3_stuck, Cond.selects RX3 yX3_stuck yX3_stuck, Cond.code yX3_stuck cX3_stuck 1 (some .int), Cond.methodLink RL 175 yX4_stuck, Cond.instanceMethod yX4_stuck, Cond.selects RX4 yX4_stuck yX4_stuck, Cond.code yX4_stuck cX4_stuck 3 (some .int), Cond.methodLink RL 178 yL_runScript]
def wsL_law0_r34 : List Cond := [Cond.static yL_runScript, Cond.codeWith yL_runScript cL_runScript 6 (some .int) [(0, 11, 14, 13)], Cond.methodLink RL 76 yX3_runScript, Cond.instanceMethod yX3_runScript, Cond.selects RX3 yX3_runScript yX3_runScript, Cond.code yX3_runScript cX3_runScript 6 (some .int), Cond.constantLong RX3 285 (1000000), Cond.methodLink RX3 279 yX3_groupsFrom, Cond.static yX3_groupsFrom, Cond.code yX3_groupsFrom cX3_groupsFrom 6 (some .long), Cond.methodLink RX3 287 yX3_doScriptCommand, Cond.instanceMethod yX3_doScriptCommand, Cond.selects RX3 yX3_doScriptCommand yX3_doScriptCommand, Cond.code yX3_doScriptCommand cX3_doScriptCommand 3 (some .boolean), Cond.constant RX3 290 (100000), Cond.methodLink RL 181 yX4_runScript, Cond.instanceMethod yX4_runScript, Cond.selects RX4 yX4_runScript yX4_runScript, Cond.code yX4_runScript cX4_runScript 8 (some .int), Cond.constantLong RX4 203 (1000000), Cond.constant RX4 205 (100000), Cond.methodLink RX4 206 yX4_command, Cond.instanceMethod yX4_command, Cond.selects RX4 yX4_command yX4_command]
def wsL_law0_r35 : List Cond := [Cond.code yX4_command cX4_command 5 (some .boolean), Cond.methodLink RL 182 yL_simulate, Cond.static yL_simulate, Cond.codeWith yL_simulate cL_simulate 6 (some .int) [(0, 11, 14, 13)], Cond.methodLink RL 80 yX3_simulate, Cond.instanceMethod yX3_simulate, Cond.selects RX3 yX3_simulate yX3_simulate, Cond.code yX3_simulate cX3_simulate 7 (some .int), Cond.constantLong RX3 299 (6364136223846793005), Cond.constantLong RX3 301 (1442695040888963407), Cond.methodLink RX3 303 yX3_takeTurn, Cond.instanceMethod yX3_takeTurn, Cond.selects RX3 yX3_takeTurn yX3_takeTurn, Cond.code yX3_takeTurn cX3_takeTurn 4 none, Cond.methodLink RL 185 yX4_simulate, Cond.instanceMethod yX4_simulate, Cond.selects RX4 yX4_simulate yX4_simulate, Cond.code yX4_simulate cX4_simulate 7 (some .int), Cond.constantLong RX4 209 (6364136223846793005), Cond.constantLong RX4 211 (1442695040888963407), Cond.methodLink RX4 213 yX4_turn, Cond.instanceMethod yX4_turn, Cond.selects RX4 yX4_turn yX4_turn, Cond.code yX4_turn cX4_turn 5 none]
def wsL_law0_r36 : List Cond := [Cond.methodLink RL 186 yL_save, Cond.static yL_save, Cond.codeWith yL_save cL_save 4 (some .int) [(0, 9, 12, 28)], Cond.methodLink RL 84 yX3_save, Cond.instanceMethod yX3_save, Cond.selects RX3 yX3_save yX3_save, Cond.code yX3_save cX3_save 2 (some .int), Cond.methodLink RX3 306 yX3_checkSlot, Cond.static yX3_checkSlot, Cond.code yX3_checkSlot cX3_checkSlot 1 none, Cond.methodLink RL 188 yX4_save, Cond.instanceMethod yX4_save, Cond.selects RX4 yX4_save yX4_save, Cond.code yX4_save cX4_save 2 (some .int), Cond.methodLink RL 189 yL_restore, Cond.static yL_restore, Cond.codeWith yL_restore cL_restore 4 (some .int) [(0, 9, 12, 28), (0, 9, 15, 15)], Cond.methodLink RL 87 yX3_restore, Cond.instanceMethod yX3_restore, Cond.selects RX3 yX3_restore yX3_restore, Cond.code yX3_restore cX3_restore 2 (some .int), Cond.methodLink RL 191 yX4_restore, Cond.instanceMethod yX4_restore, Cond.selects RX4 yX4_restore yX4_restore]
def wsL_law0_r37 : List Cond := [Cond.code yX4_restore cX4_restore 2 (some .int)]
def wsL_law0 : List Cond := (wsL_law0_r1 ++ (wsL_law0_r2 ++ (wsL_law0_r3 ++ (wsL_law0_r4 ++ (wsL_law0_r5 ++ (wsL_law0_r6 ++ (wsL_law0_r7 ++ (wsL_law0_r8 ++ (wsL_law0_r9 ++ (wsL_law0_r10 ++ (wsL_law0_r11 ++ (wsL_law0_r12 ++ (wsL_law0_r13 ++ (wsL_law0_r14 ++ (wsL_law0_r15 ++ (wsL_law0_r16 ++ (wsL_law0_r17 ++ (wsL_law0_r18 ++ (wsL_law0_r19 ++ (wsL_law0_r20 ++ (wsL_law0_r21 ++ (wsL_law0_r22 ++ (wsL_law0_r23 ++ (wsL_law0_r24 ++ (wsL_law0_r25 ++ (wsL_law0_r26 ++ (wsL_law0_r27 ++ (wsL_law0_r28 ++ (wsL_law0_r29 ++ (wsL_law0_r30 ++ (wsL_law0_r31 ++ (wsL_law0_r32 ++ (wsL_law0_r33 ++ (wsL_law0_r34 ++ (wsL_law0_r35 ++ (wsL_law0_r36 ++ wsL_law0_r37)))))))))))))))))))))))))))))))))))) ++ wsX30 ++ wsX40 ++ wsX20 ++ wsX00 ++ wsX10 ++ ([] : List Cond)
def wsL_law : List Cond := wsL_law0 ++ (vx_atS RX3 45 "java/lang/IllegalArgumentException" ["java/lang/RuntimeException", "java/lang/Exception"]).filter goodWord ++ (vx_atS RX3 56 "java/lang/IllegalStateException" ["java/lang/RuntimeException", "java/lang/Exception"]).filter goodWord ++ (vx_atS RX3 162 "java/lang/IndexOutOfBoundsException" ["java/lang/RuntimeException", "java/lang/Exception"]).filter goodWord
abbrev vwCl : List vw_C := [(RX0, TX0, 9), (RX1, TX1, 3), (RX2, TX2, 5), (RX3, TX3, 6), (RX4, TX4, 13)]
end
section
/-! own base: options that are looked into, read-only and writing contracts, their bodies and their calls -/
theorem zn {α : Type} {r : α} {P : Prop} (h : (none : Option α) = some r) : P := nomatch h
theorem zi {P : Prop} [Decidable P] {α : Type} {A : Option α} {r : α} (h : (if P then none else A) = some r) : ¬ P ∧ A = some r := by
  by_cases q : P
  · rw [if_pos q] at h; cases h
  · rw [if_neg q] at h; exact ⟨q, h⟩
theorem zt {P : Prop} [Decidable P] {α : Type} {A B : Option α} {r : α} (c : P) (h : (if P then A else B) = some r) : A = some r := by
  rw [if_pos c] at h; exact h
theorem zf {P : Prop} [Decidable P] {α : Type} {A B : Option α} {r : α} (c : ¬ P) (h : (if P then A else B) = some r) : B = some r := by
  rw [if_neg c] at h; exact h
def ob {α γ : Type} (o : Option α) (k : α → Option γ) : Option γ := match o with
  | none => none
  | some x => k x
def ob2 {α β γ : Type} (o : Option (α × β)) (k : α → β → Option γ) : Option γ := match o with
  | none => none
  | some x => k x.1 x.2
def ob3 {α β β2 γ : Type} (o : Option (α × β × β2)) (k : α → β → β2 → Option γ) : Option γ := match o with
  | none => none
  | some x => k x.1 x.2.1 x.2.2
def ob4 {α β β2 β3 γ : Type} (o : Option (α × β × β2 × β3)) (k : α → β → β2 → β3 → Option γ) : Option γ := match o with
  | none => none
  | some x => k x.1 x.2.1 x.2.2.1 x.2.2.2
def ob5 {α β β2 β3 β4 γ : Type} (o : Option (α × β × β2 × β3 × β4)) (k : α → β → β2 → β3 → β4 → Option γ) : Option γ := match o with
  | none => none
  | some x => k x.1 x.2.1 x.2.2.1 x.2.2.2.1 x.2.2.2.2
def ob6 {α β β2 β3 β4 β5 γ : Type} (o : Option (α × β × β2 × β3 × β4 × β5)) (k : α → β → β2 → β3 → β4 → β5 → Option γ) : Option γ := match o with
  | none => none
  | some x => k x.1 x.2.1 x.2.2.1 x.2.2.2.1 x.2.2.2.2.1 x.2.2.2.2.2
def ob7 {α β β2 β3 β4 β5 β6 γ : Type} (o : Option (α × β × β2 × β3 × β4 × β5 × β6)) (k : α → β → β2 → β3 → β4 → β5 → β6 → Option γ) : Option γ := match o with
  | none => none
  | some x => k x.1 x.2.1 x.2.2.1 x.2.2.2.1 x.2.2.2.2.1 x.2.2.2.2.2.1 x.2.2.2.2.2.2
def ob8 {α β β2 β3 β4 β5 β6 β7 γ : Type} (o : Option (α × β × β2 × β3 × β4 × β5 × β6 × β7)) (k : α → β → β2 → β3 → β4 → β5 → β6 → β7 → Option γ) : Option γ := match o with
  | none => none
  | some x => k x.1 x.2.1 x.2.2.1 x.2.2.2.1 x.2.2.2.2.1 x.2.2.2.2.2.1 x.2.2.2.2.2.2.1 x.2.2.2.2.2.2.2
def ob9 {α β β2 β3 β4 β5 β6 β7 β8 γ : Type} (o : Option (α × β × β2 × β3 × β4 × β5 × β6 × β7 × β8)) (k : α → β → β2 → β3 → β4 → β5 → β6 → β7 → β8 → Option γ) : Option γ := match o with
  | none => none
  | some x => k x.1 x.2.1 x.2.2.1 x.2.2.2.1 x.2.2.2.2.1 x.2.2.2.2.2.1 x.2.2.2.2.2.2.1 x.2.2.2.2.2.2.2.1 x.2.2.2.2.2.2.2.2
theorem zb {α γ : Type} {o : Option α} {k : α → Option γ} {r : γ} (h : ob o k = some r) : ∃ a, o = some a ∧ k a = some r := by
  cases o with
  | none => exact zn h
  | some x => exact ⟨x, rfl, h⟩
theorem zb2 {α β γ : Type} {o : Option (α × β)} {k : α → β → Option γ} {r : γ} (h : ob2 o k = some r) : ∃ a b, o = some (a, b) ∧ k a b = some r := by
  cases o with
  | none => exact zn h
  | some x => exact ⟨x.1, x.2, rfl, h⟩
theorem zb3 {α β β2 γ : Type} {o : Option (α × β × β2)} {k : α → β → β2 → Option γ} {r : γ} (h : ob3 o k = some r) : ∃ a b b2, o = some (a, b, b2) ∧ k a b b2 = some r := by
  cases o with
  | none => exact zn h
  | some x => exact ⟨x.1, x.2.1, x.2.2, rfl, h⟩
theorem zb4 {α β β2 β3 γ : Type} {o : Option (α × β × β2 × β3)} {k : α → β → β2 → β3 → Option γ} {r : γ} (h : ob4 o k = some r) : ∃ a b b2 b3, o = some (a, b, b2, b3) ∧ k a b b2 b3 = some r := by
  cases o with
  | none => exact zn h
  | some x => exact ⟨x.1, x.2.1, x.2.2.1, x.2.2.2, rfl, h⟩
theorem zb5 {α β β2 β3 β4 γ : Type} {o : Option (α × β × β2 × β3 × β4)} {k : α → β → β2 → β3 → β4 → Option γ} {r : γ} (h : ob5 o k = some r) : ∃ a b b2 b3 b4, o = some (a, b, b2, b3, b4) ∧ k a b b2 b3 b4 = some r := by
  cases o with
  | none => exact zn h
  | some x => exact ⟨x.1, x.2.1, x.2.2.1, x.2.2.2.1, x.2.2.2.2, rfl, h⟩
theorem zb6 {α β β2 β3 β4 β5 γ : Type} {o : Option (α × β × β2 × β3 × β4 × β5)} {k : α → β → β2 → β3 → β4 → β5 → Option γ} {r : γ} (h : ob6 o k = some r) : ∃ a b b2 b3 b4 b5, o = some (a, b, b2, b3, b4, b5) ∧ k a b b2 b3 b4 b5 = some r := by
  cases o with
  | none => exact zn h
  | some x => exact ⟨x.1, x.2.1, x.2.2.1, x.2.2.2.1, x.2.2.2.2.1, x.2.2.2.2.2, rfl, h⟩
theorem zb7 {α β β2 β3 β4 β5 β6 γ : Type} {o : Option (α × β × β2 × β3 × β4 × β5 × β6)} {k : α → β → β2 → β3 → β4 → β5 → β6 → Option γ} {r : γ} (h : ob7 o k = some r) : ∃ a b b2 b3 b4 b5 b6, o = some (a, b, b2, b3, b4, b5, b6) ∧ k a b b2 b3 b4 b5 b6 = some r := by
  cases o with
  | none => exact zn h
  | some x => exact ⟨x.1, x.2.1, x.2.2.1, x.2.2.2.1, x.2.2.2.2.1, x.2.2.2.2.2.1, x.2.2.2.2.2.2, rfl, h⟩
theorem zb8 {α β β2 β3 β4 β5 β6 β7 γ : Type} {o : Option (α × β × β2 × β3 × β4 × β5 × β6 × β7)} {k : α → β → β2 → β3 → β4 → β5 → β6 → β7 → Option γ} {r : γ} (h : ob8 o k = some r) : ∃ a b b2 b3 b4 b5 b6 b7, o = some (a, b, b2, b3, b4, b5, b6, b7) ∧ k a b b2 b3 b4 b5 b6 b7 = some r := by
  cases o with
  | none => exact zn h
  | some x => exact ⟨x.1, x.2.1, x.2.2.1, x.2.2.2.1, x.2.2.2.2.1, x.2.2.2.2.2.1, x.2.2.2.2.2.2.1, x.2.2.2.2.2.2.2, rfl, h⟩
theorem zb9 {α β β2 β3 β4 β5 β6 β7 β8 γ : Type} {o : Option (α × β × β2 × β3 × β4 × β5 × β6 × β7 × β8)} {k : α → β → β2 → β3 → β4 → β5 → β6 → β7 → β8 → Option γ} {r : γ} (h : ob9 o k = some r) : ∃ a b b2 b3 b4 b5 b6 b7 b8, o = some (a, b, b2, b3, b4, b5, b6, b7, b8) ∧ k a b b2 b3 b4 b5 b6 b7 b8 = some r := by
  cases o with
  | none => exact zn h
  | some x => exact ⟨x.1, x.2.1, x.2.2.1, x.2.2.2.1, x.2.2.2.2.1, x.2.2.2.2.2.1, x.2.2.2.2.2.2.1, x.2.2.2.2.2.2.2.1, x.2.2.2.2.2.2.2.2, rfl, h⟩
abbrev irem (x y : Int32) : Int32 := x - x / y * y
abbrev lrem (x y : Int64) : Int64 := x - x / y * y
/-- what the worlds take from the tables: the classes' numbers and slots; the array classes of int, char, boolean, of devices, of long -/
abbrev zG : Type := va_G × (ClassId × ClassId × ClassId × ClassId × ClassId)
abbrev zT (g : zG) : List (ClassId × FieldType) := [(g.2.1, .int), (g.2.2.1, .char), (g.2.2.2.1, .boolean), (g.2.2.2.2.1, .object RX0), (g.2.2.2.2.2, .long)]
abbrev zK (g : zG) (U : State) : Prop := va_K g.1 vwCl (zT g) U
abbrev zP (g : zG) (w : va_W) (H : Heap) : Prop := va_P g.1 vwCl w H
/-- answers of a method that changes no cell -/
def zQi (r : Int32) : Array Value → State → Outcome → State → Prop := fun _ st o t => o = .returned (some (.int r)) ∧ t.heap = st.heap
def zQl (r : Int64) : Array Value → State → Outcome → State → Prop := fun _ st o t => o = .returned (some (.long r)) ∧ t.heap = st.heap
def zQv : Array Value → State → Outcome → State → Prop := fun _ st o t => o = .returned none ∧ t.heap = st.heap
/-- answers of a method that changes the cells of its world: the same places, other contents -/
def zWi (g : zG) (w2 : va_W) (r : Int32) (A : Nat → Prop) : Array Value → State → Outcome → State → Prop := fun _ st o t => o = .returned (some (.int r)) ∧ zP g w2 t.heap ∧ va_F A st t
def zWv (g : zG) (w2 : va_W) (A : Nat → Prop) : Array Value → State → Outcome → State → Prop := fun _ st o t => o = .returned none ∧ zP g w2 t.heap ∧ va_F A st t
def Mr (l : Launch) (g : zG) (y : MethodName) (ws : List Cond) (rm : Room) (av : List Value) (w : va_W) (Q : Array Value → State → Outcome → State → Prop) : Prop :=
  Met l y ws rm (va_Pc av (fun U => zP g w U.heap ∧ zK g U)) Q 0 0 (fun _ => False)
def Mw (l : Launch) (g : zG) (y : MethodName) (ws : List Cond) (rm : Room) (av : List Value) (w : va_W) (Q : (Nat → Prop) → Array Value → State → Outcome → State → Prop) : Prop :=
  ∀ sz : Nat, Met l y ws rm (va_Pc av (fun U => U.heap.size = sz ∧ zP g w U.heap ∧ zK g U ∧ va_D (fun _ => True) w)) (Q (va_A w sz)) 0 0 (va_A w sz)
theorem zr_in {l : Launch} {g : zG} {y : MethodName} {ws ws' : List Cond} {rm : Room} {av : List Value} {w : va_W} {Q : Array Value → State → Outcome → State → Prop} {cc : ByteArray} {maxL : Nat} {ret : Option FieldType}
    (hy : plainName y.cls = true) (hw : ws = Cond.code y cc maxL ret :: ws') (hlen : (lg_sl av).length ≤ maxL)
    (k : ∀ (p : Program) (e : Env) (s : State) (m : MethodId) (below : List Frame) (meth : Method) (c : Code), p.tables.exec = Jvm.exec → c.code = cc → meth.sig.returnType = ret → c.maxLocals = maxL → (∀ w ∈ ws, w.before av.toArray s = true) → s.vm.findClass y.cls = some m.cls → meth.locks = false → zP g w s.heap → zK g s →
      ∀ ls : Array Slot, lv_has ls maxL (lv_args 0 av) → W p l e rm s m av.toArray below meth c s.heap [] 0 0 (MQ below Q av.toArray s 0 0 (fun _ => False)) (F0 m 0 ls [])) : Mr l g y ws rm av w Q := by
  refine Met.ofW (cc := cc) (maxL := maxL) (ret := ret) hy hw ?_
  intro p e s m args below meth c s₁ B hml hv
  obtain ⟨rfl, hP, hK⟩ := hv
  have hl := lv_entry av (n := maxL) hlen
  rw [lg_entry_eq]
  exact k p e s m below meth c B.exec B.bytes B.returns hml (atoms_spec (ws := ws) B.pre) (findClass_of_methodNamed B.named) B.notSynchronized hP hK _ hl
theorem zw_in {l : Launch} {g : zG} {y : MethodName} {ws ws' : List Cond} {rm : Room} {av : List Value} {w : va_W} {Q : (Nat → Prop) → Array Value → State → Outcome → State → Prop} {cc : ByteArray} {maxL : Nat} {ret : Option FieldType}
    (hy : plainName y.cls = true) (hw : ws = Cond.code y cc maxL ret :: ws') (hlen : (lg_sl av).length ≤ maxL)
    (k : ∀ (p : Program) (e : Env) (s : State) (m : MethodId) (below : List Frame) (meth : Method) (c : Code), p.tables.exec = Jvm.exec → c.code = cc → meth.sig.returnType = ret → c.maxLocals = maxL → (∀ w ∈ ws, w.before av.toArray s = true) → s.vm.findClass y.cls = some m.cls → meth.locks = false → zK g s →
      ∀ (A : Nat → Prop), (∀ q : Nat, s.heap.size ≤ q → A q) → zP g w s.heap → va_D A w → va_S A s.heap s.heap [] →
      ∀ ls : Array Slot, lv_has ls maxL (lv_args 0 av) → W p l e rm s m av.toArray below meth c s.heap [] 0 0 (MQ below (Q A) av.toArray s 0 0 A) (F0 m 0 ls [])) : Mw l g y ws rm av w Q := by
  intro sz
  refine Met.ofW (cc := cc) (maxL := maxL) (ret := ret) hy hw ?_
  intro p e s m args below meth c s₁ B hml hv
  obtain ⟨rfl, hsz, hP, hK, hD0⟩ := hv
  subst hsz
  have hl := lv_entry av (n := maxL) hlen
  rw [lg_entry_eq]
  exact k p e s m below meth c B.exec B.bytes B.returns hml (atoms_spec (ws := ws) B.pre) (findClass_of_methodNamed B.named) B.notSynchronized hK (va_A w s.heap.size) (fun q h => Or.inr h) hP hD0.self va_S.rf _ hl
section ZR
variable {p : Program} {l : Launch} {e : Env} {R : Room} {s : State} {m : MethodId} {args : Array Value} {below : List Frame} {meth : Method} {c : Code} {H : Heap} {locs : List Loc} {cells slots : Nat} {Q : State → Prop} {g : zG} {cc : ByteArray} {pc : Nat} {ls : Array Slot} {rest st : List Value} {A : Nat → Prop} {a : Nat} {w : va_W} {H0 : Heap}
/-- ends of a read-only body -/
theorem zr_i {r : Int32} (hx : p.tables.exec = Jvm.exec) (hb : c.code = cc) (hr : meth.sig.returnType = some .int) (hlocks : meth.locks = false) (hdg : decode cc pc = .ok (.ireturn, 1)) : W p l e R s m args below meth c s.heap [] cells slots (MQ below (zQi r) args s cells slots (fun _ => False)) (F0 m pc ls [.int r]) :=
  W.iret hx hb hr (fun _ ht _ => ⟨rfl, ht⟩) (fun _ h => by cases h) hdg hlocks
theorem zr_z {r : Int32} (hx : p.tables.exec = Jvm.exec) (hb : c.code = cc) (hr : meth.sig.returnType = some .boolean) (hlocks : meth.locks = false) (hn : r &&& 1 = r) (hdg : decode cc pc = .ok (.ireturn, 1)) : W p l e R s m args below meth c s.heap [] cells slots (MQ below (zQi r) args s cells slots (fun _ => False)) (F0 m pc ls [.int r]) :=
  W.zret hx hb hr (by show Value.int (r &&& 1) = .int r; rw [hn]) (fun _ ht _ => ⟨rfl, ht⟩) (fun _ h => by cases h) hdg hlocks
theorem zr_l {r : Int64} (hx : p.tables.exec = Jvm.exec) (hb : c.code = cc) (hr : meth.sig.returnType = some .long) (hlocks : meth.locks = false) (hdg : decode cc pc = .ok (.lreturn, 1)) : W p l e R s m args below meth c s.heap [] cells slots (MQ below (zQl r) args s cells slots (fun _ => False)) (F0 m pc ls [.long r]) :=
  W.lret hx hb hr (fun _ ht _ => ⟨rfl, ht⟩) (fun _ h => by cases h) hdg hlocks
theorem zr_v (hx : p.tables.exec = Jvm.exec) (hb : c.code = cc) (hr : meth.sig.returnType = none) (hlocks : meth.locks = false) (hdg : decode cc pc = .ok (.return_, 1)) : W p l e R s m args below meth c s.heap [] cells slots (MQ below zQv args s cells slots (fun _ => False)) (F0 m pc ls []) :=
  W.vret hx hb hr (fun _ ht _ => ⟨rfl, ht⟩) (fun _ h => by cases h) hdg hlocks
/-- ends of a writing body -/
theorem zw_i {r : Int32} {w2 : va_W} (hx : p.tables.exec = Jvm.exec) (hb : c.code = cc) (hr : meth.sig.returnType = some .int) (hlocks : meth.locks = false) (hP : zP g w2 H) (hS : va_S A s.heap H locs) (hdg : decode cc pc = .ok (.ireturn, 1)) : W p l e R s m args below meth c H locs cells slots (MQ below (zWi g w2 r A) args s cells slots A) (F0 m pc ls [.int r]) :=
  W.iret hx hb hr (fun _ ht _ => ⟨rfl, by rw [ht]; exact hP, hS.F ht⟩) hS.2.2 hdg hlocks
theorem zw_z {r : Int32} {w2 : va_W} (hx : p.tables.exec = Jvm.exec) (hb : c.code = cc) (hr : meth.sig.returnType = some .boolean) (hlocks : meth.locks = false) (hn : r &&& 1 = r) (hP : zP g w2 H) (hS : va_S A s.heap H locs) (hdg : decode cc pc = .ok (.ireturn, 1)) : W p l e R s m args below meth c H locs cells slots (MQ below (zWi g w2 r A) args s cells slots A) (F0 m pc ls [.int r]) :=
  W.zret hx hb hr (by show Value.int (r &&& 1) = .int r; rw [hn]) (fun _ ht _ => ⟨rfl, by rw [ht]; exact hP, hS.F ht⟩) hS.2.2 hdg hlocks
theorem zw_v {w2 : va_W} (hx : p.tables.exec = Jvm.exec) (hb : c.code = cc) (hr : meth.sig.returnType = none) (hlocks : meth.locks = false) (hP : zP g w2 H) (hS : va_S A s.heap H locs) (hdg : decode cc pc = .ok (.return_, 1)) : W p l e R s m args below meth c H locs cells slots (MQ below (zWv g w2 A) args s cells slots A) (F0 m pc ls []) :=
  W.vret hx hb hr (fun _ ht _ => ⟨rfl, by rw [ht]; exact hP, hS.F ht⟩) hS.2.2 hdg hlocks
/-- array rows, the place by a number of its own -/
theorem za_ild (hx : p.tables.exec = Jvm.exec) (hb : c.code = cc) (hK : zK g s) (hP : zP g w H) (q0 : Nat) {n : Nat} {f : Nat → Int32} (ha : w[q0]? = some (a, .inl (g.2.1, n, .inl f))) {i : Int32} (j : Nat) (hj : i.toNatClampNeg = j) (hin : ¬ (i < 0 ∨ n ≤ j)) (hdg : decode cc pc = .ok (.iaload, 1))
    (kk : W p l e R s m args below meth c H locs cells slots Q (F0 m (pc + 1) ls (.int (f j) :: rest))) : W p l e R s m args below meth c H locs cells slots Q (F0 m pc ls (.int i :: .ref a :: rest)) := by
  subst hj
  exact va_iald hx hb hK hP q0 0 ha rfl hin hdg kk
theorem za_cld (hx : p.tables.exec = Jvm.exec) (hb : c.code = cc) (hK : zK g s) (hP : zP g w H) (q0 : Nat) {n : Nat} {f : Nat → Int32} (ha : w[q0]? = some (a, .inl (g.2.2.1, n, .inl f))) {i : Int32} (j : Nat) (hj : i.toNatClampNeg = j) (hin : ¬ (i < 0 ∨ n ≤ j)) (hdg : decode cc pc = .ok (.caload, 1))
    (kk : W p l e R s m args below meth c H locs cells slots Q (F0 m (pc + 1) ls (.int (f j) :: rest))) : W p l e R s m args below meth c H locs cells slots Q (F0 m pc ls (.int i :: .ref a :: rest)) := by
  subst hj
  exact va_cald hx hb hK hP q0 1 ha rfl hin hdg kk
theorem za_zld (hx : p.tables.exec = Jvm.exec) (hb : c.code = cc) (hK : zK g s) (hP : zP g w H) (q0 : Nat) {n : Nat} {f : Nat → Int32} (ha : w[q0]? = some (a, .inl (g.2.2.2.1, n, .inl f))) {i : Int32} (j : Nat) (hj : i.toNatClampNeg = j) (hin : ¬ (i < 0 ∨ n ≤ j)) (hdg : decode cc pc = .ok (.baload, 1))
    (kk : W p l e R s m args below meth c H locs cells slots Q (F0 m (pc + 1) ls (.int (f j) :: rest))) : W p l e R s m args below meth c H locs cells slots Q (F0 m pc ls (.int i :: .ref a :: rest)) := by
  subst hj
  exact va_zald hx hb hK hP q0 2 ha rfl hin hdg kk
theorem za_ist (hx : p.tables.exec = Jvm.exec) (hb : c.code = cc) (hK : zK g s) (hP : zP g w H) (hD : va_D A w) (hS : va_S A H0 H locs) (q0 : Nat) {n : Nat} {f : Nat → Int32} (ha : w[q0]? = some (a, .inl (g.2.1, n, .inl f))) {i x : Int32} (j : Nat) (hj : i.toNatClampNeg = j) (hin : ¬ (i < 0 ∨ n ≤ j)) (hdg : decode cc pc = .ok (.iastore, 1))
    (kk : ∀ (H1 : Heap) (locs1 : List Loc), zP g (w.set q0 (a, .inl (g.2.1, n, .inl (upd f j x)))) H1 → va_D A (w.set q0 (a, .inl (g.2.1, n, .inl (upd f j x)))) → va_S A H0 H1 locs1 → W p l e R s m args below meth c H1 locs1 cells slots Q (F0 m (pc + 1) ls rest)) : W p l e R s m args below meth c H locs cells slots Q (F0 m pc ls (.int x :: .int i :: .ref a :: rest)) := by
  subst hj
  exact va_iast hx hb hK hP hD hS q0 0 ha rfl hin hdg kk
theorem za_cst (hx : p.tables.exec = Jvm.exec) (hb : c.code = cc) (hK : zK g s) (hP : zP g w H) (hD : va_D A w) (hS : va_S A H0 H locs) (q0 : Nat) {n : Nat} {f : Nat → Int32} (ha : w[q0]? = some (a, .inl (g.2.2.1, n, .inl f))) {i x : Int32} (j : Nat) (hj : i.toNatClampNeg = j) (hin : ¬ (i < 0 ∨ n ≤ j)) (hdg : decode cc pc = .ok (.castore, 1))
    (kk : ∀ (H1 : Heap) (locs1 : List Loc), zP g (w.set q0 (a, .inl (g.2.2.1, n, .inl (upd f j (vp_nar .char x))))) H1 → va_D A (w.set q0 (a, .inl (g.2.2.1, n, .inl (upd f j (vp_nar .char x))))) → va_S A H0 H1 locs1 → W p l e R s m args below meth c H1 locs1 cells slots Q (F0 m (pc + 1) ls rest)) : W p l e R s m args below meth c H locs cells slots Q (F0 m pc ls (.int x :: .int i :: .ref a :: rest)) := by
  subst hj
  exact va_cast hx hb hK hP hD hS q0 1 ha rfl hin hdg kk
theorem za_zst (hx : p.tables.exec = Jvm.exec) (hb : c.code = cc) (hK : zK g s) (hP : zP g w H) (hD : va_D A w) (hS : va_S A H0 H locs) (q0 : Nat) {n : Nat} {f : Nat → Int32} (ha : w[q0]? = some (a, .inl (g.2.2.2.1, n, .inl f))) {i x : Int32} (j : Nat) (hj : i.toNatClampNeg = j) (hin : ¬ (i < 0 ∨ n ≤ j)) (hdg : decode cc pc = .ok (.bastore, 1))
    (kk : ∀ (H1 : Heap) (locs1 : List Loc), zP g (w.set q0 (a, .inl (g.2.2.2.1, n, .inl (upd f j (vp_nar .boolean x))))) H1 → va_D A (w.set q0 (a, .inl (g.2.2.2.1, n, .inl (upd f j (vp_nar .boolean x))))) → va_S A H0 H1 locs1 → W p l e R s m args below meth c H1 locs1 cells slots Q (F0 m (pc + 1) ls rest)) : W p l e R s m args below meth c H locs cells slots Q (F0 m pc ls (.int x :: .int i :: .ref a :: rest)) := by
  subst hj
  exact va_zast hx hb hK hP hD hS q0 2 ha rfl hin hdg kk
/-- calls of a method that changes no cell -/
theorem zr_back {ms mc : Nat} {Qa : State → Outcome → State → Prop} {v0 : Option Value} (hq : ∀ st₀ o t, Qa st₀ o t → o = .returned v0 ∧ t.heap = st₀.heap) (hr : va_Run p l e R s m args below meth c H locs cells slots mc ms (F0 m pc ls st) rest Qa (fun _ => False)) (h1 : mc = 0) (h2 : ms = 0)
    (kk : W p l e R s m args below meth c H locs cells slots Q (F0 m (pc + 3) ls (v0.toList ++ rest))) : W p l e R s m args below meth c H locs cells slots Q (F0 m pc ls st) := by
  subst h1; subst h2
  intro T hT X
  obtain ⟨v, st₀, t, T', L, h0, X', hL, e1, e2, hqa, st⟩ := hr T hT X
  obtain ⟨hv, hh⟩ := hq _ _ _ hqa
  cases hv
  have X2 := Stand.forget (extra := L) X' (fun q h => (hL q h).elim)
  obtain ⟨t2, a1, b1⟩ := kk T' (by rw [e1, hh, h0]) X2
  exact ⟨t2, st t2 a1, b1⟩
end ZR
theorem zblind (g : zG) (av : List Value) (w : va_W) : FrameBlind (va_Pc av (fun U => zP g w U.heap ∧ zK g U)) := fun a U f mk q => ⟨q.1, q.2.1, va_K.moved (u := U) (U := U.calling f mk a) (Vm.Alike.refl U.vm) q.2.2⟩
theorem zblindW (g : zG) (av : List Value) (w : va_W) (sz : Nat) : FrameBlind (va_Pc av (fun U => U.heap.size = sz ∧ zP g w U.heap ∧ zK g U ∧ va_D (fun _ => True) w)) := fun a U f mk q => ⟨q.1, q.2.1, q.2.2.1, va_K.moved (u := U) (U := U.calling f mk a) (Vm.Alike.refl U.vm) q.2.2.2.1, q.2.2.2.2⟩
def zput : va_W → List Nat → va_W → va_W
  | w, i :: is, q :: qs => zput (w.set i q) is qs
  | w, _, _ => w
theorem zput_len : ∀ (is : List Nat) (w qs : va_W), (zput w is qs).length = w.length
  | [], w, qs => by cases qs <;> rfl
  | i :: is, w, [] => rfl
  | i :: is, w, q :: qs => by rw [zput, zput_len is]; exact List.length_set
theorem zput_out : ∀ (is : List Nat) (w qs : va_W) (k : Nat), k ∉ is → (zput w is qs)[k]? = w[k]?
  | [], w, qs, k, _ => by cases qs <;> rfl
  | i :: is, w, [], k, _ => rfl
  | i :: is, w, q :: qs, k, h => by
    rw [zput, zput_out is _ _ k (fun z => h (List.mem_cons_of_mem _ z)), List.getElem?_set_ne (fun z => h (by rw [z]; exact List.mem_cons_self))]
theorem zput_in : ∀ (is : List Nat) (w qs : va_W) (k : Nat) (q : Nat × va_E), k ∈ is → is.length = qs.length → (zput w is qs)[k]? = some q → q ∈ qs
  | [], w, qs, k, q, h, _, _ => by cases h
  | i :: is, w, [], k, q, h, hl, _ => by cases hl
  | i :: is, w, q0 :: qs, k, q, h, hl, hk => by
    rw [zput] at hk
    by_cases hm : k ∈ is
    · exact List.mem_cons_of_mem _ (zput_in is _ qs k q hm (Nat.succ.inj hl) hk)
    · rcases List.mem_cons.mp h with rfl | h
      · rw [zput_out is _ _ _ hm] at hk
        have hlt : k < w.length := by
          have := (List.getElem?_eq_some_iff.mp hk).1
          rwa [List.length_set] at this
        rw [List.getElem?_set_self hlt] at hk
        cases hk
        exact List.mem_cons_self
      · exact absurd h hm
theorem zput_fst : ∀ (is : List Nat) (w qs : va_W), is.map (fun i => (w[i]?).map Prod.fst) = qs.map (fun q => some q.1) → (zput w is qs).map Prod.fst = w.map Prod.fst
  | [], w, qs, _ => by cases qs <;> rfl
  | i :: is, w, [], h => by cases h
  | i :: is, w, q :: qs, h => by
    rw [List.map_cons, List.map_cons] at h
    obtain ⟨h1, h2⟩ := List.cons.inj h
    have e : (w.set i q).map Prod.fst = w.map Prod.fst := by
      apply List.ext_getElem?
      intro k
      rw [List.getElem?_map, List.getElem?_map]
      by_cases hk : i = k
      · subst hk
        cases hw : w[i]? with
        | none => rw [hw] at h1; cases h1
        | some x =>
          have hlt := (List.getElem?_eq_some_iff.mp hw).1
          rw [List.getElem?_set_self hlt]
          rw [hw] at h1
          exact h1.symm
      · rw [List.getElem?_set_ne hk]
    rw [zput, zput_fst is _ qs ?_, e]
    rw [← h2]
    apply List.map_congr_left
    intro j _
    have e2 : ((w.set i q).map Prod.fst)[j]? = (w.map Prod.fst)[j]? := by rw [e]
    rw [List.getElem?_map, List.getElem?_map] at e2
    exact e2
theorem zD_fst {A : Nat → Prop} {w w2 : va_W} (h : va_D A w) (e : w2.map Prod.fst = w.map Prod.fst) : va_D A w2 := by
  have key : ∀ (k : Nat) (q : Nat × va_E), w2[k]? = some q → ∃ q0, w[k]? = some q0 ∧ q0.1 = q.1 := by
    intro k q hk
    have e2 : (w2.map Prod.fst)[k]? = (w.map Prod.fst)[k]? := by rw [e]
    rw [List.getElem?_map, List.getElem?_map, hk] at e2
    cases hw : w[k]? with
    | none => rw [hw] at e2; cases e2
    | some x => rw [hw] at e2; exact ⟨x, rfl, (Option.some.inj e2).symm⟩
  refine ⟨fun i j x y hi hj hxy => ?_, fun k q hk => ?_⟩
  · obtain ⟨x0, h1, h2⟩ := key i x hi
    obtain ⟨y0, h3, h4⟩ := key j y hj
    exact h.1 i j x0 y0 h1 h3 (h2.trans (hxy.trans h4.symm))
  · obtain ⟨q0, h1, h2⟩ := key k q hk
    rw [← h2]
    exact h.2 k q0 h1
/-- behind a writing call: the caller's world with the callee's cells put back in their places -/
theorem zjoin {g : zG} {A : Nat → Prop} {w wc wq : va_W} {H H1 : Heap} (hP : zP g w H) (hD : va_D A w) (is : List Nat) (hC : is.map (fun i => w[i]?) = wc.map some) (hq : wq.map Prod.fst = wc.map Prod.fst)
    (hk : ∀ q : Nat, q < H.size → ¬ va_A wc H.size q → H1[q]? = H[q]?) (hP1 : zP g wq H1) : zP g (zput w is wq) H1 ∧ va_D A (zput w is wq) := by
  have hln : is.length = wq.length := by
    have h1 := congrArg List.length hC
    have h2 := congrArg List.length hq
    simp only [List.length_map] at h1 h2
    omega
  refine ⟨fun k q h => ?_, zD_fst hD (zput_fst is w wq ?_)⟩
  · by_cases hm : k ∈ is
    · obtain ⟨j, hj⟩ := List.getElem?_of_mem (zput_in is w wq k q hm hln h)
      exact hP1 j q hj
    · rw [zput_out is w wq k hm] at h
      have hlt := (hP k q h).lt
      refine (hP k q h).kept (hk q.1 hlt (fun z => ?_))
      rcases z with ⟨k2, e, z⟩ | z
      · have h1 : (is.map (fun i => w[i]?))[k2]? = some (some (q.1, e)) := by rw [hC, List.getElem?_map, z]; rfl
        rw [List.getElem?_map] at h1
        cases hi : is[k2]? with
        | none => rw [hi] at h1; cases h1
        | some i =>
          rw [hi] at h1
          have h4 : w[i]? = some (q.1, e) := Option.some.inj h1
          have hij := hD.1 k i q (q.1, e) h h4 rfl
          subst hij
          exact hm (List.mem_of_getElem? hi)
      · omega
  · have h1 : is.map (fun i => (w[i]?).map Prod.fst) = (is.map (fun i => w[i]?)).map (Option.map Prod.fst) := by rw [List.map_map]; rfl
    have h2 : wc.map (fun q => some q.1) = (wc.map Prod.fst).map some := by rw [List.map_map]; rfl
    have h3 : wq.map (fun q => some q.1) = (wq.map Prod.fst).map some := by rw [List.map_map]; rfl
    rw [h1, hC, h3, hq, ← h2, List.map_map]; rfl
section ZW
variable {p : Program} {l : Launch} {e : Env} {R : Room} {s : State} {m : MethodId} {args : Array Value} {below : List Frame} {meth : Method} {c : Code} {H : Heap} {locs : List Loc} {cells slots : Nat} {Q : State → Prop} {g : zG} {cc : ByteArray} {pc : Nat} {ls : Array Slot} {rest st : List Value} {A : Nat → Prop} {a : Nat} {w : va_W}
  {y : MethodName} {bytes : ByteArray} {maxL nL n index : Nat} {ret : Option FieldType} {ws : List Cond} {rm : Room} {Ts : List Cond} {own C : String} {b : Addr} {As : List Value} {wc : va_W}
theorem zPre (hK : zK g s) (hP : zP g w H) (is : List Nat) (hC : is.map (fun i => w[i]?) = wc.map some) : ∀ U : State, U.heap = H → s.WarmedH U.vm → zP g wc U.heap ∧ zK g U := by
  intro U hU hW
  refine ⟨fun k q hk => ?_, va_K.moved hW.alike hK⟩
  have h1 : (is.map (fun i => w[i]?))[k]? = some (some q) := by rw [hC, List.getElem?_map, hk]; rfl
  rw [List.getElem?_map] at h1
  cases hi : is[k]? with
  | none => rw [hi] at h1; cases h1
  | some i => rw [hi] at h1; rw [hU]; exact hP i q (Option.some.inj h1)
theorem zDre (hD : va_D A w) (is : List Nat) (hn : va_nd is = true) (hC : is.map (fun i => w[i]?) = wc.map some) : va_D (fun _ => True) wc := (hD.sub is hn hC).weaken (fun _ _ _ _ => trivial)
/-- a virtual call of a read-only method -/
theorem zV {Qy : Array Value → State → Outcome → State → Prop} {v0 : Option Value} (hQ : ∀ a st₀ o t, Qy a st₀ o t → o = .returned v0 ∧ t.heap = st₀.heap) (S : CallFix p m c cc nL s args Ts own) (hM : Mr l g y ws rm (.ref b :: As) wc Qy) (cw : CallW R s args own C index y bytes maxL ret ws rm 0 0 n) (hK : zK g s) (hP : zP g w H) (is : List Nat) (hC : is.map (fun i => w[i]?) = wc.map some) (q0 : Nat) {ci : Nat} {fs : List Value} {T : u_T} {N : Nat} (he : w[q0]? = some (b, .inr (ci, fs))) (hc : vwCl[ci]? = some (C, T, N)) (hn : As.length = n) (hsize : ls.size = nL) (hst : st = As.reverse ++ .ref b :: rest) (hW : (rest.map fun v => v.category).sum ≤ 8) (hf : cells ≤ R.cells ∧ slots ≤ R.slots) (hdg : decode cc pc = .ok (.invokevirtual index, 3))
    (kk : W p l e R s m args below meth c H locs cells slots Q (F0 m (pc + 3) ls (v0.toList ++ rest))) : W p l e R s m args below meth c H locs cells slots Q (F0 m pc ls st) :=
  zr_back (hQ _) (va_runV (As := As) (rest := rest) S hM cw ⟨zblind g _ wc, va_recv hK hP (ci := ci) (q0 := q0) hc he, fun U hU hW' => ⟨rfl, zPre hK hP is hC U hU hW'⟩⟩ rfl hn hsize hst (lv_room hW) hdg hf) rfl rfl kk
theorem zS {Qy : Array Value → State → Outcome → State → Prop} {v0 : Option Value} (hQ : ∀ a st₀ o t, Qy a st₀ o t → o = .returned v0 ∧ t.heap = st₀.heap) (S : CallFix p m c cc nL s args Ts own) (hM : Mr l g y ws rm As wc Qy) (cw : CallB R s args own index y bytes maxL ret ws rm 0 0 n ∧ (Cond.static y).before args s = true) (hK : zK g s) (hP : zP g w H) (is : List Nat) (hC : is.map (fun i => w[i]?) = wc.map some) (hn : As.length = n) (hsize : ls.size = nL) (hst : st = As.reverse ++ rest) (hW : (rest.map fun v => v.category).sum ≤ 8) (hf : cells ≤ R.cells ∧ slots ≤ R.slots) (hdg : decode cc pc = .ok (.invokestatic index, 3))
    (kk : W p l e R s m args below meth c H locs cells slots Q (F0 m (pc + 3) ls (v0.toList ++ rest))) : W p l e R s m args below meth c H locs cells slots Q (F0 m pc ls st) :=
  zr_back (hQ _) (va_runS (As := As) (rest := rest) S hM cw ⟨zblind g _ wc, fun U hU hW' => ⟨rfl, zPre hK hP is hC U hU hW'⟩⟩ rfl hn hsize hst (lv_room hW) hdg hf) rfl rfl kk
theorem zQi_q (r : Int32) : ∀ a st₀ o t, zQi r a st₀ o t → o = .returned (some (.int r)) ∧ t.heap = st₀.heap := fun _ _ _ _ h => h
theorem zQl_q (r : Int64) : ∀ a st₀ o t, zQl r a st₀ o t → o = .returned (some (.long r)) ∧ t.heap = st₀.heap := fun _ _ _ _ h => h
theorem zQv_q : ∀ a st₀ o t, zQv a st₀ o t → o = .returned none ∧ t.heap = st₀.heap := fun _ _ _ _ h => h
/-- behind a writing call -/
theorem zw_back {mc ms : Nat} {Qa : State → Outcome → State → Prop} {v0 : Option Value} {wq : va_W} (hq : ∀ st₀ o t, Qa st₀ o t → o = .returned v0 ∧ zP g wq t.heap ∧ va_F (va_A wc H.size) st₀ t) (hr : va_Run p l e R s m args below meth c H locs cells slots mc ms (F0 m pc ls st) rest Qa (va_A wc H.size)) (h1 : mc = 0) (h2 : ms = 0)
    (hP : zP g w H) (hD : va_D A w) (hS : va_S A s.heap H locs) (hA : ∀ q, s.heap.size ≤ q → A q) (is : List Nat) (hC : is.map (fun i => w[i]?) = wc.map some) (he : wq.map Prod.fst = wc.map Prod.fst)
    (kk : ∀ (H1 : Heap) (locs1 : List Loc), zP g (zput w is wq) H1 → va_D A (zput w is wq) → va_S A s.heap H1 locs1 → W p l e R s m args below meth c H1 locs1 cells slots Q (F0 m (pc + 3) ls (v0.toList ++ rest))) : W p l e R s m args below meth c H locs cells slots Q (F0 m pc ls st) := by
  subst h1; subst h2
  intro T hT X
  obtain ⟨v, st₀, t, T', L, h0, X', hL, e1, e2, hqa, st⟩ := hr T hT X
  obtain ⟨hv, hPq, hz, hk⟩ := hq _ _ _ hqa
  cases hv
  rw [h0] at hz hk
  have hfree := va_free hD hS hA is hC
  obtain ⟨hP2, hD2⟩ := zjoin hP hD is hC he hk hPq
  have hS2 : va_S A s.heap T'.heap (locs ++ L) := ⟨Nat.le_trans hS.1 (by rw [e1]; exact hz), fun q h1 h2 => by rw [e1, hk q (Nat.lt_of_lt_of_le h1 hS.1) (fun z => h2 (hfree q z))]; exact hS.2.1 q h1 h2, fun q hq => by
      rcases List.mem_append.mp hq with h | h
      · exact hS.2.2 q h
      · exact hfree _ (hL q h)⟩
  obtain ⟨t2, a1, b1⟩ := kk T'.heap (locs ++ L) (by rw [e1]; exact hP2) hD2 hS2 T' rfl X'
  exact ⟨t2, st t2 a1, b1⟩
theorem zVw {Qy : (Nat → Prop) → Array Value → State → Outcome → State → Prop} {v0 : Option Value} {wq : va_W} (hQ : ∀ A a st₀ o t, Qy A a st₀ o t → o = .returned v0 ∧ zP g wq t.heap ∧ va_F A st₀ t) (S : CallFix p m c cc nL s args Ts own) (hM : Mw l g y ws rm (.ref b :: As) wc Qy) (cw : CallW R s args own C index y bytes maxL ret ws rm 0 0 n) (hK : zK g s) (hP : zP g w H) (hD : va_D A w) (hS : va_S A s.heap H locs) (hA : ∀ q, s.heap.size ≤ q → A q) (is : List Nat) (hnd : va_nd is = true) (hC : is.map (fun i => w[i]?) = wc.map some) (he1 : wq.map Prod.fst = wc.map Prod.fst) (q0 : Nat) {ci : Nat} {fs : List Value} {T : u_T} {N : Nat} (he : w[q0]? = some (b, .inr (ci, fs))) (hc : vwCl[ci]? = some (C, T, N)) (hn : As.length = n) (hsize : ls.size = nL) (hst : st = As.reverse ++ .ref b :: rest) (hW : (rest.map fun v => v.category).sum ≤ 8) (hf : cells ≤ R.cells ∧ slots ≤ R.slots) (hdg : decode cc pc = .ok (.invokevirtual index, 3))
    (kk : ∀ (H1 : Heap) (locs1 : List Loc), zP g (zput w is wq) H1 → va_D A (zput w is wq) → va_S A s.heap H1 locs1 → W p l e R s m args below meth c H1 locs1 cells slots Q (F0 m (pc + 3) ls (v0.toList ++ rest))) : W p l e R s m args below meth c H locs cells slots Q (F0 m pc ls st) :=
  zw_back (wc := wc) (hQ _ _) (va_runV (As := As) (rest := rest) S (hM H.size) cw ⟨zblindW g _ wc H.size, va_recv hK hP (ci := ci) (q0 := q0) hc he, fun U hU hW' => ⟨rfl, by rw [hU], (zPre hK hP is hC U hU hW').1, (zPre hK hP is hC U hU hW').2, zDre hD is hnd hC⟩⟩ rfl hn hsize hst (lv_room hW) hdg hf) rfl rfl hP hD hS hA is hC he1 kk
theorem zSw {Qy : (Nat → Prop) → Array Value → State → Outcome → State → Prop} {v0 : Option Value} {wq : va_W} (hQ : ∀ A a st₀ o t, Qy A a st₀ o t → o = .returned v0 ∧ zP g wq t.heap ∧ va_F A st₀ t) (S : CallFix p m c cc nL s args Ts own) (hM : Mw l g y ws rm As wc Qy) (cw : CallB R s args own index y bytes maxL ret ws rm 0 0 n ∧ (Cond.static y).before args s = true) (hK : zK g s) (hP : zP g w H) (hD : va_D A w) (hS : va_S A s.heap H locs) (hA : ∀ q, s.heap.size ≤ q → A q) (is : List Nat) (hnd : va_nd is = true) (hC : is.map (fun i => w[i]?) = wc.map some) (he1 : wq.map Prod.fst = wc.map Prod.fst) (hn : As.length = n) (hsize : ls.size = nL) (hst : st = As.reverse ++ rest) (hW : (rest.map fun v => v.category).sum ≤ 8) (hf : cells ≤ R.cells ∧ slots ≤ R.slots) (hdg : decode cc pc = .ok (.invokestatic index, 3))
    (kk : ∀ (H1 : Heap) (locs1 : List Loc), zP g (zput w is wq) H1 → va_D A (zput w is wq) → va_S A s.heap H1 locs1 → W p l e R s m args below meth c H1 locs1 cells slots Q (F0 m (pc + 3) ls (v0.toList ++ rest))) : W p l e R s m args below meth c H locs cells slots Q (F0 m pc ls st) :=
  zw_back (wc := wc) (hQ _ _) (va_runS (As := As) (rest := rest) S (hM H.size) cw ⟨zblindW g _ wc H.size, fun U hU hW' => ⟨rfl, by rw [hU], (zPre hK hP is hC U hU hW').1, (zPre hK hP is hC U hU hW').2, zDre hD is hnd hC⟩⟩ rfl hn hsize hst (lv_room hW) hdg hf) rfl rfl hP hD hS hA is hC he1 kk
theorem zWi_q (g : zG) (w2 : va_W) (r : Int32) : ∀ A a st₀ o t, zWi g w2 r A a st₀ o t → o = .returned (some (.int r)) ∧ zP g w2 t.heap ∧ va_F A st₀ t := fun _ _ _ _ _ h => h
theorem zWv_q (g : zG) (w2 : va_W) : ∀ A a st₀ o t, zWv g w2 A a st₀ o t → o = .returned none ∧ zP g w2 t.heap ∧ va_F A st₀ t := fun _ _ _ _ _ h => h
end ZW
end
section
set_option maxRecDepth 20000 in
theorem ggX0_init_X0_makeNew : GoodIn wsX0_init wsX0_makeNew := goodIn_r _ [13, 5, 6, 7, 8, 14, 15, 16, 17, 18, 19, 20, 21, 22, 23, 24, 25, 26, 27, 28, 29, 30, 31, 32, 33, 34, 35] (by decide +kernel) (by decide +kernel)
set_option maxRecDepth 20000 in
theorem gX0_init_X0_makeNew : GoodIn wsX0_init (wsV RX0 24 RX0 yX0_makeNew wsX0_makeNew) := goodIn_app (goodIn_of _ (by decide +kernel)) ggX0_init_X0_makeNew
theorem dX0_init_0 : decode cX0_init 0 = .ok (.aload_n 0, 1) := by decide +kernel
theorem dX0_init_1 : decode cX0_init 1 = .ok (.invokespecial 3, 3) := by decide +kernel
theorem dX0_init_4 : decode cX0_init 4 = .ok (.aload_n 0, 1) := by decide +kernel
theorem dX0_init_5 : decode cX0_init 5 = .ok (.sipush 256, 3) := by decide +kernel
theorem dX0_init_8 : decode cX0_init 8 = .ok (.newarray .int, 2) := by decide +kernel
theorem dX0_init_10 : decode cX0_init 10 = .ok (.putfield 9, 3) := by decide +kernel
theorem dX0_init_13 : decode cX0_init 13 = .ok (.aload_n 0, 1) := by decide +kernel
theorem dX0_init_14 : decode cX0_init 14 = .ok (.iconst 3, 1) := by decide +kernel
theorem dX0_init_15 : decode cX0_init 15 = .ok (.newarray .int, 2) := by decide +kernel
theorem dX0_init_17 : decode cX0_init 17 = .ok (.putfield 15, 3) := by decide +kernel
theorem dX0_init_20 : decode cX0_init 20 = .ok (.aload_n 0, 1) := by decide +kernel
theorem dX0_init_21 : decode cX0_init 21 = .ok (.iconst 3, 1) := by decide +kernel
theorem dX0_init_22 : decode cX0_init 22 = .ok (.newarray .int, 2) := by decide +kernel
theorem dX0_init_24 : decode cX0_init 24 = .ok (.putfield 18, 3) := by decide +kernel
theorem dX0_init_27 : decode cX0_init 27 = .ok (.aload_n 0, 1) := by decide +kernel
theorem dX0_init_28 : decode cX0_init 28 = .ok (.bipush 6, 2) := by decide +kernel
theorem dX0_init_30 : decode cX0_init 30 = .ok (.newarray .int, 2) := by decide +kernel
theorem dX0_init_32 : decode cX0_init 32 = .ok (.putfield 21, 3) := by decide +kernel
theorem dX0_init_35 : decode cX0_init 35 = .ok (.aload_n 0, 1) := by decide +kernel
theorem dX0_init_36 : decode cX0_init 36 = .ok (.invokevirtual 24, 3) := by decide +kernel
theorem dX0_init_39 : decode cX0_init 39 = .ok (.return_, 1) := by decide +kernel
set_option maxRecDepth 20000 in
theorem ggX0_makeNew_J7_fill_53178 : GoodIn wsX0_makeNew wsJ7_fill_53178 := goodIn_r _ [17] (by decide +kernel) (by decide +kernel)
set_option maxRecDepth 20000 in
theorem gX0_makeNew_J7_fill_53178 : GoodIn wsX0_makeNew (va_wsS RX0 27 yJ7_fill_53178 wsJ7_fill_53178) := goodIn_app (goodIn_of _ (by decide +kernel)) ggX0_makeNew_J7_fill_53178
theorem dX0_makeNew_0 : decode cX0_makeNew 0 = .ok (.aload_n 0, 1) := by decide +kernel
theorem dX0_makeNew_1 : decode cX0_makeNew 1 = .ok (.getfield 9, 3) := by decide +kernel
theorem dX0_makeNew_4 : decode cX0_makeNew 4 = .ok (.iconst (-1), 1) := by decide +kernel
theorem dX0_makeNew_5 : decode cX0_makeNew 5 = .ok (.invokestatic 27, 3) := by decide +kernel
theorem dX0_makeNew_8 : decode cX0_makeNew 8 = .ok (.aload_n 0, 1) := by decide +kernel
theorem dX0_makeNew_9 : decode cX0_makeNew 9 = .ok (.getfield 15, 3) := by decide +kernel
theorem dX0_makeNew_12 : decode cX0_makeNew 12 = .ok (.iconst 0, 1) := by decide +kernel
theorem dX0_makeNew_13 : decode cX0_makeNew 13 = .ok (.invokestatic 27, 3) := by decide +kernel
theorem dX0_makeNew_16 : decode cX0_makeNew 16 = .ok (.aload_n 0, 1) := by decide +kernel
theorem dX0_makeNew_17 : decode cX0_makeNew 17 = .ok (.getfield 18, 3) := by decide +kernel
theorem dX0_makeNew_20 : decode cX0_makeNew 20 = .ok (.iconst 0, 1) := by decide +kernel
theorem dX0_makeNew_21 : decode cX0_makeNew 21 = .ok (.invokestatic 27, 3) := by decide +kernel
theorem dX0_makeNew_24 : decode cX0_makeNew 24 = .ok (.getstatic 33, 3) := by decide +kernel
theorem dX0_makeNew_27 : decode cX0_makeNew 27 = .ok (.iconst 0, 1) := by decide +kernel
theorem dX0_makeNew_28 : decode cX0_makeNew 28 = .ok (.aload_n 0, 1) := by decide +kernel
theorem dX0_makeNew_29 : decode cX0_makeNew 29 = .ok (.getfield 21, 3) := by decide +kernel
theorem dX0_makeNew_32 : decode cX0_makeNew 32 = .ok (.iconst 0, 1) := by decide +kernel
theorem dX0_makeNew_33 : decode cX0_makeNew 33 = .ok (.bipush 6, 2) := by decide +kernel
theorem dX0_makeNew_35 : decode cX0_makeNew 35 = .ok (.invokestatic 36, 3) := by decide +kernel
theorem dX0_makeNew_38 : decode cX0_makeNew 38 = .ok (.aload_n 0, 1) := by decide +kernel
theorem dX0_makeNew_39 : decode cX0_makeNew 39 = .ok (.iconst 0, 1) := by decide +kernel
theorem dX0_makeNew_40 : decode cX0_makeNew 40 = .ok (.putfield 42, 3) := by decide +kernel
theorem dX0_makeNew_43 : decode cX0_makeNew 43 = .ok (.aload_n 0, 1) := by decide +kernel
theorem dX0_makeNew_44 : decode cX0_makeNew 44 = .ok (.iconst 0, 1) := by decide +kernel
theorem dX0_makeNew_45 : decode cX0_makeNew 45 = .ok (.putfield 46, 3) := by decide +kernel
theorem dX0_makeNew_48 : decode cX0_makeNew 48 = .ok (.aload_n 0, 1) := by decide +kernel
theorem dX0_makeNew_49 : decode cX0_makeNew 49 = .ok (.iconst 0, 1) := by decide +kernel
theorem dX0_makeNew_50 : decode cX0_makeNew 50 = .ok (.putfield 49, 3) := by decide +kernel
theorem dX0_makeNew_53 : decode cX0_makeNew 53 = .ok (.aload_n 0, 1) := by decide +kernel
theorem dX0_makeNew_54 : decode cX0_makeNew 54 = .ok (.iconst 0, 1) := by decide +kernel
theorem dX0_makeNew_55 : decode cX0_makeNew 55 = .ok (.putfield 52, 3) := by decide +kernel
theorem dX0_makeNew_58 : decode cX0_makeNew 58 = .ok (.aload_n 0, 1) := by decide +kernel
theorem dX0_makeNew_59 : decode cX0_makeNew 59 = .ok (.iconst 0, 1) := by decide +kernel
theorem dX0_makeNew_60 : decode cX0_makeNew 60 = .ok (.putfield 55, 3) := by decide +kernel
theorem dX0_makeNew_63 : decode cX0_makeNew 63 = .ok (.return_, 1) := by decide +kernel
theorem dX0_copyFrom_0 : decode cX0_copyFrom 0 = .ok (.aload_n 1, 1) := by decide +kernel
theorem dX0_copyFrom_1 : decode cX0_copyFrom 1 = .ok (.getfield 9, 3) := by decide +kernel
theorem dX0_copyFrom_4 : decode cX0_copyFrom 4 = .ok (.iconst 0, 1) := by decide +kernel
theorem dX0_copyFrom_5 : decode cX0_copyFrom 5 = .ok (.aload_n 0, 1) := by decide +kernel
theorem dX0_copyFrom_6 : decode cX0_copyFrom 6 = .ok (.getfield 9, 3) := by decide +kernel
theorem dX0_copyFrom_9 : decode cX0_copyFrom 9 = .ok (.iconst 0, 1) := by decide +kernel
theorem dX0_copyFrom_10 : decode cX0_copyFrom 10 = .ok (.sipush 256, 3) := by decide +kernel
theorem dX0_copyFrom_13 : decode cX0_copyFrom 13 = .ok (.invokestatic 36, 3) := by decide +kernel
theorem dX0_copyFrom_16 : decode cX0_copyFrom 16 = .ok (.aload_n 1, 1) := by decide +kernel
theorem dX0_copyFrom_17 : decode cX0_copyFrom 17 = .ok (.getfield 15, 3) := by decide +kernel
theorem dX0_copyFrom_20 : decode cX0_copyFrom 20 = .ok (.iconst 0, 1) := by decide +kernel
theorem dX0_copyFrom_21 : decode cX0_copyFrom 21 = .ok (.aload_n 0, 1) := by decide +kernel
theorem dX0_copyFrom_22 : decode cX0_copyFrom 22 = .ok (.getfield 15, 3) := by decide +kernel
theorem dX0_copyFrom_25 : decode cX0_copyFrom 25 = .ok (.iconst 0, 1) := by decide +kernel
theorem dX0_copyFrom_26 : decode cX0_copyFrom 26 = .ok (.iconst 3, 1) := by decide +kernel
theorem dX0_copyFrom_27 : decode cX0_copyFrom 27 = .ok (.invokestatic 36, 3) := by decide +kernel
theorem dX0_copyFrom_30 : decode cX0_copyFrom 30 = .ok (.aload_n 1, 1) := by decide +kernel
theorem dX0_copyFrom_31 : decode cX0_copyFrom 31 = .ok (.getfield 18, 3) := by decide +kernel
theorem dX0_copyFrom_34 : decode cX0_copyFrom 34 = .ok (.iconst 0, 1) := by decide +kernel
theorem dX0_copyFrom_35 : decode cX0_copyFrom 35 = .ok (.aload_n 0, 1) := by decide +kernel
theorem dX0_copyFrom_36 : decode cX0_copyFrom 36 = .ok (.getfield 18, 3) := by decide +kernel
theorem dX0_copyFrom_39 : decode cX0_copyFrom 39 = .ok (.iconst 0, 1) := by decide +kernel
theorem dX0_copyFrom_40 : decode cX0_copyFrom 40 = .ok (.iconst 3, 1) := by decide +kernel
theorem dX0_copyFrom_41 : decode cX0_copyFrom 41 = .ok (.invokestatic 36, 3) := by decide +kernel
theorem dX0_copyFrom_44 : decode cX0_copyFrom 44 = .ok (.aload_n 1, 1) := by decide +kernel
theorem dX0_copyFrom_45 : decode cX0_copyFrom 45 = .ok (.getfield 21, 3) := by decide +kernel
theorem dX0_copyFrom_48 : decode cX0_copyFrom 48 = .ok (.iconst 0, 1) := by decide +kernel
theorem dX0_copyFrom_49 : decode cX0_copyFrom 49 = .ok (.aload_n 0, 1) := by decide +kernel
theorem dX0_copyFrom_50 : decode cX0_copyFrom 50 = .ok (.getfield 21, 3) := by decide +kernel
theorem dX0_copyFrom_53 : decode cX0_copyFrom 53 = .ok (.iconst 0, 1) := by decide +kernel
theorem dX0_copyFrom_54 : decode cX0_copyFrom 54 = .ok (.bipush 6, 2) := by decide +kernel
theorem dX0_copyFrom_56 : decode cX0_copyFrom 56 = .ok (.invokestatic 36, 3) := by decide +kernel
theorem dX0_copyFrom_59 : decode cX0_copyFrom 59 = .ok (.aload_n 0, 1) := by decide +kernel
theorem dX0_copyFrom_60 : decode cX0_copyFrom 60 = .ok (.aload_n 1, 1) := by decide +kernel
theorem dX0_copyFrom_61 : decode cX0_copyFrom 61 = .ok (.getfield 42, 3) := by decide +kernel
theorem dX0_copyFrom_64 : decode cX0_copyFrom 64 = .ok (.putfield 42, 3) := by decide +kernel
theorem dX0_copyFrom_67 : decode cX0_copyFrom 67 = .ok (.aload_n 0, 1) := by decide +kernel
theorem dX0_copyFrom_68 : decode cX0_copyFrom 68 = .ok (.aload_n 1, 1) := by decide +kernel
theorem dX0_copyFrom_69 : decode cX0_copyFrom 69 = .ok (.getfield 46, 3) := by decide +kernel
theorem dX0_copyFrom_72 : decode cX0_copyFrom 72 = .ok (.putfield 46, 3) := by decide +kernel
theorem dX0_copyFrom_75 : decode cX0_copyFrom 75 = .ok (.aload_n 0, 1) := by decide +kernel
theorem dX0_copyFrom_76 : decode cX0_copyFrom 76 = .ok (.aload_n 1, 1) := by decide +kernel
theorem dX0_copyFrom_77 : decode cX0_copyFrom 77 = .ok (.getfield 49, 3) := by decide +kernel
theorem dX0_copyFrom_80 : decode cX0_copyFrom 80 = .ok (.putfield 49, 3) := by decide +kernel
theorem dX0_copyFrom_83 : decode cX0_copyFrom 83 = .ok (.aload_n 0, 1) := by decide +kernel
theorem dX0_copyFrom_84 : decode cX0_copyFrom 84 = .ok (.aload_n 1, 1) := by decide +kernel
theorem dX0_copyFrom_85 : decode cX0_copyFrom 85 = .ok (.getfield 52, 3) := by decide +kernel
theorem dX0_copyFrom_88 : decode cX0_copyFrom 88 = .ok (.putfield 52, 3) := by decide +kernel
theorem dX0_copyFrom_91 : decode cX0_copyFrom 91 = .ok (.aload_n 0, 1) := by decide +kernel
theorem dX0_copyFrom_92 : decode cX0_copyFrom 92 = .ok (.aload_n 1, 1) := by decide +kernel
theorem dX0_copyFrom_93 : decode cX0_copyFrom 93 = .ok (.getfield 55, 3) := by decide +kernel
theorem dX0_copyFrom_96 : decode cX0_copyFrom 96 = .ok (.putfield 55, 3) := by decide +kernel
theorem dX0_copyFrom_99 : decode cX0_copyFrom 99 = .ok (.return_, 1) := by decide +kernel
theorem dX0_time_0 : decode cX0_time 0 = .ok (.aload_n 0, 1) := by decide +kernel
theorem dX0_time_1 : decode cX0_time 1 = .ok (.getfield 42, 3) := by decide +kernel
theorem dX0_time_4 : decode cX0_time 4 = .ok (.ireturn, 1) := by decide +kernel
theorem dX0_quietTicks_0 : decode cX0_quietTicks 0 = .ok (.aload_n 0, 1) := by decide +kernel
theorem dX0_quietTicks_1 : decode cX0_quietTicks 1 = .ok (.getfield 46, 3) := by decide +kernel
theorem dX0_quietTicks_4 : decode cX0_quietTicks 4 = .ok (.ireturn, 1) := by decide +kernel
theorem dX0_commands_0 : decode cX0_commands 0 = .ok (.aload_n 0, 1) := by decide +kernel
theorem dX0_commands_1 : decode cX0_commands 1 = .ok (.getfield 49, 3) := by decide +kernel
theorem dX0_commands_4 : decode cX0_commands 4 = .ok (.ireturn, 1) := by decide +kernel
theorem dX0_discarded_0 : decode cX0_discarded 0 = .ok (.aload_n 0, 1) := by decide +kernel
theorem dX0_discarded_1 : decode cX0_discarded 1 = .ok (.getfield 52, 3) := by decide +kernel
theorem dX0_discarded_4 : decode cX0_discarded 4 = .ok (.ireturn, 1) := by decide +kernel
theorem dX0_dropped_0 : decode cX0_dropped 0 = .ok (.aload_n 0, 1) := by decide +kernel
theorem dX0_dropped_1 : decode cX0_dropped 1 = .ok (.getfield 55, 3) := by decide +kernel
theorem dX0_dropped_4 : decode cX0_dropped 4 = .ok (.ireturn, 1) := by decide +kernel
theorem dX0_settingAt_0 : decode cX0_settingAt 0 = .ok (.aload_n 0, 1) := by decide +kernel
theorem dX0_settingAt_1 : decode cX0_settingAt 1 = .ok (.getfield 21, 3) := by decide +kernel
theorem dX0_settingAt_4 : decode cX0_settingAt 4 = .ok (.iload_n 1, 1) := by decide +kernel
theorem dX0_settingAt_5 : decode cX0_settingAt 5 = .ok (.iaload, 1) := by decide +kernel
theorem dX0_settingAt_6 : decode cX0_settingAt 6 = .ok (.ireturn, 1) := by decide +kernel
theorem dX0_changeSetting_0 : decode cX0_changeSetting 0 = .ok (.aload_n 0, 1) := by decide +kernel
theorem dX0_changeSetting_1 : decode cX0_changeSetting 1 = .ok (.getfield 21, 3) := by decide +kernel
theorem dX0_changeSetting_4 : decode cX0_changeSetting 4 = .ok (.iload_n 1, 1) := by decide +kernel
theorem dX0_changeSetting_5 : decode cX0_changeSetting 5 = .ok (.iload_n 2, 1) := by decide +kernel
theorem dX0_changeSetting_6 : decode cX0_changeSetting 6 = .ok (.iastore, 1) := by decide +kernel
theorem dX0_changeSetting_7 : decode cX0_changeSetting 7 = .ok (.return_, 1) := by decide +kernel
theorem dX0_isAlive_0 : decode cX0_isAlive 0 = .ok (.aload_n 0, 1) := by decide +kernel
theorem dX0_isAlive_1 : decode cX0_isAlive 1 = .ok (.getfield 9, 3) := by decide +kernel
theorem dX0_isAlive_4 : decode cX0_isAlive 4 = .ok (.iload_n 1, 1) := by decide +kernel
theorem dX0_isAlive_5 : decode cX0_isAlive 5 = .ok (.iaload, 1) := by decide +kernel
theorem dX0_isAlive_6 : decode cX0_isAlive 6 = .ok (.bipush (-2), 2) := by decide +kernel
theorem dX0_isAlive_8 : decode cX0_isAlive 8 = .ok (.if_icmp .ne 7, 3) := by decide +kernel
theorem dX0_isAlive_11 : decode cX0_isAlive 11 = .ok (.iconst 1, 1) := by decide +kernel
theorem dX0_isAlive_12 : decode cX0_isAlive 12 = .ok (.goto 4, 3) := by decide +kernel
theorem dX0_isAlive_15 : decode cX0_isAlive 15 = .ok (.iconst 0, 1) := by decide +kernel
theorem dX0_isAlive_16 : decode cX0_isAlive 16 = .ok (.ireturn, 1) := by decide +kernel
theorem dX0_isHeld_0 : decode cX0_isHeld 0 = .ok (.aload_n 0, 1) := by decide +kernel
theorem dX0_isHeld_1 : decode cX0_isHeld 1 = .ok (.getfield 9, 3) := by decide +kernel
theorem dX0_isHeld_4 : decode cX0_isHeld 4 = .ok (.iload_n 1, 1) := by decide +kernel
theorem dX0_isHeld_5 : decode cX0_isHeld 5 = .ok (.iaload, 1) := by decide +kernel
theorem dX0_isHeld_6 : decode cX0_isHeld 6 = .ok (.iconst (-1), 1) := by decide +kernel
theorem dX0_isHeld_7 : decode cX0_isHeld 7 = .ok (.if_icmp .eq 7, 3) := by decide +kernel
theorem dX0_isHeld_10 : decode cX0_isHeld 10 = .ok (.iconst 1, 1) := by decide +kernel
theorem dX0_isHeld_11 : decode cX0_isHeld 11 = .ok (.goto 4, 3) := by decide +kernel
theorem dX0_isHeld_14 : decode cX0_isHeld 14 = .ok (.iconst 0, 1) := by decide +kernel
theorem dX0_isHeld_15 : decode cX0_isHeld 15 = .ok (.ireturn, 1) := by decide +kernel
theorem dX0_isQueued_0 : decode cX0_isQueued 0 = .ok (.aload_n 0, 1) := by decide +kernel
theorem dX0_isQueued_1 : decode cX0_isQueued 1 = .ok (.getfield 9, 3) := by decide +kernel
theorem dX0_isQueued_4 : decode cX0_isQueued 4 = .ok (.iload_n 1, 1) := by decide +kernel
theorem dX0_isQueued_5 : decode cX0_isQueued 5 = .ok (.iaload, 1) := by decide +kernel
theorem dX0_isQueued_6 : decode cX0_isQueued 6 = .ok (.ifCond .lt 7, 3) := by decide +kernel
theorem dX0_isQueued_9 : decode cX0_isQueued 9 = .ok (.iconst 1, 1) := by decide +kernel
theorem dX0_isQueued_10 : decode cX0_isQueued 10 = .ok (.goto 4, 3) := by decide +kernel
theorem dX0_isQueued_13 : decode cX0_isQueued 13 = .ok (.iconst 0, 1) := by decide +kernel
theorem dX0_isQueued_14 : decode cX0_isQueued 14 = .ok (.ireturn, 1) := by decide +kernel
theorem dX0_count_0 : decode cX0_count 0 = .ok (.iconst 0, 1) := by decide +kernel
theorem dX0_count_1 : decode cX0_count 1 = .ok (.istore_n 2, 1) := by decide +kernel
theorem dX0_count_2 : decode cX0_count 2 = .ok (.iconst 0, 1) := by decide +kernel
theorem dX0_count_3 : decode cX0_count 3 = .ok (.istore_n 3, 1) := by decide +kernel
theorem dX0_count_4 : decode cX0_count 4 = .ok (.iload_n 3, 1) := by decide +kernel
theorem dX0_count_5 : decode cX0_count 5 = .ok (.sipush 256, 3) := by decide +kernel
theorem dX0_count_8 : decode cX0_count 8 = .ok (.if_icmp .ge 22, 3) := by decide +kernel
theorem dX0_count_11 : decode cX0_count 11 = .ok (.aload_n 0, 1) := by decide +kernel
theorem dX0_count_12 : decode cX0_count 12 = .ok (.getfield 9, 3) := by decide +kernel
theorem dX0_count_15 : decode cX0_count 15 = .ok (.iload_n 3, 1) := by decide +kernel
theorem dX0_count_16 : decode cX0_count 16 = .ok (.iaload, 1) := by decide +kernel
theorem dX0_count_17 : decode cX0_count 17 = .ok (.iload_n 1, 1) := by decide +kernel
theorem dX0_count_18 : decode cX0_count 18 = .ok (.if_icmp .ne 6, 3) := by decide +kernel
theorem dX0_count_21 : decode cX0_count 21 = .ok (.iinc 2 1, 3) := by decide +kernel
theorem dX0_count_24 : decode cX0_count 24 = .ok (.iinc 3 1, 3) := by decide +kernel
theorem dX0_count_27 : decode cX0_count 27 = .ok (.goto (-23), 3) := by decide +kernel
theorem dX0_count_30 : decode cX0_count 30 = .ok (.iload_n 2, 1) := by decide +kernel
theorem dX0_count_31 : decode cX0_count 31 = .ok (.ireturn, 1) := by decide +kernel
theorem dX0_countQueued_0 : decode cX0_countQueued 0 = .ok (.iconst 0, 1) := by decide +kernel
theorem dX0_countQueued_1 : decode cX0_countQueued 1 = .ok (.istore_n 1, 1) := by decide +kernel
theorem dX0_countQueued_2 : decode cX0_countQueued 2 = .ok (.iconst 0, 1) := by decide +kernel
theorem dX0_countQueued_3 : decode cX0_countQueued 3 = .ok (.istore_n 2, 1) := by decide +kernel
theorem dX0_countQueued_4 : decode cX0_countQueued 4 = .ok (.iload_n 2, 1) := by decide +kernel
theorem dX0_countQueued_5 : decode cX0_countQueued 5 = .ok (.sipush 256, 3) := by decide +kernel
theorem dX0_countQueued_8 : decode cX0_countQueued 8 = .ok (.if_icmp .ge 21, 3) := by decide +kernel
theorem dX0_countQueued_11 : decode cX0_countQueued 11 = .ok (.aload_n 0, 1) := by decide +kernel
theorem dX0_countQueued_12 : decode cX0_countQueued 12 = .ok (.getfield 9, 3) := by decide +kernel
theorem dX0_countQueued_15 : decode cX0_countQueued 15 = .ok (.iload_n 2, 1) := by decide +kernel
theorem dX0_countQueued_16 : decode cX0_countQueued 16 = .ok (.iaload, 1) := by decide +kernel
theorem dX0_countQueued_17 : decode cX0_countQueued 17 = .ok (.ifCond .lt 6, 3) := by decide +kernel
theorem dX0_countQueued_20 : decode cX0_countQueued 20 = .ok (.iinc 1 1, 3) := by decide +kernel
theorem dX0_countQueued_23 : decode cX0_countQueued 23 = .ok (.iinc 2 1, 3) := by decide +kernel
theorem dX0_countQueued_26 : decode cX0_countQueued 26 = .ok (.goto (-22), 3) := by decide +kernel
theorem dX0_countQueued_29 : decode cX0_countQueued 29 = .ok (.iload_n 1, 1) := by decide +kernel
theorem dX0_countQueued_30 : decode cX0_countQueued 30 = .ok (.ireturn, 1) := by decide +kernel
set_option maxRecDepth 20000 in
theorem ggX0_writeSpan_X0_dropSurplus : GoodIn wsX0_writeSpan wsX0_dropSurplus := goodIn_r _ [7, 1, 8, 9, 10, 11, 6, 12, 13, 14, 15, 16, 17, 18, 19, 20, 21, 22, 23, 24, 25] (by decide +kernel) (by decide +kernel)
set_option maxRecDepth 20000 in
theorem gX0_writeSpan_X0_dropSurplus : GoodIn wsX0_writeSpan (wsV RX0 58 RX0 yX0_dropSurplus wsX0_dropSurplus) := goodIn_app (goodIn_of _ (by decide +kernel)) ggX0_writeSpan_X0_dropSurplus
theorem dX0_writeSpan_0 : decode cX0_writeSpan 0 = .ok (.iconst 0, 1) := by decide +kernel
theorem dX0_writeSpan_1 : decode cX0_writeSpan 1 = .ok (.istore_n 3, 1) := by decide +kernel
theorem dX0_writeSpan_2 : decode cX0_writeSpan 2 = .ok (.iload_n 1, 1) := by decide +kernel
theorem dX0_writeSpan_3 : decode cX0_writeSpan 3 = .ok (.istore 4, 2) := by decide +kernel
theorem dX0_writeSpan_5 : decode cX0_writeSpan 5 = .ok (.iload 4, 2) := by decide +kernel
theorem dX0_writeSpan_7 : decode cX0_writeSpan 7 = .ok (.iload_n 1, 1) := by decide +kernel
theorem dX0_writeSpan_8 : decode cX0_writeSpan 8 = .ok (.iload_n 2, 1) := by decide +kernel
theorem dX0_writeSpan_9 : decode cX0_writeSpan 9 = .ok (.iadd, 1) := by decide +kernel
theorem dX0_writeSpan_10 : decode cX0_writeSpan 10 = .ok (.if_icmp .ge 31, 3) := by decide +kernel
theorem dX0_writeSpan_13 : decode cX0_writeSpan 13 = .ok (.aload_n 0, 1) := by decide +kernel
theorem dX0_writeSpan_14 : decode cX0_writeSpan 14 = .ok (.getfield 9, 3) := by decide +kernel
theorem dX0_writeSpan_17 : decode cX0_writeSpan 17 = .ok (.iload 4, 2) := by decide +kernel
theorem dX0_writeSpan_19 : decode cX0_writeSpan 19 = .ok (.iaload, 1) := by decide +kernel
theorem dX0_writeSpan_20 : decode cX0_writeSpan 20 = .ok (.ifCond .lt 6, 3) := by decide +kernel
theorem dX0_writeSpan_23 : decode cX0_writeSpan 23 = .ok (.iinc 3 1, 3) := by decide +kernel
theorem dX0_writeSpan_26 : decode cX0_writeSpan 26 = .ok (.aload_n 0, 1) := by decide +kernel
theorem dX0_writeSpan_27 : decode cX0_writeSpan 27 = .ok (.getfield 9, 3) := by decide +kernel
theorem dX0_writeSpan_30 : decode cX0_writeSpan 30 = .ok (.iload 4, 2) := by decide +kernel
theorem dX0_writeSpan_32 : decode cX0_writeSpan 32 = .ok (.bipush (-2), 2) := by decide +kernel
theorem dX0_writeSpan_34 : decode cX0_writeSpan 34 = .ok (.iastore, 1) := by decide +kernel
theorem dX0_writeSpan_35 : decode cX0_writeSpan 35 = .ok (.iinc 4 1, 3) := by decide +kernel
theorem dX0_writeSpan_38 : decode cX0_writeSpan 38 = .ok (.goto (-33), 3) := by decide +kernel
theorem dX0_writeSpan_41 : decode cX0_writeSpan 41 = .ok (.aload_n 0, 1) := by decide +kernel
theorem dX0_writeSpan_42 : decode cX0_writeSpan 42 = .ok (.iconst 0, 1) := by decide +kernel
theorem dX0_writeSpan_43 : decode cX0_writeSpan 43 = .ok (.putfield 46, 3) := by decide +kernel
theorem dX0_writeSpan_46 : decode cX0_writeSpan 46 = .ok (.aload_n 0, 1) := by decide +kernel
theorem dX0_writeSpan_47 : decode cX0_writeSpan 47 = .ok (.invokevirtual 58, 3) := by decide +kernel
theorem dX0_writeSpan_50 : decode cX0_writeSpan 50 = .ok (.iload_n 3, 1) := by decide +kernel
theorem dX0_writeSpan_51 : decode cX0_writeSpan 51 = .ok (.ireturn, 1) := by decide +kernel
set_option maxRecDepth 20000 in
theorem ggX0_freeSpan_X0_queueNow : GoodIn wsX0_freeSpan wsX0_queueNow := goodIn_r _ [7, 1, 8, 22, 23, 24, 25, 26, 27, 28, 29, 30] (by decide +kernel) (by decide +kernel)
set_option maxRecDepth 20000 in
theorem gX0_freeSpan_X0_queueNow : GoodIn wsX0_freeSpan (wsV RX0 61 RX0 yX0_queueNow wsX0_queueNow) := goodIn_app (goodIn_of _ (by decide +kernel)) ggX0_freeSpan_X0_queueNow
set_option maxRecDepth 20000 in
theorem ggX0_freeSpan_X0_dropSurplus : GoodIn wsX0_freeSpan wsX0_dropSurplus := goodIn_r _ [12, 1, 13, 14, 15, 16, 6, 17, 18, 19, 20, 21, 22, 23, 24, 25, 26, 27, 28, 29, 30] (by decide +kernel) (by decide +kernel)
set_option maxRecDepth 20000 in
theorem gX0_freeSpan_X0_dropSurplus : GoodIn wsX0_freeSpan (wsV RX0 58 RX0 yX0_dropSurplus wsX0_dropSurplus) := goodIn_app (goodIn_of _ (by decide +kernel)) ggX0_freeSpan_X0_dropSurplus
theorem dX0_freeSpan_0 : decode cX0_freeSpan 0 = .ok (.iconst 0, 1) := by decide +kernel
theorem dX0_freeSpan_1 : decode cX0_freeSpan 1 = .ok (.istore_n 3, 1) := by decide +kernel
theorem dX0_freeSpan_2 : decode cX0_freeSpan 2 = .ok (.iload_n 1, 1) := by decide +kernel
theorem dX0_freeSpan_3 : decode cX0_freeSpan 3 = .ok (.istore 4, 2) := by decide +kernel
theorem dX0_freeSpan_5 : decode cX0_freeSpan 5 = .ok (.iload 4, 2) := by decide +kernel
theorem dX0_freeSpan_7 : decode cX0_freeSpan 7 = .ok (.iload_n 1, 1) := by decide +kernel
theorem dX0_freeSpan_8 : decode cX0_freeSpan 8 = .ok (.iload_n 2, 1) := by decide +kernel
theorem dX0_freeSpan_9 : decode cX0_freeSpan 9 = .ok (.iadd, 1) := by decide +kernel
theorem dX0_freeSpan_10 : decode cX0_freeSpan 10 = .ok (.if_icmp .ge 30, 3) := by decide +kernel
theorem dX0_freeSpan_13 : decode cX0_freeSpan 13 = .ok (.aload_n 0, 1) := by decide +kernel
theorem dX0_freeSpan_14 : decode cX0_freeSpan 14 = .ok (.getfield 9, 3) := by decide +kernel
theorem dX0_freeSpan_17 : decode cX0_freeSpan 17 = .ok (.iload 4, 2) := by decide +kernel
theorem dX0_freeSpan_19 : decode cX0_freeSpan 19 = .ok (.iaload, 1) := by decide +kernel
theorem dX0_freeSpan_20 : decode cX0_freeSpan 20 = .ok (.bipush (-2), 2) := by decide +kernel
theorem dX0_freeSpan_22 : decode cX0_freeSpan 22 = .ok (.if_icmp .ne 12, 3) := by decide +kernel
theorem dX0_freeSpan_25 : decode cX0_freeSpan 25 = .ok (.aload_n 0, 1) := by decide +kernel
theorem dX0_freeSpan_26 : decode cX0_freeSpan 26 = .ok (.iload 4, 2) := by decide +kernel
theorem dX0_freeSpan_28 : decode cX0_freeSpan 28 = .ok (.invokevirtual 61, 3) := by decide +kernel
theorem dX0_freeSpan_31 : decode cX0_freeSpan 31 = .ok (.iinc 3 1, 3) := by decide +kernel
theorem dX0_freeSpan_34 : decode cX0_freeSpan 34 = .ok (.iinc 4 1, 3) := by decide +kernel
theorem dX0_freeSpan_37 : decode cX0_freeSpan 37 = .ok (.goto (-32), 3) := by decide +kernel
theorem dX0_freeSpan_40 : decode cX0_freeSpan 40 = .ok (.aload_n 0, 1) := by decide +kernel
theorem dX0_freeSpan_41 : decode cX0_freeSpan 41 = .ok (.iconst 0, 1) := by decide +kernel
theorem dX0_freeSpan_42 : decode cX0_freeSpan 42 = .ok (.putfield 46, 3) := by decide +kernel
theorem dX0_freeSpan_45 : decode cX0_freeSpan 45 = .ok (.aload_n 0, 1) := by decide +kernel
theorem dX0_freeSpan_46 : decode cX0_freeSpan 46 = .ok (.invokevirtual 58, 3) := by decide +kernel
theorem dX0_freeSpan_49 : decode cX0_freeSpan 49 = .ok (.iload_n 3, 1) := by decide +kernel
theorem dX0_freeSpan_50 : decode cX0_freeSpan 50 = .ok (.ireturn, 1) := by decide +kernel
theorem dX0_queueNow_0 : decode cX0_queueNow 0 = .ok (.aload_n 0, 1) := by decide +kernel
theorem dX0_queueNow_1 : decode cX0_queueNow 1 = .ok (.getfield 9, 3) := by decide +kernel
theorem dX0_queueNow_4 : decode cX0_queueNow 4 = .ok (.iload_n 1, 1) := by decide +kernel
theorem dX0_queueNow_5 : decode cX0_queueNow 5 = .ok (.aload_n 0, 1) := by decide +kernel
theorem dX0_queueNow_6 : decode cX0_queueNow 6 = .ok (.getfield 42, 3) := by decide +kernel
theorem dX0_queueNow_9 : decode cX0_queueNow 9 = .ok (.iastore, 1) := by decide +kernel
theorem dX0_queueNow_10 : decode cX0_queueNow 10 = .ok (.iload_n 1, 1) := by decide +kernel
theorem dX0_queueNow_11 : decode cX0_queueNow 11 = .ok (.iconst 1, 1) := by decide +kernel
theorem dX0_queueNow_12 : decode cX0_queueNow 12 = .ok (.isub, 1) := by decide +kernel
theorem dX0_queueNow_13 : decode cX0_queueNow 13 = .ok (.istore_n 2, 1) := by decide +kernel
theorem dX0_queueNow_14 : decode cX0_queueNow 14 = .ok (.iload_n 2, 1) := by decide +kernel
theorem dX0_queueNow_15 : decode cX0_queueNow 15 = .ok (.ifCond .lt 41, 3) := by decide +kernel
theorem dX0_queueNow_18 : decode cX0_queueNow 18 = .ok (.aload_n 0, 1) := by decide +kernel
theorem dX0_queueNow_19 : decode cX0_queueNow 19 = .ok (.getfield 9, 3) := by decide +kernel
theorem dX0_queueNow_22 : decode cX0_queueNow 22 = .ok (.iload_n 2, 1) := by decide +kernel
theorem dX0_queueNow_23 : decode cX0_queueNow 23 = .ok (.iaload, 1) := by decide +kernel
theorem dX0_queueNow_24 : decode cX0_queueNow 24 = .ok (.ifCond .lt 32, 3) := by decide +kernel
theorem dX0_queueNow_27 : decode cX0_queueNow 27 = .ok (.aload_n 0, 1) := by decide +kernel
theorem dX0_queueNow_28 : decode cX0_queueNow 28 = .ok (.getfield 9, 3) := by decide +kernel
theorem dX0_queueNow_31 : decode cX0_queueNow 31 = .ok (.iload_n 2, 1) := by decide +kernel
theorem dX0_queueNow_32 : decode cX0_queueNow 32 = .ok (.iaload, 1) := by decide +kernel
theorem dX0_queueNow_33 : decode cX0_queueNow 33 = .ok (.aload_n 0, 1) := by decide +kernel
theorem dX0_queueNow_34 : decode cX0_queueNow 34 = .ok (.getfield 42, 3) := by decide +kernel
theorem dX0_queueNow_37 : decode cX0_queueNow 37 = .ok (.if_icmp .eq 19, 3) := by decide +kernel
theorem dX0_queueNow_40 : decode cX0_queueNow 40 = .ok (.aload_n 0, 1) := by decide +kernel
theorem dX0_queueNow_41 : decode cX0_queueNow 41 = .ok (.getfield 9, 3) := by decide +kernel
theorem dX0_queueNow_44 : decode cX0_queueNow 44 = .ok (.iload_n 2, 1) := by decide +kernel
theorem dX0_queueNow_45 : decode cX0_queueNow 45 = .ok (.aload_n 0, 1) := by decide +kernel
theorem dX0_queueNow_46 : decode cX0_queueNow 46 = .ok (.getfield 42, 3) := by decide +kernel
theorem dX0_queueNow_49 : decode cX0_queueNow 49 = .ok (.iastore, 1) := by decide +kernel
theorem dX0_queueNow_50 : decode cX0_queueNow 50 = .ok (.iinc 2 (-1), 3) := by decide +kernel
theorem dX0_queueNow_53 : decode cX0_queueNow 53 = .ok (.goto (-39), 3) := by decide +kernel
theorem dX0_queueNow_56 : decode cX0_queueNow 56 = .ok (.iload_n 1, 1) := by decide +kernel
theorem dX0_queueNow_57 : decode cX0_queueNow 57 = .ok (.iconst 1, 1) := by decide +kernel
theorem dX0_queueNow_58 : decode cX0_queueNow 58 = .ok (.iadd, 1) := by decide +kernel
theorem dX0_queueNow_59 : decode cX0_queueNow 59 = .ok (.istore_n 2, 1) := by decide +kernel
theorem dX0_queueNow_60 : decode cX0_queueNow 60 = .ok (.iload_n 2, 1) := by decide +kernel
theorem dX0_queueNow_61 : decode cX0_queueNow 61 = .ok (.sipush 256, 3) := by decide +kernel
theorem dX0_queueNow_64 : decode cX0_queueNow 64 = .ok (.if_icmp .ge 41, 3) := by decide +kernel
theorem dX0_queueNow_67 : decode cX0_queueNow 67 = .ok (.aload_n 0, 1) := by decide +kernel
theorem dX0_queueNow_68 : decode cX0_queueNow 68 = .ok (.getfield 9, 3) := by decide +kernel
theorem dX0_queueNow_71 : decode cX0_queueNow 71 = .ok (.iload_n 2, 1) := by decide +kernel
theorem dX0_queueNow_72 : decode cX0_queueNow 72 = .ok (.iaload, 1) := by decide +kernel
theorem dX0_queueNow_73 : decode cX0_queueNow 73 = .ok (.ifCond .lt 32, 3) := by decide +kernel
theorem dX0_queueNow_76 : decode cX0_queueNow 76 = .ok (.aload_n 0, 1) := by decide +kernel
theorem dX0_queueNow_77 : decode cX0_queueNow 77 = .ok (.getfield 9, 3) := by decide +kernel
theorem dX0_queueNow_80 : decode cX0_queueNow 80 = .ok (.iload_n 2, 1) := by decide +kernel
theorem dX0_queueNow_81 : decode cX0_queueNow 81 = .ok (.iaload, 1) := by decide +kernel
theorem dX0_queueNow_82 : decode cX0_queueNow 82 = .ok (.aload_n 0, 1) := by decide +kernel
theorem dX0_queueNow_83 : decode cX0_queueNow 83 = .ok (.getfield 42, 3) := by decide +kernel
theorem dX0_queueNow_86 : decode cX0_queueNow 86 = .ok (.if_icmp .eq 19, 3) := by decide +kernel
theorem dX0_queueNow_89 : decode cX0_queueNow 89 = .ok (.aload_n 0, 1) := by decide +kernel
theorem dX0_queueNow_90 : decode cX0_queueNow 90 = .ok (.getfield 9, 3) := by decide +kernel
theorem dX0_queueNow_93 : decode cX0_queueNow 93 = .ok (.iload_n 2, 1) := by decide +kernel
theorem dX0_queueNow_94 : decode cX0_queueNow 94 = .ok (.aload_n 0, 1) := by decide +kernel
theorem dX0_queueNow_95 : decode cX0_queueNow 95 = .ok (.getfield 42, 3) := by decide +kernel
theorem dX0_queueNow_98 : decode cX0_queueNow 98 = .ok (.iastore, 1) := by decide +kernel
theorem dX0_queueNow_99 : decode cX0_queueNow 99 = .ok (.iinc 2 1, 3) := by decide +kernel
theorem dX0_queueNow_102 : decode cX0_queueNow 102 = .ok (.goto (-42), 3) := by decide +kernel
theorem dX0_queueNow_105 : decode cX0_queueNow 105 = .ok (.return_, 1) := by decide +kernel
theorem dX0_pinSpan_0 : decode cX0_pinSpan 0 = .ok (.aload_n 0, 1) := by decide +kernel
theorem dX0_pinSpan_1 : decode cX0_pinSpan 1 = .ok (.getfield 15, 3) := by decide +kernel
theorem dX0_pinSpan_4 : decode cX0_pinSpan 4 = .ok (.iload_n 1, 1) := by decide +kernel
theorem dX0_pinSpan_5 : decode cX0_pinSpan 5 = .ok (.iload_n 2, 1) := by decide +kernel
theorem dX0_pinSpan_6 : decode cX0_pinSpan 6 = .ok (.iastore, 1) := by decide +kernel
theorem dX0_pinSpan_7 : decode cX0_pinSpan 7 = .ok (.aload_n 0, 1) := by decide +kernel
theorem dX0_pinSpan_8 : decode cX0_pinSpan 8 = .ok (.getfield 18, 3) := by decide +kernel
theorem dX0_pinSpan_11 : decode cX0_pinSpan 11 = .ok (.iload_n 1, 1) := by decide +kernel
theorem dX0_pinSpan_12 : decode cX0_pinSpan 12 = .ok (.iload_n 3, 1) := by decide +kernel
theorem dX0_pinSpan_13 : decode cX0_pinSpan 13 = .ok (.iastore, 1) := by decide +kernel
theorem dX0_pinSpan_14 : decode cX0_pinSpan 14 = .ok (.return_, 1) := by decide +kernel
theorem dX0_hasPin_0 : decode cX0_hasPin 0 = .ok (.aload_n 0, 1) := by decide +kernel
theorem dX0_hasPin_1 : decode cX0_hasPin 1 = .ok (.getfield 18, 3) := by decide +kernel
theorem dX0_hasPin_4 : decode cX0_hasPin 4 = .ok (.iload_n 1, 1) := by decide +kernel
theorem dX0_hasPin_5 : decode cX0_hasPin 5 = .ok (.iaload, 1) := by decide +kernel
theorem dX0_hasPin_6 : decode cX0_hasPin 6 = .ok (.ifCond .le 7, 3) := by decide +kernel
theorem dX0_hasPin_9 : decode cX0_hasPin 9 = .ok (.iconst 1, 1) := by decide +kernel
theorem dX0_hasPin_10 : decode cX0_hasPin 10 = .ok (.goto 4, 3) := by decide +kernel
theorem dX0_hasPin_13 : decode cX0_hasPin 13 = .ok (.iconst 0, 1) := by decide +kernel
theorem dX0_hasPin_14 : decode cX0_hasPin 14 = .ok (.ireturn, 1) := by decide +kernel
theorem dX0_firstPinned_0 : decode cX0_firstPinned 0 = .ok (.aload_n 0, 1) := by decide +kernel
theorem dX0_firstPinned_1 : decode cX0_firstPinned 1 = .ok (.getfield 15, 3) := by decide +kernel
theorem dX0_firstPinned_4 : decode cX0_firstPinned 4 = .ok (.iload_n 1, 1) := by decide +kernel
theorem dX0_firstPinned_5 : decode cX0_firstPinned 5 = .ok (.iaload, 1) := by decide +kernel
theorem dX0_firstPinned_6 : decode cX0_firstPinned 6 = .ok (.ireturn, 1) := by decide +kernel
theorem dX0_lengthPinned_0 : decode cX0_lengthPinned 0 = .ok (.aload_n 0, 1) := by decide +kernel
theorem dX0_lengthPinned_1 : decode cX0_lengthPinned 1 = .ok (.getfield 18, 3) := by decide +kernel
theorem dX0_lengthPinned_4 : decode cX0_lengthPinned 4 = .ok (.iload_n 1, 1) := by decide +kernel
theorem dX0_lengthPinned_5 : decode cX0_lengthPinned 5 = .ok (.iaload, 1) := by decide +kernel
theorem dX0_lengthPinned_6 : decode cX0_lengthPinned 6 = .ok (.ireturn, 1) := by decide +kernel
theorem dX0_isAnyPinned_0 : decode cX0_isAnyPinned 0 = .ok (.iconst 0, 1) := by decide +kernel
theorem dX0_isAnyPinned_1 : decode cX0_isAnyPinned 1 = .ok (.istore_n 3, 1) := by decide +kernel
theorem dX0_isAnyPinned_2 : decode cX0_isAnyPinned 2 = .ok (.iload_n 3, 1) := by decide +kernel
theorem dX0_isAnyPinned_3 : decode cX0_isAnyPinned 3 = .ok (.iconst 3, 1) := by decide +kernel
theorem dX0_isAnyPinned_4 : decode cX0_isAnyPinned 4 = .ok (.if_icmp .ge 47, 3) := by decide +kernel
theorem dX0_isAnyPinned_7 : decode cX0_isAnyPinned 7 = .ok (.aload_n 0, 1) := by decide +kernel
theorem dX0_isAnyPinned_8 : decode cX0_isAnyPinned 8 = .ok (.getfield 18, 3) := by decide +kernel
theorem dX0_isAnyPinned_11 : decode cX0_isAnyPinned 11 = .ok (.iload_n 3, 1) := by decide +kernel
theorem dX0_isAnyPinned_12 : decode cX0_isAnyPinned 12 = .ok (.iaload, 1) := by decide +kernel
theorem dX0_isAnyPinned_13 : decode cX0_isAnyPinned 13 = .ok (.ifCond .le 32, 3) := by decide +kernel
theorem dX0_isAnyPinned_16 : decode cX0_isAnyPinned 16 = .ok (.aload_n 0, 1) := by decide +kernel
theorem dX0_isAnyPinned_17 : decode cX0_isAnyPinned 17 = .ok (.getfield 15, 3) := by decide +kernel
theorem dX0_isAnyPinned_20 : decode cX0_isAnyPinned 20 = .ok (.iload_n 3, 1) := by decide +kernel
theorem dX0_isAnyPinned_21 : decode cX0_isAnyPinned 21 = .ok (.iaload, 1) := by decide +kernel
theorem dX0_isAnyPinned_22 : decode cX0_isAnyPinned 22 = .ok (.iload_n 2, 1) := by decide +kernel
theorem dX0_isAnyPinned_23 : decode cX0_isAnyPinned 23 = .ok (.if_icmp .ge 22, 3) := by decide +kernel
theorem dX0_isAnyPinned_26 : decode cX0_isAnyPinned 26 = .ok (.aload_n 0, 1) := by decide +kernel
theorem dX0_isAnyPinned_27 : decode cX0_isAnyPinned 27 = .ok (.getfield 15, 3) := by decide +kernel
theorem dX0_isAnyPinned_30 : decode cX0_isAnyPinned 30 = .ok (.iload_n 3, 1) := by decide +kernel
theorem dX0_isAnyPinned_31 : decode cX0_isAnyPinned 31 = .ok (.iaload, 1) := by decide +kernel
theorem dX0_isAnyPinned_32 : decode cX0_isAnyPinned 32 = .ok (.aload_n 0, 1) := by decide +kernel
theorem dX0_isAnyPinned_33 : decode cX0_isAnyPinned 33 = .ok (.getfield 18, 3) := by decide +kernel
theorem dX0_isAnyPinned_36 : decode cX0_isAnyPinned 36 = .ok (.iload_n 3, 1) := by decide +kernel
theorem dX0_isAnyPinned_37 : decode cX0_isAnyPinned 37 = .ok (.iaload, 1) := by decide +kernel
theorem dX0_isAnyPinned_38 : decode cX0_isAnyPinned 38 = .ok (.iadd, 1) := by decide +kernel
theorem dX0_isAnyPinned_39 : decode cX0_isAnyPinned 39 = .ok (.iload_n 1, 1) := by decide +kernel
theorem dX0_isAnyPinned_40 : decode cX0_isAnyPinned 40 = .ok (.if_icmp .le 5, 3) := by decide +kernel
theorem dX0_isAnyPinned_43 : decode cX0_isAnyPinned 43 = .ok (.iconst 1, 1) := by decide +kernel
theorem dX0_isAnyPinned_44 : decode cX0_isAnyPinned 44 = .ok (.ireturn, 1) := by decide +kernel
theorem dX0_isAnyPinned_45 : decode cX0_isAnyPinned 45 = .ok (.iinc 3 1, 3) := by decide +kernel
theorem dX0_isAnyPinned_48 : decode cX0_isAnyPinned 48 = .ok (.goto (-46), 3) := by decide +kernel
theorem dX0_isAnyPinned_51 : decode cX0_isAnyPinned 51 = .ok (.iconst 0, 1) := by decide +kernel
theorem dX0_isAnyPinned_52 : decode cX0_isAnyPinned 52 = .ok (.ireturn, 1) := by decide +kernel
set_option maxRecDepth 20000 in
theorem ggX0_countPinned_X0_isAnyPinned : GoodIn wsX0_countPinned wsX0_isAnyPinned := goodIn_r _ [5, 6, 7, 8, 9, 10, 11, 12, 13, 14, 15, 16] (by decide +kernel) (by decide +kernel)
set_option maxRecDepth 20000 in
theorem gX0_countPinned_X0_isAnyPinned : GoodIn wsX0_countPinned (wsV RX0 65 RX0 yX0_isAnyPinned wsX0_isAnyPinned) := goodIn_app (goodIn_of _ (by decide +kernel)) ggX0_countPinned_X0_isAnyPinned
theorem dX0_countPinned_0 : decode cX0_countPinned 0 = .ok (.iconst 0, 1) := by decide +kernel
theorem dX0_countPinned_1 : decode cX0_countPinned 1 = .ok (.istore_n 1, 1) := by decide +kernel
theorem dX0_countPinned_2 : decode cX0_countPinned 2 = .ok (.iconst 0, 1) := by decide +kernel
theorem dX0_countPinned_3 : decode cX0_countPinned 3 = .ok (.istore_n 2, 1) := by decide +kernel
theorem dX0_countPinned_4 : decode cX0_countPinned 4 = .ok (.iload_n 2, 1) := by decide +kernel
theorem dX0_countPinned_5 : decode cX0_countPinned 5 = .ok (.sipush 256, 3) := by decide +kernel
theorem dX0_countPinned_8 : decode cX0_countPinned 8 = .ok (.if_icmp .ge 23, 3) := by decide +kernel
theorem dX0_countPinned_11 : decode cX0_countPinned 11 = .ok (.aload_n 0, 1) := by decide +kernel
theorem dX0_countPinned_12 : decode cX0_countPinned 12 = .ok (.iload_n 2, 1) := by decide +kernel
theorem dX0_countPinned_13 : decode cX0_countPinned 13 = .ok (.iload_n 2, 1) := by decide +kernel
theorem dX0_countPinned_14 : decode cX0_countPinned 14 = .ok (.iconst 1, 1) := by decide +kernel
theorem dX0_countPinned_15 : decode cX0_countPinned 15 = .ok (.iadd, 1) := by decide +kernel
theorem dX0_countPinned_16 : decode cX0_countPinned 16 = .ok (.invokevirtual 65, 3) := by decide +kernel
theorem dX0_countPinned_19 : decode cX0_countPinned 19 = .ok (.ifCond .eq 6, 3) := by decide +kernel
theorem dX0_countPinned_22 : decode cX0_countPinned 22 = .ok (.iinc 1 1, 3) := by decide +kernel
theorem dX0_countPinned_25 : decode cX0_countPinned 25 = .ok (.iinc 2 1, 3) := by decide +kernel
theorem dX0_countPinned_28 : decode cX0_countPinned 28 = .ok (.goto (-24), 3) := by decide +kernel
theorem dX0_countPinned_31 : decode cX0_countPinned 31 = .ok (.iload_n 1, 1) := by decide +kernel
theorem dX0_countPinned_32 : decode cX0_countPinned 32 = .ok (.ireturn, 1) := by decide +kernel
set_option maxRecDepth 20000 in
theorem ggX0_countRanges_X0_countRangesAhead : GoodIn wsX0_countRanges wsX0_countRangesAhead := goodIn_r _ [5, 6, 7, 8, 9, 10, 11, 12, 13, 14, 15] (by decide +kernel) (by decide +kernel)
set_option maxRecDepth 20000 in
theorem gX0_countRanges_X0_countRangesAhead : GoodIn wsX0_countRanges (wsV RX0 69 RX0 yX0_countRangesAhead wsX0_countRangesAhead) := goodIn_app (goodIn_of _ (by decide +kernel)) ggX0_countRanges_X0_countRangesAhead
theorem dX0_countRanges_0 : decode cX0_countRanges 0 = .ok (.aload_n 0, 1) := by decide +kernel
theorem dX0_countRanges_1 : decode cX0_countRanges 1 = .ok (.sipush 256, 3) := by decide +kernel
theorem dX0_countRanges_4 : decode cX0_countRanges 4 = .ok (.invokevirtual 69, 3) := by decide +kernel
theorem dX0_countRanges_7 : decode cX0_countRanges 7 = .ok (.ireturn, 1) := by decide +kernel
theorem dX0_countRangesAhead_0 : decode cX0_countRangesAhead 0 = .ok (.iconst 0, 1) := by decide +kernel
theorem dX0_countRangesAhead_1 : decode cX0_countRangesAhead 1 = .ok (.istore_n 2, 1) := by decide +kernel
theorem dX0_countRangesAhead_2 : decode cX0_countRangesAhead 2 = .ok (.iconst 0, 1) := by decide +kernel
theorem dX0_countRangesAhead_3 : decode cX0_countRangesAhead 3 = .ok (.istore_n 3, 1) := by decide +kernel
theorem dX0_countRangesAhead_4 : decode cX0_countRangesAhead 4 = .ok (.iconst 0, 1) := by decide +kernel
theorem dX0_countRangesAhead_5 : decode cX0_countRangesAhead 5 = .ok (.istore 4, 2) := by decide +kernel
theorem dX0_countRangesAhead_7 : decode cX0_countRangesAhead 7 = .ok (.iload 4, 2) := by decide +kernel
theorem dX0_countRangesAhead_9 : decode cX0_countRangesAhead 9 = .ok (.iload_n 1, 1) := by decide +kernel
theorem dX0_countRangesAhead_10 : decode cX0_countRangesAhead 10 = .ok (.if_icmp .ge 41, 3) := by decide +kernel
theorem dX0_countRangesAhead_13 : decode cX0_countRangesAhead 13 = .ok (.aload_n 0, 1) := by decide +kernel
theorem dX0_countRangesAhead_14 : decode cX0_countRangesAhead 14 = .ok (.getfield 9, 3) := by decide +kernel
theorem dX0_countRangesAhead_17 : decode cX0_countRangesAhead 17 = .ok (.iload 4, 2) := by decide +kernel
theorem dX0_countRangesAhead_19 : decode cX0_countRangesAhead 19 = .ok (.iaload, 1) := by decide +kernel
theorem dX0_countRangesAhead_20 : decode cX0_countRangesAhead 20 = .ok (.ifCond .lt 7, 3) := by decide +kernel
theorem dX0_countRangesAhead_23 : decode cX0_countRangesAhead 23 = .ok (.iconst 1, 1) := by decide +kernel
theorem dX0_countRangesAhead_24 : decode cX0_countRangesAhead 24 = .ok (.goto 4, 3) := by decide +kernel
theorem dX0_countRangesAhead_27 : decode cX0_countRangesAhead 27 = .ok (.iconst 0, 1) := by decide +kernel
theorem dX0_countRangesAhead_28 : decode cX0_countRangesAhead 28 = .ok (.istore 5, 2) := by decide +kernel
theorem dX0_countRangesAhead_30 : decode cX0_countRangesAhead 30 = .ok (.iload 5, 2) := by decide +kernel
theorem dX0_countRangesAhead_32 : decode cX0_countRangesAhead 32 = .ok (.ifCond .eq 10, 3) := by decide +kernel
theorem dX0_countRangesAhead_35 : decode cX0_countRangesAhead 35 = .ok (.iload_n 3, 1) := by decide +kernel
theorem dX0_countRangesAhead_36 : decode cX0_countRangesAhead 36 = .ok (.ifCond .ne 6, 3) := by decide +kernel
theorem dX0_countRangesAhead_39 : decode cX0_countRangesAhead 39 = .ok (.iinc 2 1, 3) := by decide +kernel
theorem dX0_countRangesAhead_42 : decode cX0_countRangesAhead 42 = .ok (.iload 5, 2) := by decide +kernel
theorem dX0_countRangesAhead_44 : decode cX0_countRangesAhead 44 = .ok (.istore_n 3, 1) := by decide +kernel
theorem dX0_countRangesAhead_45 : decode cX0_countRangesAhead 45 = .ok (.iinc 4 1, 3) := by decide +kernel
theorem dX0_countRangesAhead_48 : decode cX0_countRangesAhead 48 = .ok (.goto (-41), 3) := by decide +kernel
theorem dX0_countRangesAhead_51 : decode cX0_countRangesAhead 51 = .ok (.iload_n 2, 1) := by decide +kernel
theorem dX0_countRangesAhead_52 : decode cX0_countRangesAhead 52 = .ok (.ireturn, 1) := by decide +kernel
set_option maxRecDepth 20000 in
theorem ggX0_rangeOf_X0_countRangesAhead : GoodIn wsX0_rangeOf wsX0_countRangesAhead := goodIn_r _ [6, 1, 7, 8, 9, 10, 11, 12, 13, 14, 15] (by decide +kernel) (by decide +kernel)
set_option maxRecDepth 20000 in
theorem gX0_rangeOf_X0_countRangesAhead : GoodIn wsX0_rangeOf (wsV RX0 69 RX0 yX0_countRangesAhead wsX0_countRangesAhead) := goodIn_app (goodIn_of _ (by decide +kernel)) ggX0_rangeOf_X0_countRangesAhead
theorem dX0_rangeOf_0 : decode cX0_rangeOf 0 = .ok (.aload_n 0, 1) := by decide +kernel
theorem dX0_rangeOf_1 : decode cX0_rangeOf 1 = .ok (.getfield 9, 3) := by decide +kernel
theorem dX0_rangeOf_4 : decode cX0_rangeOf 4 = .ok (.iload_n 1, 1) := by decide +kernel
theorem dX0_rangeOf_5 : decode cX0_rangeOf 5 = .ok (.iaload, 1) := by decide +kernel
theorem dX0_rangeOf_6 : decode cX0_rangeOf 6 = .ok (.ifCond .lt 15, 3) := by decide +kernel
theorem dX0_rangeOf_9 : decode cX0_rangeOf 9 = .ok (.aload_n 0, 1) := by decide +kernel
theorem dX0_rangeOf_10 : decode cX0_rangeOf 10 = .ok (.iload_n 1, 1) := by decide +kernel
theorem dX0_rangeOf_11 : decode cX0_rangeOf 11 = .ok (.iconst 1, 1) := by decide +kernel
theorem dX0_rangeOf_12 : decode cX0_rangeOf 12 = .ok (.iadd, 1) := by decide +kernel
theorem dX0_rangeOf_13 : decode cX0_rangeOf 13 = .ok (.invokevirtual 69, 3) := by decide +kernel
theorem dX0_rangeOf_16 : decode cX0_rangeOf 16 = .ok (.iconst 1, 1) := by decide +kernel
theorem dX0_rangeOf_17 : decode cX0_rangeOf 17 = .ok (.isub, 1) := by decide +kernel
theorem dX0_rangeOf_18 : decode cX0_rangeOf 18 = .ok (.goto 4, 3) := by decide +kernel
theorem dX0_rangeOf_21 : decode cX0_rangeOf 21 = .ok (.iconst (-1), 1) := by decide +kernel
theorem dX0_rangeOf_22 : decode cX0_rangeOf 22 = .ok (.ireturn, 1) := by decide +kernel
theorem dX0_firstOfRange_0 : decode cX0_firstOfRange 0 = .ok (.iload_n 1, 1) := by decide +kernel
theorem dX0_firstOfRange_1 : decode cX0_firstOfRange 1 = .ok (.istore_n 2, 1) := by decide +kernel
theorem dX0_firstOfRange_2 : decode cX0_firstOfRange 2 = .ok (.iconst 0, 1) := by decide +kernel
theorem dX0_firstOfRange_3 : decode cX0_firstOfRange 3 = .ok (.istore_n 3, 1) := by decide +kernel
theorem dX0_firstOfRange_4 : decode cX0_firstOfRange 4 = .ok (.iconst 0, 1) := by decide +kernel
theorem dX0_firstOfRange_5 : decode cX0_firstOfRange 5 = .ok (.istore 4, 2) := by decide +kernel
theorem dX0_firstOfRange_7 : decode cX0_firstOfRange 7 = .ok (.iload 4, 2) := by decide +kernel
theorem dX0_firstOfRange_9 : decode cX0_firstOfRange 9 = .ok (.sipush 256, 3) := by decide +kernel
theorem dX0_firstOfRange_12 : decode cX0_firstOfRange 12 = .ok (.if_icmp .ge 48, 3) := by decide +kernel
theorem dX0_firstOfRange_15 : decode cX0_firstOfRange 15 = .ok (.aload_n 0, 1) := by decide +kernel
theorem dX0_firstOfRange_16 : decode cX0_firstOfRange 16 = .ok (.getfield 9, 3) := by decide +kernel
theorem dX0_firstOfRange_19 : decode cX0_firstOfRange 19 = .ok (.iload 4, 2) := by decide +kernel
theorem dX0_firstOfRange_21 : decode cX0_firstOfRange 21 = .ok (.iaload, 1) := by decide +kernel
theorem dX0_firstOfRange_22 : decode cX0_firstOfRange 22 = .ok (.ifCond .lt 7, 3) := by decide +kernel
theorem dX0_firstOfRange_25 : decode cX0_firstOfRange 25 = .ok (.iconst 1, 1) := by decide +kernel
theorem dX0_firstOfRange_26 : decode cX0_firstOfRange 26 = .ok (.goto 4, 3) := by decide +kernel
theorem dX0_firstOfRange_29 : decode cX0_firstOfRange 29 = .ok (.iconst 0, 1) := by decide +kernel
theorem dX0_firstOfRange_30 : decode cX0_firstOfRange 30 = .ok (.istore 5, 2) := by decide +kernel
theorem dX0_firstOfRange_32 : decode cX0_firstOfRange 32 = .ok (.iload 5, 2) := by decide +kernel
theorem dX0_firstOfRange_34 : decode cX0_firstOfRange 34 = .ok (.ifCond .eq 17, 3) := by decide +kernel
theorem dX0_firstOfRange_37 : decode cX0_firstOfRange 37 = .ok (.iload_n 3, 1) := by decide +kernel
theorem dX0_firstOfRange_38 : decode cX0_firstOfRange 38 = .ok (.ifCond .ne 13, 3) := by decide +kernel
theorem dX0_firstOfRange_41 : decode cX0_firstOfRange 41 = .ok (.iload_n 2, 1) := by decide +kernel
theorem dX0_firstOfRange_42 : decode cX0_firstOfRange 42 = .ok (.ifCond .ne 6, 3) := by decide +kernel
theorem dX0_firstOfRange_45 : decode cX0_firstOfRange 45 = .ok (.iload 4, 2) := by decide +kernel
theorem dX0_firstOfRange_47 : decode cX0_firstOfRange 47 = .ok (.ireturn, 1) := by decide +kernel
theorem dX0_firstOfRange_48 : decode cX0_firstOfRange 48 = .ok (.iinc 2 (-1), 3) := by decide +kernel
theorem dX0_firstOfRange_51 : decode cX0_firstOfRange 51 = .ok (.iload 5, 2) := by decide +kernel
theorem dX0_firstOfRange_53 : decode cX0_firstOfRange 53 = .ok (.istore_n 3, 1) := by decide +kernel
theorem dX0_firstOfRange_54 : decode cX0_firstOfRange 54 = .ok (.iinc 4 1, 3) := by decide +kernel
theorem dX0_firstOfRange_57 : decode cX0_firstOfRange 57 = .ok (.goto (-50), 3) := by decide +kernel
theorem dX0_firstOfRange_60 : decode cX0_firstOfRange 60 = .ok (.iconst 0, 1) := by decide +kernel
theorem dX0_firstOfRange_61 : decode cX0_firstOfRange 61 = .ok (.ireturn, 1) := by decide +kernel
theorem dX0_endOfRange_0 : decode cX0_endOfRange 0 = .ok (.iload_n 1, 1) := by decide +kernel
theorem dX0_endOfRange_1 : decode cX0_endOfRange 1 = .ok (.istore_n 2, 1) := by decide +kernel
theorem dX0_endOfRange_2 : decode cX0_endOfRange 2 = .ok (.iload_n 2, 1) := by decide +kernel
theorem dX0_endOfRange_3 : decode cX0_endOfRange 3 = .ok (.sipush 256, 3) := by decide +kernel
theorem dX0_endOfRange_6 : decode cX0_endOfRange 6 = .ok (.if_icmp .ge 18, 3) := by decide +kernel
theorem dX0_endOfRange_9 : decode cX0_endOfRange 9 = .ok (.aload_n 0, 1) := by decide +kernel
theorem dX0_endOfRange_10 : decode cX0_endOfRange 10 = .ok (.getfield 9, 3) := by decide +kernel
theorem dX0_endOfRange_13 : decode cX0_endOfRange 13 = .ok (.iload_n 2, 1) := by decide +kernel
theorem dX0_endOfRange_14 : decode cX0_endOfRange 14 = .ok (.iaload, 1) := by decide +kernel
theorem dX0_endOfRange_15 : decode cX0_endOfRange 15 = .ok (.ifCond .lt 9, 3) := by decide +kernel
theorem dX0_endOfRange_18 : decode cX0_endOfRange 18 = .ok (.iinc 2 1, 3) := by decide +kernel
theorem dX0_endOfRange_21 : decode cX0_endOfRange 21 = .ok (.goto (-19), 3) := by decide +kernel
theorem dX0_endOfRange_24 : decode cX0_endOfRange 24 = .ok (.iload_n 2, 1) := by decide +kernel
theorem dX0_endOfRange_25 : decode cX0_endOfRange 25 = .ok (.ireturn, 1) := by decide +kernel
theorem dX0_timeOf_0 : decode cX0_timeOf 0 = .ok (.aload_n 0, 1) := by decide +kernel
theorem dX0_timeOf_1 : decode cX0_timeOf 1 = .ok (.getfield 9, 3) := by decide +kernel
theorem dX0_timeOf_4 : decode cX0_timeOf 4 = .ok (.iload_n 1, 1) := by decide +kernel
theorem dX0_timeOf_5 : decode cX0_timeOf 5 = .ok (.iaload, 1) := by decide +kernel
theorem dX0_timeOf_6 : decode cX0_timeOf 6 = .ok (.ireturn, 1) := by decide +kernel
theorem dX0_isDue_0 : decode cX0_isDue 0 = .ok (.aload_n 0, 1) := by decide +kernel
theorem dX0_isDue_1 : decode cX0_isDue 1 = .ok (.getfield 42, 3) := by decide +kernel
theorem dX0_isDue_4 : decode cX0_isDue 4 = .ok (.aload_n 0, 1) := by decide +kernel
theorem dX0_isDue_5 : decode cX0_isDue 5 = .ok (.getfield 9, 3) := by decide +kernel
theorem dX0_isDue_8 : decode cX0_isDue 8 = .ok (.iload_n 1, 1) := by decide +kernel
theorem dX0_isDue_9 : decode cX0_isDue 9 = .ok (.iaload, 1) := by decide +kernel
theorem dX0_isDue_10 : decode cX0_isDue 10 = .ok (.isub, 1) := by decide +kernel
theorem dX0_isDue_11 : decode cX0_isDue 11 = .ok (.aload_n 0, 1) := by decide +kernel
theorem dX0_isDue_12 : decode cX0_isDue 12 = .ok (.getfield 21, 3) := by decide +kernel
theorem dX0_isDue_15 : decode cX0_isDue 15 = .ok (.iconst 3, 1) := by decide +kernel
theorem dX0_isDue_16 : decode cX0_isDue 16 = .ok (.iaload, 1) := by decide +kernel
theorem dX0_isDue_17 : decode cX0_isDue 17 = .ok (.if_icmp .lt 7, 3) := by decide +kernel
theorem dX0_isDue_20 : decode cX0_isDue 20 = .ok (.iconst 1, 1) := by decide +kernel
theorem dX0_isDue_21 : decode cX0_isDue 21 = .ok (.goto 4, 3) := by decide +kernel
theorem dX0_isDue_24 : decode cX0_isDue 24 = .ok (.iconst 0, 1) := by decide +kernel
theorem dX0_isDue_25 : decode cX0_isDue 25 = .ok (.ireturn, 1) := by decide +kernel
set_option maxRecDepth 20000 in
theorem ggX0_dropSurplus_X0_countRangesAhead : GoodIn wsX0_dropSurplus wsX0_countRangesAhead := goodIn_r _ [7, 1, 12, 13, 14, 15, 16, 17, 18, 19, 20] (by decide +kernel) (by decide +kernel)
set_option maxRecDepth 20000 in
theorem gX0_dropSurplus_X0_countRangesAhead : GoodIn wsX0_dropSurplus (wsV RX0 69 RX0 yX0_countRangesAhead wsX0_countRangesAhead) := goodIn_app (goodIn_of _ (by decide +kernel)) ggX0_dropSurplus_X0_countRangesAhead
set_option maxRecDepth 20000 in
theorem ggX0_dropSurplus_X0_shortestRange : GoodIn wsX0_dropSurplus wsX0_shortestRange := goodIn_r _ [11, 1, 12, 13, 14, 15, 16, 17, 18, 19, 20] (by decide +kernel) (by decide +kernel)
set_option maxRecDepth 20000 in
theorem gX0_dropSurplus_X0_shortestRange : GoodIn wsX0_dropSurplus (wsV RX0 73 RX0 yX0_shortestRange wsX0_shortestRange) := goodIn_app (goodIn_of _ (by decide +kernel)) ggX0_dropSurplus_X0_shortestRange
theorem dX0_dropSurplus_0 : decode cX0_dropSurplus 0 = .ok (.aload_n 0, 1) := by decide +kernel
theorem dX0_dropSurplus_1 : decode cX0_dropSurplus 1 = .ok (.sipush 256, 3) := by decide +kernel
theorem dX0_dropSurplus_4 : decode cX0_dropSurplus 4 = .ok (.invokevirtual 69, 3) := by decide +kernel
theorem dX0_dropSurplus_7 : decode cX0_dropSurplus 7 = .ok (.bipush 16, 2) := by decide +kernel
theorem dX0_dropSurplus_9 : decode cX0_dropSurplus 9 = .ok (.isub, 1) := by decide +kernel
theorem dX0_dropSurplus_10 : decode cX0_dropSurplus 10 = .ok (.istore_n 1, 1) := by decide +kernel
theorem dX0_dropSurplus_11 : decode cX0_dropSurplus 11 = .ok (.iload_n 1, 1) := by decide +kernel
theorem dX0_dropSurplus_12 : decode cX0_dropSurplus 12 = .ok (.ifCond .le 56, 3) := by decide +kernel
theorem dX0_dropSurplus_15 : decode cX0_dropSurplus 15 = .ok (.aload_n 0, 1) := by decide +kernel
theorem dX0_dropSurplus_16 : decode cX0_dropSurplus 16 = .ok (.invokevirtual 73, 3) := by decide +kernel
theorem dX0_dropSurplus_19 : decode cX0_dropSurplus 19 = .ok (.istore_n 2, 1) := by decide +kernel
theorem dX0_dropSurplus_20 : decode cX0_dropSurplus 20 = .ok (.iload_n 2, 1) := by decide +kernel
theorem dX0_dropSurplus_21 : decode cX0_dropSurplus 21 = .ok (.istore_n 3, 1) := by decide +kernel
theorem dX0_dropSurplus_22 : decode cX0_dropSurplus 22 = .ok (.iload_n 3, 1) := by decide +kernel
theorem dX0_dropSurplus_23 : decode cX0_dropSurplus 23 = .ok (.sipush 256, 3) := by decide +kernel
theorem dX0_dropSurplus_26 : decode cX0_dropSurplus 26 = .ok (.if_icmp .ge 26, 3) := by decide +kernel
theorem dX0_dropSurplus_29 : decode cX0_dropSurplus 29 = .ok (.aload_n 0, 1) := by decide +kernel
theorem dX0_dropSurplus_30 : decode cX0_dropSurplus 30 = .ok (.getfield 9, 3) := by decide +kernel
theorem dX0_dropSurplus_33 : decode cX0_dropSurplus 33 = .ok (.iload_n 3, 1) := by decide +kernel
theorem dX0_dropSurplus_34 : decode cX0_dropSurplus 34 = .ok (.iaload, 1) := by decide +kernel
theorem dX0_dropSurplus_35 : decode cX0_dropSurplus 35 = .ok (.ifCond .lt 17, 3) := by decide +kernel
theorem dX0_dropSurplus_38 : decode cX0_dropSurplus 38 = .ok (.aload_n 0, 1) := by decide +kernel
theorem dX0_dropSurplus_39 : decode cX0_dropSurplus 39 = .ok (.getfield 9, 3) := by decide +kernel
theorem dX0_dropSurplus_42 : decode cX0_dropSurplus 42 = .ok (.iload_n 3, 1) := by decide +kernel
theorem dX0_dropSurplus_43 : decode cX0_dropSurplus 43 = .ok (.bipush (-3), 2) := by decide +kernel
theorem dX0_dropSurplus_45 : decode cX0_dropSurplus 45 = .ok (.iastore, 1) := by decide +kernel
theorem dX0_dropSurplus_46 : decode cX0_dropSurplus 46 = .ok (.iinc 3 1, 3) := by decide +kernel
theorem dX0_dropSurplus_49 : decode cX0_dropSurplus 49 = .ok (.goto (-27), 3) := by decide +kernel
theorem dX0_dropSurplus_52 : decode cX0_dropSurplus 52 = .ok (.aload_n 0, 1) := by decide +kernel
theorem dX0_dropSurplus_53 : decode cX0_dropSurplus 53 = .ok (.dup, 1) := by decide +kernel
theorem dX0_dropSurplus_54 : decode cX0_dropSurplus 54 = .ok (.getfield 55, 3) := by decide +kernel
theorem dX0_dropSurplus_57 : decode cX0_dropSurplus 57 = .ok (.iconst 1, 1) := by decide +kernel
theorem dX0_dropSurplus_58 : decode cX0_dropSurplus 58 = .ok (.iadd, 1) := by decide +kernel
theorem dX0_dropSurplus_59 : decode cX0_dropSurplus 59 = .ok (.putfield 55, 3) := by decide +kernel
theorem dX0_dropSurplus_62 : decode cX0_dropSurplus 62 = .ok (.iinc 1 (-1), 3) := by decide +kernel
theorem dX0_dropSurplus_65 : decode cX0_dropSurplus 65 = .ok (.goto (-54), 3) := by decide +kernel
theorem dX0_dropSurplus_68 : decode cX0_dropSurplus 68 = .ok (.return_, 1) := by decide +kernel
theorem dX0_shortestRange_0 : decode cX0_shortestRange 0 = .ok (.iconst 0, 1) := by decide +kernel
theorem dX0_shortestRange_1 : decode cX0_shortestRange 1 = .ok (.istore_n 1, 1) := by decide +kernel
theorem dX0_shortestRange_2 : decode cX0_shortestRange 2 = .ok (.sipush 257, 3) := by decide +kernel
theorem dX0_shortestRange_5 : decode cX0_shortestRange 5 = .ok (.istore_n 2, 1) := by decide +kernel
theorem dX0_shortestRange_6 : decode cX0_shortestRange 6 = .ok (.iconst 0, 1) := by decide +kernel
theorem dX0_shortestRange_7 : decode cX0_shortestRange 7 = .ok (.istore_n 3, 1) := by decide +kernel
theorem dX0_shortestRange_8 : decode cX0_shortestRange 8 = .ok (.iconst 0, 1) := by decide +kernel
theorem dX0_shortestRange_9 : decode cX0_shortestRange 9 = .ok (.istore 4, 2) := by decide +kernel
theorem dX0_shortestRange_11 : decode cX0_shortestRange 11 = .ok (.iload 4, 2) := by decide +kernel
theorem dX0_shortestRange_13 : decode cX0_shortestRange 13 = .ok (.sipush 256, 3) := by decide +kernel
theorem dX0_shortestRange_16 : decode cX0_shortestRange 16 = .ok (.if_icmp .gt 51, 3) := by decide +kernel
theorem dX0_shortestRange_19 : decode cX0_shortestRange 19 = .ok (.iload 4, 2) := by decide +kernel
theorem dX0_shortestRange_21 : decode cX0_shortestRange 21 = .ok (.sipush 256, 3) := by decide +kernel
theorem dX0_shortestRange_24 : decode cX0_shortestRange 24 = .ok (.if_icmp .ge 19, 3) := by decide +kernel
theorem dX0_shortestRange_27 : decode cX0_shortestRange 27 = .ok (.aload_n 0, 1) := by decide +kernel
theorem dX0_shortestRange_28 : decode cX0_shortestRange 28 = .ok (.getfield 9, 3) := by decide +kernel
theorem dX0_shortestRange_31 : decode cX0_shortestRange 31 = .ok (.iload 4, 2) := by decide +kernel
theorem dX0_shortestRange_33 : decode cX0_shortestRange 33 = .ok (.iaload, 1) := by decide +kernel
theorem dX0_shortestRange_34 : decode cX0_shortestRange 34 = .ok (.ifCond .lt 9, 3) := by decide +kernel
theorem dX0_shortestRange_37 : decode cX0_shortestRange 37 = .ok (.iinc 3 1, 3) := by decide +kernel
theorem dX0_shortestRange_40 : decode cX0_shortestRange 40 = .ok (.goto 21, 3) := by decide +kernel
theorem dX0_shortestRange_43 : decode cX0_shortestRange 43 = .ok (.iload_n 3, 1) := by decide +kernel
theorem dX0_shortestRange_44 : decode cX0_shortestRange 44 = .ok (.ifCond .le 15, 3) := by decide +kernel
theorem dX0_shortestRange_47 : decode cX0_shortestRange 47 = .ok (.iload_n 3, 1) := by decide +kernel
theorem dX0_shortestRange_48 : decode cX0_shortestRange 48 = .ok (.iload_n 2, 1) := by decide +kernel
theorem dX0_shortestRange_49 : decode cX0_shortestRange 49 = .ok (.if_icmp .ge 10, 3) := by decide +kernel
theorem dX0_shortestRange_52 : decode cX0_shortestRange 52 = .ok (.iload 4, 2) := by decide +kernel
theorem dX0_shortestRange_54 : decode cX0_shortestRange 54 = .ok (.iload_n 3, 1) := by decide +kernel
theorem dX0_shortestRange_55 : decode cX0_shortestRange 55 = .ok (.isub, 1) := by decide +kernel
theorem dX0_shortestRange_56 : decode cX0_shortestRange 56 = .ok (.istore_n 1, 1) := by decide +kernel
theorem dX0_shortestRange_57 : decode cX0_shortestRange 57 = .ok (.iload_n 3, 1) := by decide +kernel
theorem dX0_shortestRange_58 : decode cX0_shortestRange 58 = .ok (.istore_n 2, 1) := by decide +kernel
theorem dX0_shortestRange_59 : decode cX0_shortestRange 59 = .ok (.iconst 0, 1) := by decide +kernel
theorem dX0_shortestRange_60 : decode cX0_shortestRange 60 = .ok (.istore_n 3, 1) := by decide +kernel
theorem dX0_shortestRange_61 : decode cX0_shortestRange 61 = .ok (.iinc 4 1, 3) := by decide +kernel
theorem dX0_shortestRange_64 : decode cX0_shortestRange 64 = .ok (.goto (-53), 3) := by decide +kernel
theorem dX0_shortestRange_67 : decode cX0_shortestRange 67 = .ok (.iload_n 1, 1) := by decide +kernel
theorem dX0_shortestRange_68 : decode cX0_shortestRange 68 = .ok (.ireturn, 1) := by decide +kernel
theorem dX0_granuleSize_0 : decode cX0_granuleSize 0 = .ok (.iconst 1, 1) := by decide +kernel
theorem dX0_granuleSize_1 : decode cX0_granuleSize 1 = .ok (.aload_n 0, 1) := by decide +kernel
theorem dX0_granuleSize_2 : decode cX0_granuleSize 2 = .ok (.getfield 21, 3) := by decide +kernel
theorem dX0_granuleSize_5 : decode cX0_granuleSize 5 = .ok (.iconst 0, 1) := by decide +kernel
theorem dX0_granuleSize_6 : decode cX0_granuleSize 6 = .ok (.iaload, 1) := by decide +kernel
theorem dX0_granuleSize_7 : decode cX0_granuleSize 7 = .ok (.ishl, 1) := by decide +kernel
theorem dX0_granuleSize_8 : decode cX0_granuleSize 8 = .ok (.ireturn, 1) := by decide +kernel
set_option maxRecDepth 20000 in
theorem ggX0_isFree_X0_granuleSize : GoodIn wsX0_isFree wsX0_granuleSize := goodIn_r _ [7, 1, 14, 15, 16, 17, 18, 19, 20, 21, 22] (by decide +kernel) (by decide +kernel)
set_option maxRecDepth 20000 in
theorem gX0_isFree_X0_granuleSize : GoodIn wsX0_isFree (wsV RX0 77 RX0 yX0_granuleSize wsX0_granuleSize) := goodIn_app (goodIn_of _ (by decide +kernel)) ggX0_isFree_X0_granuleSize
set_option maxRecDepth 20000 in
theorem ggX0_isFree_X0_isAnyPinned : GoodIn wsX0_isFree wsX0_isAnyPinned := goodIn_r _ [11, 12, 13, 14, 15, 16, 17, 18, 19, 20, 21, 22] (by decide +kernel) (by decide +kernel)
set_option maxRecDepth 20000 in
theorem gX0_isFree_X0_isAnyPinned : GoodIn wsX0_isFree (wsV RX0 65 RX0 yX0_isAnyPinned wsX0_isAnyPinned) := goodIn_app (goodIn_of _ (by decide +kernel)) ggX0_isFree_X0_isAnyPinned
theorem dX0_isFree_0 : decode cX0_isFree 0 = .ok (.iload_n 1, 1) := by decide +kernel
theorem dX0_isFree_1 : decode cX0_isFree 1 = .ok (.aload_n 0, 1) := by decide +kernel
theorem dX0_isFree_2 : decode cX0_isFree 2 = .ok (.getfield 21, 3) := by decide +kernel
theorem dX0_isFree_5 : decode cX0_isFree 5 = .ok (.iconst 0, 1) := by decide +kernel
theorem dX0_isFree_6 : decode cX0_isFree 6 = .ok (.iaload, 1) := by decide +kernel
theorem dX0_isFree_7 : decode cX0_isFree 7 = .ok (.ishl, 1) := by decide +kernel
theorem dX0_isFree_8 : decode cX0_isFree 8 = .ok (.istore_n 2, 1) := by decide +kernel
theorem dX0_isFree_9 : decode cX0_isFree 9 = .ok (.iload_n 2, 1) := by decide +kernel
theorem dX0_isFree_10 : decode cX0_isFree 10 = .ok (.aload_n 0, 1) := by decide +kernel
theorem dX0_isFree_11 : decode cX0_isFree 11 = .ok (.invokevirtual 77, 3) := by decide +kernel
theorem dX0_isFree_14 : decode cX0_isFree 14 = .ok (.iadd, 1) := by decide +kernel
theorem dX0_isFree_15 : decode cX0_isFree 15 = .ok (.istore_n 3, 1) := by decide +kernel
theorem dX0_isFree_16 : decode cX0_isFree 16 = .ok (.iload_n 2, 1) := by decide +kernel
theorem dX0_isFree_17 : decode cX0_isFree 17 = .ok (.ifCond .lt 10, 3) := by decide +kernel
theorem dX0_isFree_20 : decode cX0_isFree 20 = .ok (.iload_n 3, 1) := by decide +kernel
theorem dX0_isFree_21 : decode cX0_isFree 21 = .ok (.sipush 256, 3) := by decide +kernel
theorem dX0_isFree_24 : decode cX0_isFree 24 = .ok (.if_icmp .le 5, 3) := by decide +kernel
theorem dX0_isFree_27 : decode cX0_isFree 27 = .ok (.iconst 0, 1) := by decide +kernel
theorem dX0_isFree_28 : decode cX0_isFree 28 = .ok (.ireturn, 1) := by decide +kernel
theorem dX0_isFree_29 : decode cX0_isFree 29 = .ok (.iload_n 2, 1) := by decide +kernel
theorem dX0_isFree_30 : decode cX0_isFree 30 = .ok (.istore 4, 2) := by decide +kernel
theorem dX0_isFree_32 : decode cX0_isFree 32 = .ok (.iload 4, 2) := by decide +kernel
theorem dX0_isFree_34 : decode cX0_isFree 34 = .ok (.iload_n 3, 1) := by decide +kernel
theorem dX0_isFree_35 : decode cX0_isFree 35 = .ok (.if_icmp .ge 21, 3) := by decide +kernel
theorem dX0_isFree_38 : decode cX0_isFree 38 = .ok (.aload_n 0, 1) := by decide +kernel
theorem dX0_isFree_39 : decode cX0_isFree 39 = .ok (.getfield 9, 3) := by decide +kernel
theorem dX0_isFree_42 : decode cX0_isFree 42 = .ok (.iload 4, 2) := by decide +kernel
theorem dX0_isFree_44 : decode cX0_isFree 44 = .ok (.iaload, 1) := by decide +kernel
theorem dX0_isFree_45 : decode cX0_isFree 45 = .ok (.ifCond .ge 5, 3) := by decide +kernel
theorem dX0_isFree_48 : decode cX0_isFree 48 = .ok (.iconst 0, 1) := by decide +kernel
theorem dX0_isFree_49 : decode cX0_isFree 49 = .ok (.ireturn, 1) := by decide +kernel
theorem dX0_isFree_50 : decode cX0_isFree 50 = .ok (.iinc 4 1, 3) := by decide +kernel
theorem dX0_isFree_53 : decode cX0_isFree 53 = .ok (.goto (-21), 3) := by decide +kernel
theorem dX0_isFree_56 : decode cX0_isFree 56 = .ok (.aload_n 0, 1) := by decide +kernel
theorem dX0_isFree_57 : decode cX0_isFree 57 = .ok (.iload_n 2, 1) := by decide +kernel
theorem dX0_isFree_58 : decode cX0_isFree 58 = .ok (.iload_n 3, 1) := by decide +kernel
theorem dX0_isFree_59 : decode cX0_isFree 59 = .ok (.invokevirtual 65, 3) := by decide +kernel
theorem dX0_isFree_62 : decode cX0_isFree 62 = .ok (.ifCond .ne 7, 3) := by decide +kernel
theorem dX0_isFree_65 : decode cX0_isFree 65 = .ok (.iconst 1, 1) := by decide +kernel
theorem dX0_isFree_66 : decode cX0_isFree 66 = .ok (.goto 4, 3) := by decide +kernel
theorem dX0_isFree_69 : decode cX0_isFree 69 = .ok (.iconst 0, 1) := by decide +kernel
theorem dX0_isFree_70 : decode cX0_isFree 70 = .ok (.ireturn, 1) := by decide +kernel
set_option maxRecDepth 20000 in
theorem ggX0_granuleFrom_X0_granuleSize : GoodIn wsX0_granuleFrom wsX0_granuleSize := goodIn_r _ [6, 1, 7, 8, 9, 10, 11, 12, 13, 14, 15] (by decide +kernel) (by decide +kernel)
set_option maxRecDepth 20000 in
theorem gX0_granuleFrom_X0_granuleSize : GoodIn wsX0_granuleFrom (wsV RX0 77 RX0 yX0_granuleSize wsX0_granuleSize) := goodIn_app (goodIn_of _ (by decide +kernel)) ggX0_granuleFrom_X0_granuleSize
theorem dX0_granuleFrom_0 : decode cX0_granuleFrom 0 = .ok (.iload_n 1, 1) := by decide +kernel
theorem dX0_granuleFrom_1 : decode cX0_granuleFrom 1 = .ok (.aload_n 0, 1) := by decide +kernel
theorem dX0_granuleFrom_2 : decode cX0_granuleFrom 2 = .ok (.invokevirtual 77, 3) := by decide +kernel
theorem dX0_granuleFrom_5 : decode cX0_granuleFrom 5 = .ok (.iadd, 1) := by decide +kernel
theorem dX0_granuleFrom_6 : decode cX0_granuleFrom 6 = .ok (.iconst 1, 1) := by decide +kernel
theorem dX0_granuleFrom_7 : decode cX0_granuleFrom 7 = .ok (.isub, 1) := by decide +kernel
theorem dX0_granuleFrom_8 : decode cX0_granuleFrom 8 = .ok (.aload_n 0, 1) := by decide +kernel
theorem dX0_granuleFrom_9 : decode cX0_granuleFrom 9 = .ok (.getfield 21, 3) := by decide +kernel
theorem dX0_granuleFrom_12 : decode cX0_granuleFrom 12 = .ok (.iconst 0, 1) := by decide +kernel
theorem dX0_granuleFrom_13 : decode cX0_granuleFrom 13 = .ok (.iaload, 1) := by decide +kernel
theorem dX0_granuleFrom_14 : decode cX0_granuleFrom 14 = .ok (.ishr, 1) := by decide +kernel
theorem dX0_granuleFrom_15 : decode cX0_granuleFrom 15 = .ok (.ireturn, 1) := by decide +kernel
set_option maxRecDepth 20000 in
theorem ggX0_countPieces_X0_granuleFrom : GoodIn wsX0_countPieces wsX0_granuleFrom := goodIn_r _ [6, 1, 7, 8, 9, 5, 10, 22, 23, 24, 25, 26, 27, 28, 29, 30] (by decide +kernel) (by decide +kernel)
set_option maxRecDepth 20000 in
theorem gX0_countPieces_X0_granuleFrom : GoodIn wsX0_countPieces (wsV RX0 80 RX0 yX0_granuleFrom wsX0_granuleFrom) := goodIn_app (goodIn_of _ (by decide +kernel)) ggX0_countPieces_X0_granuleFrom
set_option maxRecDepth 20000 in
theorem ggX0_countPieces_X0_isFree : GoodIn wsX0_countPieces wsX0_isFree := goodIn_r _ [14, 1, 15, 7, 8, 9, 5, 10, 16, 17, 18, 19, 20, 21, 22, 23, 24, 25, 26, 27, 28, 29, 30] (by decide +kernel) (by decide +kernel)
set_option maxRecDepth 20000 in
theorem gX0_countPieces_X0_isFree : GoodIn wsX0_countPieces (wsV RX0 83 RX0 yX0_isFree wsX0_isFree) := goodIn_app (goodIn_of _ (by decide +kernel)) ggX0_countPieces_X0_isFree
theorem dX0_countPieces_0 : decode cX0_countPieces 0 = .ok (.iconst 0, 1) := by decide +kernel
theorem dX0_countPieces_1 : decode cX0_countPieces 1 = .ok (.istore_n 3, 1) := by decide +kernel
theorem dX0_countPieces_2 : decode cX0_countPieces 2 = .ok (.iconst 0, 1) := by decide +kernel
theorem dX0_countPieces_3 : decode cX0_countPieces 3 = .ok (.istore 4, 2) := by decide +kernel
theorem dX0_countPieces_5 : decode cX0_countPieces 5 = .ok (.iload_n 2, 1) := by decide +kernel
theorem dX0_countPieces_6 : decode cX0_countPieces 6 = .ok (.aload_n 0, 1) := by decide +kernel
theorem dX0_countPieces_7 : decode cX0_countPieces 7 = .ok (.getfield 21, 3) := by decide +kernel
theorem dX0_countPieces_10 : decode cX0_countPieces 10 = .ok (.iconst 0, 1) := by decide +kernel
theorem dX0_countPieces_11 : decode cX0_countPieces 11 = .ok (.iaload, 1) := by decide +kernel
theorem dX0_countPieces_12 : decode cX0_countPieces 12 = .ok (.ishr, 1) := by decide +kernel
theorem dX0_countPieces_13 : decode cX0_countPieces 13 = .ok (.istore 5, 2) := by decide +kernel
theorem dX0_countPieces_15 : decode cX0_countPieces 15 = .ok (.aload_n 0, 1) := by decide +kernel
theorem dX0_countPieces_16 : decode cX0_countPieces 16 = .ok (.iload_n 1, 1) := by decide +kernel
theorem dX0_countPieces_17 : decode cX0_countPieces 17 = .ok (.invokevirtual 80, 3) := by decide +kernel
theorem dX0_countPieces_20 : decode cX0_countPieces 20 = .ok (.istore 6, 2) := by decide +kernel
theorem dX0_countPieces_22 : decode cX0_countPieces 22 = .ok (.iload 6, 2) := by decide +kernel
theorem dX0_countPieces_24 : decode cX0_countPieces 24 = .ok (.iload 5, 2) := by decide +kernel
theorem dX0_countPieces_26 : decode cX0_countPieces 26 = .ok (.if_icmp .ge 34, 3) := by decide +kernel
theorem dX0_countPieces_29 : decode cX0_countPieces 29 = .ok (.aload_n 0, 1) := by decide +kernel
theorem dX0_countPieces_30 : decode cX0_countPieces 30 = .ok (.iload 6, 2) := by decide +kernel
theorem dX0_countPieces_32 : decode cX0_countPieces 32 = .ok (.invokevirtual 83, 3) := by decide +kernel
theorem dX0_countPieces_35 : decode cX0_countPieces 35 = .ok (.istore 7, 2) := by decide +kernel
theorem dX0_countPieces_37 : decode cX0_countPieces 37 = .ok (.iload 7, 2) := by decide +kernel
theorem dX0_countPieces_39 : decode cX0_countPieces 39 = .ok (.ifCond .eq 11, 3) := by decide +kernel
theorem dX0_countPieces_42 : decode cX0_countPieces 42 = .ok (.iload 4, 2) := by decide +kernel
theorem dX0_countPieces_44 : decode cX0_countPieces 44 = .ok (.ifCond .ne 6, 3) := by decide +kernel
theorem dX0_countPieces_47 : decode cX0_countPieces 47 = .ok (.iinc 3 1, 3) := by decide +kernel
theorem dX0_countPieces_50 : decode cX0_countPieces 50 = .ok (.iload 7, 2) := by decide +kernel
theorem dX0_countPieces_52 : decode cX0_countPieces 52 = .ok (.istore 4, 2) := by decide +kernel
theorem dX0_countPieces_54 : decode cX0_countPieces 54 = .ok (.iinc 6 1, 3) := by decide +kernel
theorem dX0_countPieces_57 : decode cX0_countPieces 57 = .ok (.goto (-35), 3) := by decide +kernel
theorem dX0_countPieces_60 : decode cX0_countPieces 60 = .ok (.iload_n 3, 1) := by decide +kernel
theorem dX0_countPieces_61 : decode cX0_countPieces 61 = .ok (.ireturn, 1) := by decide +kernel
set_option maxRecDepth 20000 in
theorem ggX0_countGranules_X0_granuleFrom : GoodIn wsX0_countGranules wsX0_granuleFrom := goodIn_r _ [6, 1, 7, 8, 9, 5, 10, 22, 23, 24, 25, 26, 27, 28, 29, 30] (by decide +kernel) (by decide +kernel)
set_option maxRecDepth 20000 in
theorem gX0_countGranules_X0_granuleFrom : GoodIn wsX0_countGranules (wsV RX0 80 RX0 yX0_granuleFrom wsX0_granuleFrom) := goodIn_app (goodIn_of _ (by decide +kernel)) ggX0_countGranules_X0_granuleFrom
set_option maxRecDepth 20000 in
theorem ggX0_countGranules_X0_isFree : GoodIn wsX0_countGranules wsX0_isFree := goodIn_r _ [14, 1, 15, 7, 8, 9, 5, 10, 16, 17, 18, 19, 20, 21, 22, 23, 24, 25, 26, 27, 28, 29, 30] (by decide +kernel) (by decide +kernel)
set_option maxRecDepth 20000 in
theorem gX0_countGranules_X0_isFree : GoodIn wsX0_countGranules (wsV RX0 83 RX0 yX0_isFree wsX0_isFree) := goodIn_app (goodIn_of _ (by decide +kernel)) ggX0_countGranules_X0_isFree
theorem dX0_countGranules_0 : decode cX0_countGranules 0 = .ok (.iconst 0, 1) := by decide +kernel
theorem dX0_countGranules_1 : decode cX0_countGranules 1 = .ok (.istore_n 3, 1) := by decide +kernel
theorem dX0_countGranules_2 : decode cX0_countGranules 2 = .ok (.iload_n 2, 1) := by decide +kernel
theorem dX0_countGranules_3 : decode cX0_countGranules 3 = .ok (.aload_n 0, 1) := by decide +kernel
theorem dX0_countGranules_4 : decode cX0_countGranules 4 = .ok (.getfield 21, 3) := by decide +kernel
theorem dX0_countGranules_7 : decode cX0_countGranules 7 = .ok (.iconst 0, 1) := by decide +kernel
theorem dX0_countGranules_8 : decode cX0_countGranules 8 = .ok (.iaload, 1) := by decide +kernel
theorem dX0_countGranules_9 : decode cX0_countGranules 9 = .ok (.ishr, 1) := by decide +kernel
theorem dX0_countGranules_10 : decode cX0_countGranules 10 = .ok (.istore 4, 2) := by decide +kernel
theorem dX0_countGranules_12 : decode cX0_countGranules 12 = .ok (.aload_n 0, 1) := by decide +kernel
theorem dX0_countGranules_13 : decode cX0_countGranules 13 = .ok (.iload_n 1, 1) := by decide +kernel
theorem dX0_countGranules_14 : decode cX0_countGranules 14 = .ok (.invokevirtual 80, 3) := by decide +kernel
theorem dX0_countGranules_17 : decode cX0_countGranules 17 = .ok (.istore 5, 2) := by decide +kernel
theorem dX0_countGranules_19 : decode cX0_countGranules 19 = .ok (.iload 5, 2) := by decide +kernel
theorem dX0_countGranules_21 : decode cX0_countGranules 21 = .ok (.iload 4, 2) := by decide +kernel
theorem dX0_countGranules_23 : decode cX0_countGranules 23 = .ok (.if_icmp .ge 21, 3) := by decide +kernel
theorem dX0_countGranules_26 : decode cX0_countGranules 26 = .ok (.aload_n 0, 1) := by decide +kernel
theorem dX0_countGranules_27 : decode cX0_countGranules 27 = .ok (.iload 5, 2) := by decide +kernel
theorem dX0_countGranules_29 : decode cX0_countGranules 29 = .ok (.invokevirtual 83, 3) := by decide +kernel
theorem dX0_countGranules_32 : decode cX0_countGranules 32 = .ok (.ifCond .eq 6, 3) := by decide +kernel
theorem dX0_countGranules_35 : decode cX0_countGranules 35 = .ok (.iinc 3 1, 3) := by decide +kernel
theorem dX0_countGranules_38 : decode cX0_countGranules 38 = .ok (.iinc 5 1, 3) := by decide +kernel
theorem dX0_countGranules_41 : decode cX0_countGranules 41 = .ok (.goto (-22), 3) := by decide +kernel
theorem dX0_countGranules_44 : decode cX0_countGranules 44 = .ok (.iload_n 3, 1) := by decide +kernel
theorem dX0_countGranules_45 : decode cX0_countGranules 45 = .ok (.ireturn, 1) := by decide +kernel
set_option maxRecDepth 20000 in
theorem ggX0_granulesFrom_X0_isFree : GoodIn wsX0_granulesFrom wsX0_isFree := goodIn_r _ [5, 6, 7, 8, 9, 10, 4, 11, 12, 13, 14, 15, 16, 17, 18, 19, 20, 21, 22, 23, 24, 25, 26] (by decide +kernel) (by decide +kernel)
set_option maxRecDepth 20000 in
theorem gX0_granulesFrom_X0_isFree : GoodIn wsX0_granulesFrom (wsV RX0 83 RX0 yX0_isFree wsX0_isFree) := goodIn_app (goodIn_of _ (by decide +kernel)) ggX0_granulesFrom_X0_isFree
theorem dX0_granulesFrom_0 : decode cX0_granulesFrom 0 = .ok (.iconst 0, 1) := by decide +kernel
theorem dX0_granulesFrom_1 : decode cX0_granulesFrom 1 = .ok (.istore_n 3, 1) := by decide +kernel
theorem dX0_granulesFrom_2 : decode cX0_granulesFrom 2 = .ok (.iload_n 3, 1) := by decide +kernel
theorem dX0_granulesFrom_3 : decode cX0_granulesFrom 3 = .ok (.iload_n 2, 1) := by decide +kernel
theorem dX0_granulesFrom_4 : decode cX0_granulesFrom 4 = .ok (.if_icmp .ge 19, 3) := by decide +kernel
theorem dX0_granulesFrom_7 : decode cX0_granulesFrom 7 = .ok (.aload_n 0, 1) := by decide +kernel
theorem dX0_granulesFrom_8 : decode cX0_granulesFrom 8 = .ok (.iload_n 1, 1) := by decide +kernel
theorem dX0_granulesFrom_9 : decode cX0_granulesFrom 9 = .ok (.iload_n 3, 1) := by decide +kernel
theorem dX0_granulesFrom_10 : decode cX0_granulesFrom 10 = .ok (.iadd, 1) := by decide +kernel
theorem dX0_granulesFrom_11 : decode cX0_granulesFrom 11 = .ok (.invokevirtual 83, 3) := by decide +kernel
theorem dX0_granulesFrom_14 : decode cX0_granulesFrom 14 = .ok (.ifCond .eq 9, 3) := by decide +kernel
theorem dX0_granulesFrom_17 : decode cX0_granulesFrom 17 = .ok (.iinc 3 1, 3) := by decide +kernel
theorem dX0_granulesFrom_20 : decode cX0_granulesFrom 20 = .ok (.goto (-18), 3) := by decide +kernel
theorem dX0_granulesFrom_23 : decode cX0_granulesFrom 23 = .ok (.iload_n 3, 1) := by decide +kernel
theorem dX0_granulesFrom_24 : decode cX0_granulesFrom 24 = .ok (.ireturn, 1) := by decide +kernel
set_option maxRecDepth 20000 in
theorem ggX0_choosePiece_X0_isDue : GoodIn wsX0_choosePiece wsX0_isDue := goodIn_r _ [7, 8, 2, 1, 23, 24, 25, 26, 27, 28, 29, 30, 31] (by decide +kernel) (by decide +kernel)
set_option maxRecDepth 20000 in
theorem gX0_choosePiece_X0_isDue : GoodIn wsX0_choosePiece (wsV RX0 87 RX0 yX0_isDue wsX0_isDue) := goodIn_app (goodIn_of _ (by decide +kernel)) ggX0_choosePiece_X0_isDue
set_option maxRecDepth 20000 in
theorem ggX0_choosePiece_X0_isFree : GoodIn wsX0_choosePiece wsX0_isFree := goodIn_r _ [12, 1, 2, 13, 14, 15, 6, 16, 17, 18, 19, 20, 21, 22, 23, 24, 25, 26, 27, 28, 29, 30, 31] (by decide +kernel) (by decide +kernel)
set_option maxRecDepth 20000 in
theorem gX0_choosePiece_X0_isFree : GoodIn wsX0_choosePiece (wsV RX0 83 RX0 yX0_isFree wsX0_isFree) := goodIn_app (goodIn_of _ (by decide +kernel)) ggX0_choosePiece_X0_isFree
theorem dX0_choosePiece_0 : decode cX0_choosePiece 0 = .ok (.iconst (-1), 1) := by decide +kernel
theorem dX0_choosePiece_1 : decode cX0_choosePiece 1 = .ok (.istore_n 3, 1) := by decide +kernel
theorem dX0_choosePiece_2 : decode cX0_choosePiece 2 = .ok (.iconst 0, 1) := by decide +kernel
theorem dX0_choosePiece_3 : decode cX0_choosePiece 3 = .ok (.istore 4, 2) := by decide +kernel
theorem dX0_choosePiece_5 : decode cX0_choosePiece 5 = .ok (.iconst 0, 1) := by decide +kernel
theorem dX0_choosePiece_6 : decode cX0_choosePiece 6 = .ok (.istore 5, 2) := by decide +kernel
theorem dX0_choosePiece_8 : decode cX0_choosePiece 8 = .ok (.iconst 0, 1) := by decide +kernel
theorem dX0_choosePiece_9 : decode cX0_choosePiece 9 = .ok (.istore 6, 2) := by decide +kernel
theorem dX0_choosePiece_11 : decode cX0_choosePiece 11 = .ok (.sipush 256, 3) := by decide +kernel
theorem dX0_choosePiece_14 : decode cX0_choosePiece 14 = .ok (.aload_n 0, 1) := by decide +kernel
theorem dX0_choosePiece_15 : decode cX0_choosePiece 15 = .ok (.getfield 21, 3) := by decide +kernel
theorem dX0_choosePiece_18 : decode cX0_choosePiece 18 = .ok (.iconst 0, 1) := by decide +kernel
theorem dX0_choosePiece_19 : decode cX0_choosePiece 19 = .ok (.iaload, 1) := by decide +kernel
theorem dX0_choosePiece_20 : decode cX0_choosePiece 20 = .ok (.ishr, 1) := by decide +kernel
theorem dX0_choosePiece_21 : decode cX0_choosePiece 21 = .ok (.istore 7, 2) := by decide +kernel
theorem dX0_choosePiece_23 : decode cX0_choosePiece 23 = .ok (.iconst 0, 1) := by decide +kernel
theorem dX0_choosePiece_24 : decode cX0_choosePiece 24 = .ok (.istore 8, 2) := by decide +kernel
theorem dX0_choosePiece_26 : decode cX0_choosePiece 26 = .ok (.iload 8, 2) := by decide +kernel
theorem dX0_choosePiece_28 : decode cX0_choosePiece 28 = .ok (.iload 7, 2) := by decide +kernel
theorem dX0_choosePiece_30 : decode cX0_choosePiece 30 = .ok (.if_icmp .ge 125, 3) := by decide +kernel
theorem dX0_choosePiece_33 : decode cX0_choosePiece 33 = .ok (.iload 8, 2) := by decide +kernel
theorem dX0_choosePiece_35 : decode cX0_choosePiece 35 = .ok (.aload_n 0, 1) := by decide +kernel
theorem dX0_choosePiece_36 : decode cX0_choosePiece 36 = .ok (.getfield 21, 3) := by decide +kernel
theorem dX0_choosePiece_39 : decode cX0_choosePiece 39 = .ok (.iconst 0, 1) := by decide +kernel
theorem dX0_choosePiece_40 : decode cX0_choosePiece 40 = .ok (.iaload, 1) := by decide +kernel
theorem dX0_choosePiece_41 : decode cX0_choosePiece 41 = .ok (.ishl, 1) := by decide +kernel
theorem dX0_choosePiece_42 : decode cX0_choosePiece 42 = .ok (.istore 9, 2) := by decide +kernel
theorem dX0_choosePiece_44 : decode cX0_choosePiece 44 = .ok (.aload_n 0, 1) := by decide +kernel
theorem dX0_choosePiece_45 : decode cX0_choosePiece 45 = .ok (.getfield 9, 3) := by decide +kernel
theorem dX0_choosePiece_48 : decode cX0_choosePiece 48 = .ok (.iload 9, 2) := by decide +kernel
theorem dX0_choosePiece_50 : decode cX0_choosePiece 50 = .ok (.iaload, 1) := by decide +kernel
theorem dX0_choosePiece_51 : decode cX0_choosePiece 51 = .ok (.ifCond .lt 25, 3) := by decide +kernel
theorem dX0_choosePiece_54 : decode cX0_choosePiece 54 = .ok (.iload_n 1, 1) := by decide +kernel
theorem dX0_choosePiece_55 : decode cX0_choosePiece 55 = .ok (.ifCond .eq 12, 3) := by decide +kernel
theorem dX0_choosePiece_58 : decode cX0_choosePiece 58 = .ok (.aload_n 0, 1) := by decide +kernel
theorem dX0_choosePiece_59 : decode cX0_choosePiece 59 = .ok (.iload 9, 2) := by decide +kernel
theorem dX0_choosePiece_61 : decode cX0_choosePiece 61 = .ok (.invokevirtual 87, 3) := by decide +kernel
theorem dX0_choosePiece_64 : decode cX0_choosePiece 64 = .ok (.ifCond .eq 12, 3) := by decide +kernel
theorem dX0_choosePiece_67 : decode cX0_choosePiece 67 = .ok (.aload_n 0, 1) := by decide +kernel
theorem dX0_choosePiece_68 : decode cX0_choosePiece 68 = .ok (.iload 8, 2) := by decide +kernel
theorem dX0_choosePiece_70 : decode cX0_choosePiece 70 = .ok (.invokevirtual 83, 3) := by decide +kernel
theorem dX0_choosePiece_73 : decode cX0_choosePiece 73 = .ok (.ifCond .ne 9, 3) := by decide +kernel
theorem dX0_choosePiece_76 : decode cX0_choosePiece 76 = .ok (.iconst 0, 1) := by decide +kernel
theorem dX0_choosePiece_77 : decode cX0_choosePiece 77 = .ok (.istore 6, 2) := by decide +kernel
theorem dX0_choosePiece_79 : decode cX0_choosePiece 79 = .ok (.goto 70, 3) := by decide +kernel
theorem dX0_choosePiece_82 : decode cX0_choosePiece 82 = .ok (.iinc 6 1, 3) := by decide +kernel
theorem dX0_choosePiece_85 : decode cX0_choosePiece 85 = .ok (.iload_n 2, 1) := by decide +kernel
theorem dX0_choosePiece_86 : decode cX0_choosePiece 86 = .ok (.iconst 2, 1) := by decide +kernel
theorem dX0_choosePiece_87 : decode cX0_choosePiece 87 = .ok (.if_icmp .ne 6, 3) := by decide +kernel
theorem dX0_choosePiece_90 : decode cX0_choosePiece 90 = .ok (.iload 8, 2) := by decide +kernel
theorem dX0_choosePiece_92 : decode cX0_choosePiece 92 = .ok (.ireturn, 1) := by decide +kernel
theorem dX0_choosePiece_93 : decode cX0_choosePiece 93 = .ok (.iload_n 2, 1) := by decide +kernel
theorem dX0_choosePiece_94 : decode cX0_choosePiece 94 = .ok (.iconst 1, 1) := by decide +kernel
theorem dX0_choosePiece_95 : decode cX0_choosePiece 95 = .ok (.if_icmp .ne 25, 3) := by decide +kernel
theorem dX0_choosePiece_98 : decode cX0_choosePiece 98 = .ok (.iload 6, 2) := by decide +kernel
theorem dX0_choosePiece_100 : decode cX0_choosePiece 100 = .ok (.iload 5, 2) := by decide +kernel
theorem dX0_choosePiece_102 : decode cX0_choosePiece 102 = .ok (.if_icmp .le 47, 3) := by decide +kernel
theorem dX0_choosePiece_105 : decode cX0_choosePiece 105 = .ok (.iload 6, 2) := by decide +kernel
theorem dX0_choosePiece_107 : decode cX0_choosePiece 107 = .ok (.istore 5, 2) := by decide +kernel
theorem dX0_choosePiece_109 : decode cX0_choosePiece 109 = .ok (.iload 8, 2) := by decide +kernel
theorem dX0_choosePiece_111 : decode cX0_choosePiece 111 = .ok (.iload 6, 2) := by decide +kernel
theorem dX0_choosePiece_113 : decode cX0_choosePiece 113 = .ok (.isub, 1) := by decide +kernel
theorem dX0_choosePiece_114 : decode cX0_choosePiece 114 = .ok (.iconst 1, 1) := by decide +kernel
theorem dX0_choosePiece_115 : decode cX0_choosePiece 115 = .ok (.iadd, 1) := by decide +kernel
theorem dX0_choosePiece_116 : decode cX0_choosePiece 116 = .ok (.istore_n 3, 1) := by decide +kernel
theorem dX0_choosePiece_117 : decode cX0_choosePiece 117 = .ok (.goto 32, 3) := by decide +kernel
theorem dX0_choosePiece_120 : decode cX0_choosePiece 120 = .ok (.iload_n 3, 1) := by decide +kernel
theorem dX0_choosePiece_121 : decode cX0_choosePiece 121 = .ok (.iconst (-1), 1) := by decide +kernel
theorem dX0_choosePiece_122 : decode cX0_choosePiece 122 = .ok (.if_icmp .eq 15, 3) := by decide +kernel
theorem dX0_choosePiece_125 : decode cX0_choosePiece 125 = .ok (.aload_n 0, 1) := by decide +kernel
theorem dX0_choosePiece_126 : decode cX0_choosePiece 126 = .ok (.getfield 9, 3) := by decide +kernel
theorem dX0_choosePiece_129 : decode cX0_choosePiece 129 = .ok (.iload 9, 2) := by decide +kernel
theorem dX0_choosePiece_131 : decode cX0_choosePiece 131 = .ok (.iaload, 1) := by decide +kernel
theorem dX0_choosePiece_132 : decode cX0_choosePiece 132 = .ok (.iload 4, 2) := by decide +kernel
theorem dX0_choosePiece_134 : decode cX0_choosePiece 134 = .ok (.if_icmp .ge 15, 3) := by decide +kernel
theorem dX0_choosePiece_137 : decode cX0_choosePiece 137 = .ok (.aload_n 0, 1) := by decide +kernel
theorem dX0_choosePiece_138 : decode cX0_choosePiece 138 = .ok (.getfield 9, 3) := by decide +kernel
theorem dX0_choosePiece_141 : decode cX0_choosePiece 141 = .ok (.iload 9, 2) := by decide +kernel
theorem dX0_choosePiece_143 : decode cX0_choosePiece 143 = .ok (.iaload, 1) := by decide +kernel
theorem dX0_choosePiece_144 : decode cX0_choosePiece 144 = .ok (.istore 4, 2) := by decide +kernel
theorem dX0_choosePiece_146 : decode cX0_choosePiece 146 = .ok (.iload 8, 2) := by decide +kernel
theorem dX0_choosePiece_148 : decode cX0_choosePiece 148 = .ok (.istore_n 3, 1) := by decide +kernel
theorem dX0_choosePiece_149 : decode cX0_choosePiece 149 = .ok (.iinc 8 1, 3) := by decide +kernel
theorem dX0_choosePiece_152 : decode cX0_choosePiece 152 = .ok (.goto (-126), 3) := by decide +kernel
theorem dX0_choosePiece_155 : decode cX0_choosePiece 155 = .ok (.iload_n 3, 1) := by decide +kernel
theorem dX0_choosePiece_156 : decode cX0_choosePiece 156 = .ok (.ireturn, 1) := by decide +kernel
set_option maxRecDepth 20000 in
theorem ggX0_passTicks_X0_tick : GoodIn wsX0_passTicks wsX0_tick := goodIn_r _ [6, 7, 8, 9, 10, 11, 12, 5, 13, 14, 15, 16, 17, 18, 19, 20, 21, 22, 23, 24, 25, 26, 27, 28, 29, 30, 31, 32, 33, 34, 35, 36, 37, 38, 39, 40, 41, 42, 43, 44, 45, 46, 47, 48, 49, 50, 51, 52, 53, 1, 54, 55, 56, 57, 58, 59, 60, 61, 62, 63, 64, 65, 66, 67, 68, 69, 70, 71, 72, 73, 74, 75] (by decide +kernel) (by decide +kernel)
set_option maxRecDepth 20000 in
theorem gX0_passTicks_X0_tick : GoodIn wsX0_passTicks (wsV RX0 90 RX0 yX0_tick wsX0_tick) := goodIn_app (goodIn_of _ (by decide +kernel)) ggX0_passTicks_X0_tick
theorem dX0_passTicks_0 : decode cX0_passTicks 0 = .ok (.aload_n 0, 1) := by decide +kernel
theorem dX0_passTicks_1 : decode cX0_passTicks 1 = .ok (.getfield 52, 3) := by decide +kernel
theorem dX0_passTicks_4 : decode cX0_passTicks 4 = .ok (.istore_n 2, 1) := by decide +kernel
theorem dX0_passTicks_5 : decode cX0_passTicks 5 = .ok (.iconst 0, 1) := by decide +kernel
theorem dX0_passTicks_6 : decode cX0_passTicks 6 = .ok (.istore_n 3, 1) := by decide +kernel
theorem dX0_passTicks_7 : decode cX0_passTicks 7 = .ok (.iload_n 3, 1) := by decide +kernel
theorem dX0_passTicks_8 : decode cX0_passTicks 8 = .ok (.iload_n 1, 1) := by decide +kernel
theorem dX0_passTicks_9 : decode cX0_passTicks 9 = .ok (.if_icmp .ge 13, 3) := by decide +kernel
theorem dX0_passTicks_12 : decode cX0_passTicks 12 = .ok (.aload_n 0, 1) := by decide +kernel
theorem dX0_passTicks_13 : decode cX0_passTicks 13 = .ok (.invokevirtual 90, 3) := by decide +kernel
theorem dX0_passTicks_16 : decode cX0_passTicks 16 = .ok (.iinc 3 1, 3) := by decide +kernel
theorem dX0_passTicks_19 : decode cX0_passTicks 19 = .ok (.goto (-12), 3) := by decide +kernel
theorem dX0_passTicks_22 : decode cX0_passTicks 22 = .ok (.aload_n 0, 1) := by decide +kernel
theorem dX0_passTicks_23 : decode cX0_passTicks 23 = .ok (.getfield 52, 3) := by decide +kernel
theorem dX0_passTicks_26 : decode cX0_passTicks 26 = .ok (.iload_n 2, 1) := by decide +kernel
theorem dX0_passTicks_27 : decode cX0_passTicks 27 = .ok (.isub, 1) := by decide +kernel
theorem dX0_passTicks_28 : decode cX0_passTicks 28 = .ok (.ireturn, 1) := by decide +kernel
set_option maxRecDepth 20000 in
theorem ggX0_tick_X0_budgetOfTick : GoodIn wsX0_tick wsX0_budgetOfTick := goodIn_r _ [8, 3, 1, 63, 64, 65, 66, 67, 68, 69, 70, 71] (by decide +kernel) (by decide +kernel)
set_option maxRecDepth 20000 in
theorem gX0_tick_X0_budgetOfTick : GoodIn wsX0_tick (wsV RX0 93 RX0 yX0_budgetOfTick wsX0_budgetOfTick) := goodIn_app (goodIn_of _ (by decide +kernel)) ggX0_tick_X0_budgetOfTick
set_option maxRecDepth 20000 in
theorem ggX0_tick_X0_choosePiece : GoodIn wsX0_tick wsX0_choosePiece := goodIn_r _ [12, 1, 13, 14, 15, 16, 7, 17, 2, 18, 19, 20, 21, 22, 23, 24, 25, 26, 27, 28, 29, 30, 31, 63, 64, 65, 66, 67, 68, 69, 70, 71] (by decide +kernel) (by decide +kernel)
set_option maxRecDepth 20000 in
theorem gX0_tick_X0_choosePiece : GoodIn wsX0_tick (wsV RX0 96 RX0 yX0_choosePiece wsX0_choosePiece) := goodIn_app (goodIn_of _ (by decide +kernel)) ggX0_tick_X0_choosePiece
set_option maxRecDepth 20000 in
theorem ggX0_tick_X0_mostGranules : GoodIn wsX0_tick wsX0_mostGranules := goodIn_r _ [35, 1, 36, 37, 38, 39, 63, 64, 65, 66, 67, 68, 69, 70, 71] (by decide +kernel) (by decide +kernel)
set_option maxRecDepth 20000 in
theorem gX0_tick_X0_mostGranules : GoodIn wsX0_tick (wsV RX0 100 RX0 yX0_mostGranules wsX0_mostGranules) := goodIn_app (goodIn_of _ (by decide +kernel)) ggX0_tick_X0_mostGranules
set_option maxRecDepth 20000 in
theorem ggX0_tick_X0_granulesFrom : GoodIn wsX0_tick wsX0_granulesFrom := goodIn_r _ [43, 18, 19, 20, 7, 21, 1, 13, 22, 23, 24, 25, 26, 27, 28, 29, 30, 31, 63, 64, 65, 66, 67, 68, 69, 70, 71] (by decide +kernel) (by decide +kernel)
set_option maxRecDepth 20000 in
theorem gX0_tick_X0_granulesFrom : GoodIn wsX0_tick (wsV RX0 103 RX0 yX0_granulesFrom wsX0_granulesFrom) := goodIn_app (goodIn_of _ (by decide +kernel)) ggX0_tick_X0_granulesFrom
set_option maxRecDepth 20000 in
theorem ggX0_tick_X0_discard : GoodIn wsX0_tick wsX0_discard := goodIn_r _ [47, 1, 13, 48, 49, 50, 51, 52, 7, 53, 54, 55, 56, 57, 58, 59, 60, 61, 62, 63, 64, 65, 66, 67, 68, 69, 70, 71] (by decide +kernel) (by decide +kernel)
set_option maxRecDepth 20000 in
theorem gX0_tick_X0_discard : GoodIn wsX0_tick (wsV RX0 107 RX0 yX0_discard wsX0_discard) := goodIn_app (goodIn_of _ (by decide +kernel)) ggX0_tick_X0_discard
theorem dX0_tick_0 : decode cX0_tick 0 = .ok (.aload_n 0, 1) := by decide +kernel
theorem dX0_tick_1 : decode cX0_tick 1 = .ok (.invokevirtual 93, 3) := by decide +kernel
theorem dX0_tick_4 : decode cX0_tick 4 = .ok (.istore_n 1, 1) := by decide +kernel
theorem dX0_tick_5 : decode cX0_tick 5 = .ok (.iconst 0, 1) := by decide +kernel
theorem dX0_tick_6 : decode cX0_tick 6 = .ok (.istore_n 2, 1) := by decide +kernel
theorem dX0_tick_7 : decode cX0_tick 7 = .ok (.iload_n 2, 1) := by decide +kernel
theorem dX0_tick_8 : decode cX0_tick 8 = .ok (.sipush 256, 3) := by decide +kernel
theorem dX0_tick_11 : decode cX0_tick 11 = .ok (.if_icmp .ge 70, 3) := by decide +kernel
theorem dX0_tick_14 : decode cX0_tick 14 = .ok (.iload_n 1, 1) := by decide +kernel
theorem dX0_tick_15 : decode cX0_tick 15 = .ok (.aload_n 0, 1) := by decide +kernel
theorem dX0_tick_16 : decode cX0_tick 16 = .ok (.getfield 21, 3) := by decide +kernel
theorem dX0_tick_19 : decode cX0_tick 19 = .ok (.iconst 4, 1) := by decide +kernel
theorem dX0_tick_20 : decode cX0_tick 20 = .ok (.iaload, 1) := by decide +kernel
theorem dX0_tick_21 : decode cX0_tick 21 = .ok (.if_icmp .le 60, 3) := by decide +kernel
theorem dX0_tick_24 : decode cX0_tick 24 = .ok (.aload_n 0, 1) := by decide +kernel
theorem dX0_tick_25 : decode cX0_tick 25 = .ok (.iconst 1, 1) := by decide +kernel
theorem dX0_tick_26 : decode cX0_tick 26 = .ok (.aload_n 0, 1) := by decide +kernel
theorem dX0_tick_27 : decode cX0_tick 27 = .ok (.getfield 21, 3) := by decide +kernel
theorem dX0_tick_30 : decode cX0_tick 30 = .ok (.iconst 5, 1) := by decide +kernel
theorem dX0_tick_31 : decode cX0_tick 31 = .ok (.iaload, 1) := by decide +kernel
theorem dX0_tick_32 : decode cX0_tick 32 = .ok (.invokevirtual 96, 3) := by decide +kernel
theorem dX0_tick_35 : decode cX0_tick 35 = .ok (.istore_n 3, 1) := by decide +kernel
theorem dX0_tick_36 : decode cX0_tick 36 = .ok (.iload_n 3, 1) := by decide +kernel
theorem dX0_tick_37 : decode cX0_tick 37 = .ok (.iconst (-1), 1) := by decide +kernel
theorem dX0_tick_38 : decode cX0_tick 38 = .ok (.if_icmp .ne 6, 3) := by decide +kernel
theorem dX0_tick_41 : decode cX0_tick 41 = .ok (.goto 40, 3) := by decide +kernel
theorem dX0_tick_44 : decode cX0_tick 44 = .ok (.aload_n 0, 1) := by decide +kernel
theorem dX0_tick_45 : decode cX0_tick 45 = .ok (.iload_n 3, 1) := by decide +kernel
theorem dX0_tick_46 : decode cX0_tick 46 = .ok (.aload_n 0, 1) := by decide +kernel
theorem dX0_tick_47 : decode cX0_tick 47 = .ok (.iload_n 1, 1) := by decide +kernel
theorem dX0_tick_48 : decode cX0_tick 48 = .ok (.invokevirtual 100, 3) := by decide +kernel
theorem dX0_tick_51 : decode cX0_tick 51 = .ok (.invokevirtual 103, 3) := by decide +kernel
theorem dX0_tick_54 : decode cX0_tick 54 = .ok (.istore 4, 2) := by decide +kernel
theorem dX0_tick_56 : decode cX0_tick 56 = .ok (.aload_n 0, 1) := by decide +kernel
theorem dX0_tick_57 : decode cX0_tick 57 = .ok (.iload_n 3, 1) := by decide +kernel
theorem dX0_tick_58 : decode cX0_tick 58 = .ok (.iload 4, 2) := by decide +kernel
theorem dX0_tick_60 : decode cX0_tick 60 = .ok (.invokevirtual 107, 3) := by decide +kernel
theorem dX0_tick_63 : decode cX0_tick 63 = .ok (.iload_n 1, 1) := by decide +kernel
theorem dX0_tick_64 : decode cX0_tick 64 = .ok (.aload_n 0, 1) := by decide +kernel
theorem dX0_tick_65 : decode cX0_tick 65 = .ok (.getfield 21, 3) := by decide +kernel
theorem dX0_tick_68 : decode cX0_tick 68 = .ok (.iconst 4, 1) := by decide +kernel
theorem dX0_tick_69 : decode cX0_tick 69 = .ok (.iaload, 1) := by decide +kernel
theorem dX0_tick_70 : decode cX0_tick 70 = .ok (.iload 4, 2) := by decide +kernel
theorem dX0_tick_72 : decode cX0_tick 72 = .ok (.iadd, 1) := by decide +kernel
theorem dX0_tick_73 : decode cX0_tick 73 = .ok (.isub, 1) := by decide +kernel
theorem dX0_tick_74 : decode cX0_tick 74 = .ok (.istore_n 1, 1) := by decide +kernel
theorem dX0_tick_75 : decode cX0_tick 75 = .ok (.iinc 2 1, 3) := by decide +kernel
theorem dX0_tick_78 : decode cX0_tick 78 = .ok (.goto (-71), 3) := by decide +kernel
theorem dX0_tick_81 : decode cX0_tick 81 = .ok (.aload_n 0, 1) := by decide +kernel
theorem dX0_tick_82 : decode cX0_tick 82 = .ok (.dup, 1) := by decide +kernel
theorem dX0_tick_83 : decode cX0_tick 83 = .ok (.getfield 42, 3) := by decide +kernel
theorem dX0_tick_86 : decode cX0_tick 86 = .ok (.iconst 1, 1) := by decide +kernel
theorem dX0_tick_87 : decode cX0_tick 87 = .ok (.iadd, 1) := by decide +kernel
theorem dX0_tick_88 : decode cX0_tick 88 = .ok (.putfield 42, 3) := by decide +kernel
theorem dX0_tick_91 : decode cX0_tick 91 = .ok (.aload_n 0, 1) := by decide +kernel
theorem dX0_tick_92 : decode cX0_tick 92 = .ok (.dup, 1) := by decide +kernel
theorem dX0_tick_93 : decode cX0_tick 93 = .ok (.getfield 46, 3) := by decide +kernel
theorem dX0_tick_96 : decode cX0_tick 96 = .ok (.iconst 1, 1) := by decide +kernel
theorem dX0_tick_97 : decode cX0_tick 97 = .ok (.iadd, 1) := by decide +kernel
theorem dX0_tick_98 : decode cX0_tick 98 = .ok (.putfield 46, 3) := by decide +kernel
theorem dX0_tick_101 : decode cX0_tick 101 = .ok (.return_, 1) := by decide +kernel
theorem dX0_budgetOfTick_0 : decode cX0_budgetOfTick 0 = .ok (.aload_n 0, 1) := by decide +kernel
theorem dX0_budgetOfTick_1 : decode cX0_budgetOfTick 1 = .ok (.getfield 46, 3) := by decide +kernel
theorem dX0_budgetOfTick_4 : decode cX0_budgetOfTick 4 = .ok (.aload_n 0, 1) := by decide +kernel
theorem dX0_budgetOfTick_5 : decode cX0_budgetOfTick 5 = .ok (.getfield 21, 3) := by decide +kernel
theorem dX0_budgetOfTick_8 : decode cX0_budgetOfTick 8 = .ok (.iconst 1, 1) := by decide +kernel
theorem dX0_budgetOfTick_9 : decode cX0_budgetOfTick 9 = .ok (.iaload, 1) := by decide +kernel
theorem dX0_budgetOfTick_10 : decode cX0_budgetOfTick 10 = .ok (.if_icmp .lt 12, 3) := by decide +kernel
theorem dX0_budgetOfTick_13 : decode cX0_budgetOfTick 13 = .ok (.aload_n 0, 1) := by decide +kernel
theorem dX0_budgetOfTick_14 : decode cX0_budgetOfTick 14 = .ok (.getfield 21, 3) := by decide +kernel
theorem dX0_budgetOfTick_17 : decode cX0_budgetOfTick 17 = .ok (.iconst 2, 1) := by decide +kernel
theorem dX0_budgetOfTick_18 : decode cX0_budgetOfTick 18 = .ok (.iaload, 1) := by decide +kernel
theorem dX0_budgetOfTick_19 : decode cX0_budgetOfTick 19 = .ok (.goto 4, 3) := by decide +kernel
theorem dX0_budgetOfTick_22 : decode cX0_budgetOfTick 22 = .ok (.iconst 0, 1) := by decide +kernel
theorem dX0_budgetOfTick_23 : decode cX0_budgetOfTick 23 = .ok (.ireturn, 1) := by decide +kernel
theorem dX0_mostGranules_0 : decode cX0_mostGranules 0 = .ok (.bipush 16, 2) := by decide +kernel
theorem dX0_mostGranules_2 : decode cX0_mostGranules 2 = .ok (.iload_n 1, 1) := by decide +kernel
theorem dX0_mostGranules_3 : decode cX0_mostGranules 3 = .ok (.aload_n 0, 1) := by decide +kernel
theorem dX0_mostGranules_4 : decode cX0_mostGranules 4 = .ok (.getfield 21, 3) := by decide +kernel
theorem dX0_mostGranules_7 : decode cX0_mostGranules 7 = .ok (.iconst 4, 1) := by decide +kernel
theorem dX0_mostGranules_8 : decode cX0_mostGranules 8 = .ok (.iaload, 1) := by decide +kernel
theorem dX0_mostGranules_9 : decode cX0_mostGranules 9 = .ok (.isub, 1) := by decide +kernel
theorem dX0_mostGranules_10 : decode cX0_mostGranules 10 = .ok (.invokestatic 111, 3) := by decide +kernel
theorem dX0_mostGranules_13 : decode cX0_mostGranules 13 = .ok (.ireturn, 1) := by decide +kernel
set_option maxRecDepth 20000 in
theorem ggX0_pieceOfTick_X0_budgetOfTick : GoodIn wsX0_pieceOfTick wsX0_budgetOfTick := goodIn_r _ [6, 7, 1, 32, 33, 34, 35, 36, 37, 38, 39, 40] (by decide +kernel) (by decide +kernel)
set_option maxRecDepth 20000 in
theorem gX0_pieceOfTick_X0_budgetOfTick : GoodIn wsX0_pieceOfTick (wsV RX0 93 RX0 yX0_budgetOfTick wsX0_budgetOfTick) := goodIn_app (goodIn_of _ (by decide +kernel)) ggX0_pieceOfTick_X0_budgetOfTick
set_option maxRecDepth 20000 in
theorem ggX0_pieceOfTick_X0_choosePiece : GoodIn wsX0_pieceOfTick wsX0_choosePiece := goodIn_r _ [11, 1, 12, 13, 14, 15, 5, 16, 17, 18, 19, 20, 21, 22, 23, 24, 25, 26, 27, 28, 29, 30, 31, 32, 33, 34, 35, 36, 37, 38, 39, 40] (by decide +kernel) (by decide +kernel)
set_option maxRecDepth 20000 in
theorem gX0_pieceOfTick_X0_choosePiece : GoodIn wsX0_pieceOfTick (wsV RX0 96 RX0 yX0_choosePiece wsX0_choosePiece) := goodIn_app (goodIn_of _ (by decide +kernel)) ggX0_pieceOfTick_X0_choosePiece
theorem dX0_pieceOfTick_0 : decode cX0_pieceOfTick 0 = .ok (.aload_n 0, 1) := by decide +kernel
theorem dX0_pieceOfTick_1 : decode cX0_pieceOfTick 1 = .ok (.invokevirtual 93, 3) := by decide +kernel
theorem dX0_pieceOfTick_4 : decode cX0_pieceOfTick 4 = .ok (.aload_n 0, 1) := by decide +kernel
theorem dX0_pieceOfTick_5 : decode cX0_pieceOfTick 5 = .ok (.getfield 21, 3) := by decide +kernel
theorem dX0_pieceOfTick_8 : decode cX0_pieceOfTick 8 = .ok (.iconst 4, 1) := by decide +kernel
theorem dX0_pieceOfTick_9 : decode cX0_pieceOfTick 9 = .ok (.iaload, 1) := by decide +kernel
theorem dX0_pieceOfTick_10 : decode cX0_pieceOfTick 10 = .ok (.if_icmp .le 17, 3) := by decide +kernel
theorem dX0_pieceOfTick_13 : decode cX0_pieceOfTick 13 = .ok (.aload_n 0, 1) := by decide +kernel
theorem dX0_pieceOfTick_14 : decode cX0_pieceOfTick 14 = .ok (.iconst 1, 1) := by decide +kernel
theorem dX0_pieceOfTick_15 : decode cX0_pieceOfTick 15 = .ok (.aload_n 0, 1) := by decide +kernel
theorem dX0_pieceOfTick_16 : decode cX0_pieceOfTick 16 = .ok (.getfield 21, 3) := by decide +kernel
theorem dX0_pieceOfTick_19 : decode cX0_pieceOfTick 19 = .ok (.iconst 5, 1) := by decide +kernel
theorem dX0_pieceOfTick_20 : decode cX0_pieceOfTick 20 = .ok (.iaload, 1) := by decide +kernel
theorem dX0_pieceOfTick_21 : decode cX0_pieceOfTick 21 = .ok (.invokevirtual 96, 3) := by decide +kernel
theorem dX0_pieceOfTick_24 : decode cX0_pieceOfTick 24 = .ok (.goto 4, 3) := by decide +kernel
theorem dX0_pieceOfTick_27 : decode cX0_pieceOfTick 27 = .ok (.iconst (-1), 1) := by decide +kernel
theorem dX0_pieceOfTick_28 : decode cX0_pieceOfTick 28 = .ok (.ireturn, 1) := by decide +kernel
set_option maxRecDepth 20000 in
theorem ggX0_granulesOfTick_X0_budgetOfTick : GoodIn wsX0_granulesOfTick wsX0_budgetOfTick := goodIn_r _ [5, 6, 7, 35, 36, 37, 38, 39, 40, 41, 42, 43] (by decide +kernel) (by decide +kernel)
set_option maxRecDepth 20000 in
theorem gX0_granulesOfTick_X0_budgetOfTick : GoodIn wsX0_granulesOfTick (wsV RX0 93 RX0 yX0_budgetOfTick wsX0_budgetOfTick) := goodIn_app (goodIn_of _ (by decide +kernel)) ggX0_granulesOfTick_X0_budgetOfTick
set_option maxRecDepth 20000 in
theorem ggX0_granulesOfTick_X0_mostGranules : GoodIn wsX0_granulesOfTick wsX0_mostGranules := goodIn_r _ [11, 7, 12, 13, 14, 15, 35, 36, 37, 38, 39, 40, 41, 42, 43] (by decide +kernel) (by decide +kernel)
set_option maxRecDepth 20000 in
theorem gX0_granulesOfTick_X0_mostGranules : GoodIn wsX0_granulesOfTick (wsV RX0 100 RX0 yX0_mostGranules wsX0_mostGranules) := goodIn_app (goodIn_of _ (by decide +kernel)) ggX0_granulesOfTick_X0_mostGranules
set_option maxRecDepth 20000 in
theorem ggX0_granulesOfTick_X0_granulesFrom : GoodIn wsX0_granulesOfTick wsX0_granulesFrom := goodIn_r _ [19, 20, 21, 22, 4, 23, 7, 24, 25, 26, 27, 28, 29, 30, 31, 32, 33, 34, 35, 36, 37, 38, 39, 40, 41, 42, 43] (by decide +kernel) (by decide +kernel)
set_option maxRecDepth 20000 in
theorem gX0_granulesOfTick_X0_granulesFrom : GoodIn wsX0_granulesOfTick (wsV RX0 103 RX0 yX0_granulesFrom wsX0_granulesFrom) := goodIn_app (goodIn_of _ (by decide +kernel)) ggX0_granulesOfTick_X0_granulesFrom
theorem dX0_granulesOfTick_0 : decode cX0_granulesOfTick 0 = .ok (.aload_n 0, 1) := by decide +kernel
theorem dX0_granulesOfTick_1 : decode cX0_granulesOfTick 1 = .ok (.iload_n 1, 1) := by decide +kernel
theorem dX0_granulesOfTick_2 : decode cX0_granulesOfTick 2 = .ok (.aload_n 0, 1) := by decide +kernel
theorem dX0_granulesOfTick_3 : decode cX0_granulesOfTick 3 = .ok (.aload_n 0, 1) := by decide +kernel
theorem dX0_granulesOfTick_4 : decode cX0_granulesOfTick 4 = .ok (.invokevirtual 93, 3) := by decide +kernel
theorem dX0_granulesOfTick_7 : decode cX0_granulesOfTick 7 = .ok (.invokevirtual 100, 3) := by decide +kernel
theorem dX0_granulesOfTick_10 : decode cX0_granulesOfTick 10 = .ok (.invokevirtual 103, 3) := by decide +kernel
theorem dX0_granulesOfTick_13 : decode cX0_granulesOfTick 13 = .ok (.ireturn, 1) := by decide +kernel
set_option maxRecDepth 20000 in
theorem ggX0_sendAll_X0_choosePiece : GoodIn wsX0_sendAll wsX0_choosePiece := goodIn_r _ [6, 7, 8, 9, 10, 11, 5, 12, 13, 14, 15, 16, 17, 18, 19, 20, 21, 22, 23, 24, 25, 26, 27, 50, 51, 52, 53, 54, 55, 56, 57, 58] (by decide +kernel) (by decide +kernel)
set_option maxRecDepth 20000 in
theorem gX0_sendAll_X0_choosePiece : GoodIn wsX0_sendAll (wsV RX0 96 RX0 yX0_choosePiece wsX0_choosePiece) := goodIn_app (goodIn_of _ (by decide +kernel)) ggX0_sendAll_X0_choosePiece
set_option maxRecDepth 20000 in
theorem ggX0_sendAll_X0_granulesFrom : GoodIn wsX0_sendAll wsX0_granulesFrom := goodIn_r _ [31, 14, 15, 16, 5, 17, 7, 8, 18, 19, 20, 21, 22, 23, 24, 25, 26, 27, 50, 51, 52, 53, 54, 55, 56, 57, 58] (by decide +kernel) (by decide +kernel)
set_option maxRecDepth 20000 in
theorem gX0_sendAll_X0_granulesFrom : GoodIn wsX0_sendAll (wsV RX0 103 RX0 yX0_granulesFrom wsX0_granulesFrom) := goodIn_app (goodIn_of _ (by decide +kernel)) ggX0_sendAll_X0_granulesFrom
set_option maxRecDepth 20000 in
theorem ggX0_sendAll_X0_discard : GoodIn wsX0_sendAll wsX0_discard := goodIn_r _ [35, 7, 8, 1, 36, 37, 38, 39, 5, 40, 41, 42, 43, 44, 45, 46, 47, 48, 49, 50, 51, 52, 53, 54, 55, 56, 57, 58] (by decide +kernel) (by decide +kernel)
set_option maxRecDepth 20000 in
theorem gX0_sendAll_X0_discard : GoodIn wsX0_sendAll (wsV RX0 107 RX0 yX0_discard wsX0_discard) := goodIn_app (goodIn_of _ (by decide +kernel)) ggX0_sendAll_X0_discard
theorem dX0_sendAll_0 : decode cX0_sendAll 0 = .ok (.aload_n 0, 1) := by decide +kernel
theorem dX0_sendAll_1 : decode cX0_sendAll 1 = .ok (.getfield 49, 3) := by decide +kernel
theorem dX0_sendAll_4 : decode cX0_sendAll 4 = .ok (.istore_n 1, 1) := by decide +kernel
theorem dX0_sendAll_5 : decode cX0_sendAll 5 = .ok (.iconst 0, 1) := by decide +kernel
theorem dX0_sendAll_6 : decode cX0_sendAll 6 = .ok (.istore_n 2, 1) := by decide +kernel
theorem dX0_sendAll_7 : decode cX0_sendAll 7 = .ok (.iload_n 2, 1) := by decide +kernel
theorem dX0_sendAll_8 : decode cX0_sendAll 8 = .ok (.sipush 256, 3) := by decide +kernel
theorem dX0_sendAll_11 : decode cX0_sendAll 11 = .ok (.if_icmp .ge 36, 3) := by decide +kernel
theorem dX0_sendAll_14 : decode cX0_sendAll 14 = .ok (.aload_n 0, 1) := by decide +kernel
theorem dX0_sendAll_15 : decode cX0_sendAll 15 = .ok (.iconst 0, 1) := by decide +kernel
theorem dX0_sendAll_16 : decode cX0_sendAll 16 = .ok (.iconst 2, 1) := by decide +kernel
theorem dX0_sendAll_17 : decode cX0_sendAll 17 = .ok (.invokevirtual 96, 3) := by decide +kernel
theorem dX0_sendAll_20 : decode cX0_sendAll 20 = .ok (.istore_n 3, 1) := by decide +kernel
theorem dX0_sendAll_21 : decode cX0_sendAll 21 = .ok (.iload_n 3, 1) := by decide +kernel
theorem dX0_sendAll_22 : decode cX0_sendAll 22 = .ok (.iconst (-1), 1) := by decide +kernel
theorem dX0_sendAll_23 : decode cX0_sendAll 23 = .ok (.if_icmp .ne 6, 3) := by decide +kernel
theorem dX0_sendAll_26 : decode cX0_sendAll 26 = .ok (.goto 21, 3) := by decide +kernel
theorem dX0_sendAll_29 : decode cX0_sendAll 29 = .ok (.aload_n 0, 1) := by decide +kernel
theorem dX0_sendAll_30 : decode cX0_sendAll 30 = .ok (.iload_n 3, 1) := by decide +kernel
theorem dX0_sendAll_31 : decode cX0_sendAll 31 = .ok (.aload_n 0, 1) := by decide +kernel
theorem dX0_sendAll_32 : decode cX0_sendAll 32 = .ok (.iload_n 3, 1) := by decide +kernel
theorem dX0_sendAll_33 : decode cX0_sendAll 33 = .ok (.bipush 16, 2) := by decide +kernel
theorem dX0_sendAll_35 : decode cX0_sendAll 35 = .ok (.invokevirtual 103, 3) := by decide +kernel
theorem dX0_sendAll_38 : decode cX0_sendAll 38 = .ok (.invokevirtual 107, 3) := by decide +kernel
theorem dX0_sendAll_41 : decode cX0_sendAll 41 = .ok (.iinc 2 1, 3) := by decide +kernel
theorem dX0_sendAll_44 : decode cX0_sendAll 44 = .ok (.goto (-37), 3) := by decide +kernel
theorem dX0_sendAll_47 : decode cX0_sendAll 47 = .ok (.aload_n 0, 1) := by decide +kernel
theorem dX0_sendAll_48 : decode cX0_sendAll 48 = .ok (.getfield 49, 3) := by decide +kernel
theorem dX0_sendAll_51 : decode cX0_sendAll 51 = .ok (.iload_n 1, 1) := by decide +kernel
theorem dX0_sendAll_52 : decode cX0_sendAll 52 = .ok (.isub, 1) := by decide +kernel
theorem dX0_sendAll_53 : decode cX0_sendAll 53 = .ok (.ireturn, 1) := by decide +kernel
set_option maxRecDepth 20000 in
theorem ggX0_discard_X0_dropSurplus : GoodIn wsX0_discard wsX0_dropSurplus := goodIn_r _ [9, 2, 10, 11, 12, 13, 8, 14, 15, 16, 17, 18, 19, 20, 21, 22, 23, 24, 25, 26, 27] (by decide +kernel) (by decide +kernel)
set_option maxRecDepth 20000 in
theorem gX0_discard_X0_dropSurplus : GoodIn wsX0_discard (wsV RX0 58 RX0 yX0_dropSurplus wsX0_dropSurplus) := goodIn_app (goodIn_of _ (by decide +kernel)) ggX0_discard_X0_dropSurplus
theorem dX0_discard_0 : decode cX0_discard 0 = .ok (.iload_n 1, 1) := by decide +kernel
theorem dX0_discard_1 : decode cX0_discard 1 = .ok (.aload_n 0, 1) := by decide +kernel
theorem dX0_discard_2 : decode cX0_discard 2 = .ok (.getfield 21, 3) := by decide +kernel
theorem dX0_discard_5 : decode cX0_discard 5 = .ok (.iconst 0, 1) := by decide +kernel
theorem dX0_discard_6 : decode cX0_discard 6 = .ok (.iaload, 1) := by decide +kernel
theorem dX0_discard_7 : decode cX0_discard 7 = .ok (.ishl, 1) := by decide +kernel
theorem dX0_discard_8 : decode cX0_discard 8 = .ok (.istore_n 3, 1) := by decide +kernel
theorem dX0_discard_9 : decode cX0_discard 9 = .ok (.iload_n 2, 1) := by decide +kernel
theorem dX0_discard_10 : decode cX0_discard 10 = .ok (.aload_n 0, 1) := by decide +kernel
theorem dX0_discard_11 : decode cX0_discard 11 = .ok (.getfield 21, 3) := by decide +kernel
theorem dX0_discard_14 : decode cX0_discard 14 = .ok (.iconst 0, 1) := by decide +kernel
theorem dX0_discard_15 : decode cX0_discard 15 = .ok (.iaload, 1) := by decide +kernel
theorem dX0_discard_16 : decode cX0_discard 16 = .ok (.ishl, 1) := by decide +kernel
theorem dX0_discard_17 : decode cX0_discard 17 = .ok (.istore 4, 2) := by decide +kernel
theorem dX0_discard_19 : decode cX0_discard 19 = .ok (.iload_n 3, 1) := by decide +kernel
theorem dX0_discard_20 : decode cX0_discard 20 = .ok (.istore 5, 2) := by decide +kernel
theorem dX0_discard_22 : decode cX0_discard 22 = .ok (.iload 5, 2) := by decide +kernel
theorem dX0_discard_24 : decode cX0_discard 24 = .ok (.iload_n 3, 1) := by decide +kernel
theorem dX0_discard_25 : decode cX0_discard 25 = .ok (.iload 4, 2) := by decide +kernel
theorem dX0_discard_27 : decode cX0_discard 27 = .ok (.iadd, 1) := by decide +kernel
theorem dX0_discard_28 : decode cX0_discard 28 = .ok (.if_icmp .ge 17, 3) := by decide +kernel
theorem dX0_discard_31 : decode cX0_discard 31 = .ok (.aload_n 0, 1) := by decide +kernel
theorem dX0_discard_32 : decode cX0_discard 32 = .ok (.getfield 9, 3) := by decide +kernel
theorem dX0_discard_35 : decode cX0_discard 35 = .ok (.iload 5, 2) := by decide +kernel
theorem dX0_discard_37 : decode cX0_discard 37 = .ok (.iconst (-1), 1) := by decide +kernel
theorem dX0_discard_38 : decode cX0_discard 38 = .ok (.iastore, 1) := by decide +kernel
theorem dX0_discard_39 : decode cX0_discard 39 = .ok (.iinc 5 1, 3) := by decide +kernel
theorem dX0_discard_42 : decode cX0_discard 42 = .ok (.goto (-20), 3) := by decide +kernel
theorem dX0_discard_45 : decode cX0_discard 45 = .ok (.aload_n 0, 1) := by decide +kernel
theorem dX0_discard_46 : decode cX0_discard 46 = .ok (.dup, 1) := by decide +kernel
theorem dX0_discard_47 : decode cX0_discard 47 = .ok (.getfield 49, 3) := by decide +kernel
theorem dX0_discard_50 : decode cX0_discard 50 = .ok (.iconst 1, 1) := by decide +kernel
theorem dX0_discard_51 : decode cX0_discard 51 = .ok (.iadd, 1) := by decide +kernel
theorem dX0_discard_52 : decode cX0_discard 52 = .ok (.putfield 49, 3) := by decide +kernel
theorem dX0_discard_55 : decode cX0_discard 55 = .ok (.aload_n 0, 1) := by decide +kernel
theorem dX0_discard_56 : decode cX0_discard 56 = .ok (.dup, 1) := by decide +kernel
theorem dX0_discard_57 : decode cX0_discard 57 = .ok (.getfield 52, 3) := by decide +kernel
theorem dX0_discard_60 : decode cX0_discard 60 = .ok (.iload 4, 2) := by decide +kernel
theorem dX0_discard_62 : decode cX0_discard 62 = .ok (.iadd, 1) := by decide +kernel
theorem dX0_discard_63 : decode cX0_discard 63 = .ok (.putfield 52, 3) := by decide +kernel
theorem dX0_discard_66 : decode cX0_discard 66 = .ok (.aload_n 0, 1) := by decide +kernel
theorem dX0_discard_67 : decode cX0_discard 67 = .ok (.invokevirtual 58, 3) := by decide +kernel
theorem dX0_discard_70 : decode cX0_discard 70 = .ok (.return_, 1) := by decide +kernel
end
section
abbrev zD (g : zG) (h0 h1 h2 h3 h4 : Nat) (b : Nat → Int32) (pF : Nat → Int32) (pL : Nat → Int32) (st : Nat → Int32) (tm : Int32) (qt : Int32) (cm : Int32) (ds : Int32) (dr : Int32) : va_W := [(h0, .inr (0, [.ref h1, .ref h2, .ref h3, .ref h4, .int tm, .int qt, .int cm, .int ds, .int dr])), (h1, .inl (g.2.1, 256, .inl b)), (h2, .inl (g.2.1, 3, .inl pF)), (h3, .inl (g.2.1, 3, .inl pL)), (h4, .inl (g.2.1, 6, .inl st))]
def fX0_time (tm : Int32) : Option (Int32) :=
  some tm
theorem mX0_time_42 : Cond.fieldLink RX0 42 "IdleDiscards$Device" "time" "I" ∈ wsX0_time := by decide +kernel
theorem uX0_time_X0 : ∀ w ∈ wsX00, w ∈ wsX0_time := by decide +kernel
set_option maxRecDepth 100000 in
set_option maxHeartbeats 4000000 in
theorem kX0_time (l : Launch) (g : zG) (h0 h1 h2 h3 h4 : Nat) (b : Nat → Int32) (pF : Nat → Int32) (pL : Nat → Int32) (st : Nat → Int32) (tm : Int32) (qt : Int32) (cm : Int32) (ds : Int32) (dr : Int32) {r : Int32} (h : fX0_time tm = some r) : Mr l g yX0_time wsX0_time { frames := 0, cells := 0, slots := 0, locals := 0 } [.ref h0] (zD g h0 h1 h2 h3 h4 b pF pL st tm qt cm ds dr) (zQi r) := by
  refine zr_in (cc := cX0_time) (maxL := 1) (ret := (some .int)) (by decide) rfl (Nat.le_of_ble_eq_true rfl) ?_
  intro p e s m below meth c hx hb hr hml hts hown hlocks hP hK ls hl
  replace hl : lv_has ls 1 [(0, .ref h0)] := hl
  unfold fX0_time at h
  refine lv_aload_n hx hb dX0_time_0 rfl (lv_at hl 0 rfl) ?_
  refine va_get (ci := 0) (v := .int tm) (C := RX0) (T := TX0) (N := 9) hx hb hts uX0_time_X0 hown hK hP 0 rfl rfl 4 (by decide) (hts _ mX0_time_42) (fun _ h9 => h9) rfl dX0_time_1 ?_
  cases h
  exact zr_i hx hb hr hlocks dX0_time_4
def fX0_quietTicks (qt : Int32) : Option (Int32) :=
  some qt
theorem mX0_quietTicks_46 : Cond.fieldLink RX0 46 "IdleDiscards$Device" "quiet" "I" ∈ wsX0_quietTicks := by decide +kernel
theorem uX0_quietTicks_X0 : ∀ w ∈ wsX00, w ∈ wsX0_quietTicks := by decide +kernel
set_option maxRecDepth 100000 in
set_option maxHeartbeats 4000000 in
theorem kX0_quietTicks (l : Launch) (g : zG) (h0 h1 h2 h3 h4 : Nat) (b : Nat → Int32) (pF : Nat → Int32) (pL : Nat → Int32) (st : Nat → Int32) (tm : Int32) (qt : Int32) (cm : Int32) (ds : Int32) (dr : Int32) {r : Int32} (h : fX0_quietTicks qt = some r) : Mr l g yX0_quietTicks wsX0_quietTicks { frames := 0, cells := 0, slots := 0, locals := 0 } [.ref h0] (zD g h0 h1 h2 h3 h4 b pF pL st tm qt cm ds dr) (zQi r) := by
  refine zr_in (cc := cX0_quietTicks) (maxL := 1) (ret := (some .int)) (by decide) rfl (Nat.le_of_ble_eq_true rfl) ?_
  intro p e s m below meth c hx hb hr hml hts hown hlocks hP hK ls hl
  replace hl : lv_has ls 1 [(0, .ref h0)] := hl
  unfold fX0_quietTicks at h
  refine lv_aload_n hx hb dX0_quietTicks_0 rfl (lv_at hl 0 rfl) ?_
  refine va_get (ci := 0) (v := .int qt) (C := RX0) (T := TX0) (N := 9) hx hb hts uX0_quietTicks_X0 hown hK hP 0 rfl rfl 5 (by decide) (hts _ mX0_quietTicks_46) (fun _ h9 => h9) rfl dX0_quietTicks_1 ?_
  cases h
  exact zr_i hx hb hr hlocks dX0_quietTicks_4
def fX0_commands (cm : Int32) : Option (Int32) :=
  some cm
theorem mX0_commands_49 : Cond.fieldLink RX0 49 "IdleDiscards$Device" "commands" "I" ∈ wsX0_commands := by decide +kernel
theorem uX0_commands_X0 : ∀ w ∈ wsX00, w ∈ wsX0_commands := by decide +kernel
set_option maxRecDepth 100000 in
set_option maxHeartbeats 4000000 in
theorem kX0_commands (l : Launch) (g : zG) (h0 h1 h2 h3 h4 : Nat) (b : Nat → Int32) (pF : Nat → Int32) (pL : Nat → Int32) (st : Nat → Int32) (tm : Int32) (qt : Int32) (cm : Int32) (ds : Int32) (dr : Int32) {r : Int32} (h : fX0_commands cm = some r) : Mr l g yX0_commands wsX0_commands { frames := 0, cells := 0, slots := 0, locals := 0 } [.ref h0] (zD g h0 h1 h2 h3 h4 b pF pL st tm qt cm ds dr) (zQi r) := by
  refine zr_in (cc := cX0_commands) (maxL := 1) (ret := (some .int)) (by decide) rfl (Nat.le_of_ble_eq_true rfl) ?_
  intro p e s m below meth c hx hb hr hml hts hown hlocks hP hK ls hl
  replace hl : lv_has ls 1 [(0, .ref h0)] := hl
  unfold fX0_commands at h
  refine lv_aload_n hx hb dX0_commands_0 rfl (lv_at hl 0 rfl) ?_
  refine va_get (ci := 0) (v := .int cm) (C := RX0) (T := TX0) (N := 9) hx hb hts uX0_commands_X0 hown hK hP 0 rfl rfl 6 (by decide) (hts _ mX0_commands_49) (fun _ h9 => h9) rfl dX0_commands_1 ?_
  cases h
  exact zr_i hx hb hr hlocks dX0_commands_4
def fX0_discarded (ds : Int32) : Option (Int32) :=
  some ds
theorem mX0_discarded_52 : Cond.fieldLink RX0 52 "IdleDiscards$Device" "discarded" "I" ∈ wsX0_discarded := by decide +kernel
theorem uX0_discarded_X0 : ∀ w ∈ wsX00, w ∈ wsX0_discarded := by decide +kernel
set_option maxRecDepth 100000 in
set_option maxHeartbeats 4000000 in
theorem kX0_discarded (l : Launch) (g : zG) (h0 h1 h2 h3 h4 : Nat) (b : Nat → Int32) (pF : Nat → Int32) (pL : Nat → Int32) (st : Nat → Int32) (tm : Int32) (qt : Int32) (cm : Int32) (ds : Int32) (dr : Int32) {r : Int32} (h : fX0_discarded ds = some r) : Mr l g yX0_discarded wsX0_discarded { frames := 0, cells := 0, slots := 0, locals := 0 } [.ref h0] (zD g h0 h1 h2 h3 h4 b pF pL st tm qt cm ds dr) (zQi r) := by
  refine zr_in (cc := cX0_discarded) (maxL := 1) (ret := (some .int)) (by decide) rfl (Nat.le_of_ble_eq_true rfl) ?_
  intro p e s m below meth c hx hb hr hml hts hown hlocks hP hK ls hl
  replace hl : lv_has ls 1 [(0, .ref h0)] := hl
  unfold fX0_discarded at h
  refine lv_aload_n hx hb dX0_discarded_0 rfl (lv_at hl 0 rfl) ?_
  refine va_get (ci := 0) (v := .int ds) (C := RX0) (T := TX0) (N := 9) hx hb hts uX0_discarded_X0 hown hK hP 0 rfl rfl 7 (by decide) (hts _ mX0_discarded_52) (fun _ h9 => h9) rfl dX0_discarded_1 ?_
  cases h
  exact zr_i hx hb hr hlocks dX0_discarded_4
def fX0_dropped (dr : Int32) : Option (Int32) :=
  some dr
theorem mX0_dropped_55 : Cond.fieldLink RX0 55 "IdleDiscards$Device" "dropped" "I" ∈ wsX0_dropped := by decide +kernel
theorem uX0_dropped_X0 : ∀ w ∈ wsX00, w ∈ wsX0_dropped := by decide +kernel
set_option maxRecDepth 100000 in
set_option maxHeartbeats 4000000 in
theorem kX0_dropped (l : Launch) (g : zG) (h0 h1 h2 h3 h4 : Nat) (b : Nat → Int32) (pF : Nat → Int32) (pL : Nat → Int32) (st : Nat → Int32) (tm : Int32) (qt : Int32) (cm : Int32) (ds : Int32) (dr : Int32) {r : Int32} (h : fX0_dropped dr = some r) : Mr l g yX0_dropped wsX0_dropped { frames := 0, cells := 0, slots := 0, locals := 0 } [.ref h0] (zD g h0 h1 h2 h3 h4 b pF pL st tm qt cm ds dr) (zQi r) := by
  refine zr_in (cc := cX0_dropped) (maxL := 1) (ret := (some .int)) (by decide) rfl (Nat.le_of_ble_eq_true rfl) ?_
  intro p e s m below meth c hx hb hr hml hts hown hlocks hP hK ls hl
  replace hl : lv_has ls 1 [(0, .ref h0)] := hl
  unfold fX0_dropped at h
  refine lv_aload_n hx hb dX0_dropped_0 rfl (lv_at hl 0 rfl) ?_
  refine va_get (ci := 0) (v := .int dr) (C := RX0) (T := TX0) (N := 9) hx hb hts uX0_dropped_X0 hown hK hP 0 rfl rfl 8 (by decide) (hts _ mX0_dropped_55) (fun _ h9 => h9) rfl dX0_dropped_1 ?_
  cases h
  exact zr_i hx hb hr hlocks dX0_dropped_4
def fX0_settingAt (st : Nat → Int32) (a1 : Int32) : Option (Int32) :=
  if a1 < 0 ∨ 6 ≤ a1.toNatClampNeg then none else
  some (st a1.toNatClampNeg)
theorem mX0_settingAt_21 : Cond.fieldLink RX0 21 "IdleDiscards$Device" "settings" "[I" ∈ wsX0_settingAt := by decide +kernel
theorem uX0_settingAt_X0 : ∀ w ∈ wsX00, w ∈ wsX0_settingAt := by decide +kernel
set_option maxRecDepth 100000 in
set_option maxHeartbeats 4000000 in
theorem kX0_settingAt (l : Launch) (g : zG) (h0 h1 h2 h3 h4 : Nat) (b : Nat → Int32) (pF : Nat → Int32) (pL : Nat → Int32) (st : Nat → Int32) (tm : Int32) (qt : Int32) (cm : Int32) (ds : Int32) (dr : Int32) (a1 : Int32) {r : Int32} (h : fX0_settingAt st a1 = some r) : Mr l g yX0_settingAt wsX0_settingAt { frames := 0, cells := 0, slots := 0, locals := 0 } [.ref h0, .int a1] (zD g h0 h1 h2 h3 h4 b pF pL st tm qt cm ds dr) (zQi r) := by
  refine zr_in (cc := cX0_settingAt) (maxL := 2) (ret := (some .int)) (by decide) rfl (Nat.le_of_ble_eq_true rfl) ?_
  intro p e s m below meth c hx hb hr hml hts hown hlocks hP hK ls hl
  replace hl : lv_has ls 2 [(0, .ref h0), (1, .int a1)] := hl
  unfold fX0_settingAt at h
  refine lv_aload_n hx hb dX0_settingAt_0 rfl (lv_at hl 0 rfl) ?_
  refine va_get (ci := 0) (v := .ref h4) (C := RX0) (T := TX0) (N := 9) hx hb hts uX0_settingAt_X0 hown hK hP 0 rfl rfl 3 (by decide) (hts _ mX0_settingAt_21) (fun _ h9 => h9) rfl dX0_settingAt_1 ?_
  refine lv_iload_n hx hb dX0_settingAt_4 rfl (lv_at hl 1 rfl) ?_
  obtain ⟨i1, h⟩ := zi h
  refine za_ild hx hb hK hP 4 rfl _ rfl i1 dX0_settingAt_5 ?_
  cases h
  exact zr_i hx hb hr hlocks dX0_settingAt_6
def fX0_changeSetting (st : Nat → Int32) (a1 : Int32) (a2 : Int32) : Option ((Nat → Int32)) :=
  if a1 < 0 ∨ 6 ≤ a1.toNatClampNeg then none else
  some (upd st a1.toNatClampNeg a2)
theorem mX0_changeSetting_21 : Cond.fieldLink RX0 21 "IdleDiscards$Device" "settings" "[I" ∈ wsX0_changeSetting := by decide +kernel
theorem uX0_changeSetting_X0 : ∀ w ∈ wsX00, w ∈ wsX0_changeSetting := by decide +kernel
set_option maxRecDepth 100000 in
set_option maxHeartbeats 4000000 in
theorem kX0_changeSetting (l : Launch) (g : zG) (h0 h1 h2 h3 h4 : Nat) (b : Nat → Int32) (pF : Nat → Int32) (pL : Nat → Int32) (st : Nat → Int32) (tm : Int32) (qt : Int32) (cm : Int32) (ds : Int32) (dr : Int32) (a1 : Int32) (a2 : Int32) {st' : Nat → Int32} (h : fX0_changeSetting st a1 a2 = some st') : Mw l g yX0_changeSetting wsX0_changeSetting { frames := 0, cells := 0, slots := 0, locals := 0 } [.ref h0, .int a1, .int a2] (zD g h0 h1 h2 h3 h4 b pF pL st tm qt cm ds dr) (zWv g (zD g h0 h1 h2 h3 h4 b pF pL st' tm qt cm ds dr)) := by
  refine zw_in (cc := cX0_changeSetting) (maxL := 3) (ret := none) (by decide) rfl (Nat.le_of_ble_eq_true rfl) ?_
  intro p e s m below meth c hx hb hr hml hts hown hlocks hK A hA hP hD hS ls hl
  replace hl : lv_has ls 3 [(0, .ref h0), (1, .int a1), (2, .int a2)] := hl
  unfold fX0_changeSetting at h
  refine lv_aload_n hx hb dX0_changeSetting_0 rfl (lv_at hl 0 rfl) ?_
  refine va_get (ci := 0) (v := .ref h4) (C := RX0) (T := TX0) (N := 9) hx hb hts uX0_changeSetting_X0 hown hK hP 0 rfl rfl 3 (by decide) (hts _ mX0_changeSetting_21) (fun _ h9 => h9) rfl dX0_changeSetting_1 ?_
  refine lv_iload_n hx hb dX0_changeSetting_4 rfl (lv_at hl 1 rfl) ?_
  refine lv_iload_n hx hb dX0_changeSetting_5 rfl (lv_at hl 2 rfl) ?_
  obtain ⟨i1, h⟩ := zi h
  refine za_ist hx hb hK hP hD hS 4 rfl _ rfl i1 dX0_changeSetting_6 (fun H locs hP hD hS => ?_)
  replace hP : zP g (zD g h0 h1 h2 h3 h4 b pF pL (upd st a1.toNatClampNeg a2) tm qt cm ds dr) H := hP
  replace hD : va_D A (zD g h0 h1 h2 h3 h4 b pF pL (upd st a1.toNatClampNeg a2) tm qt cm ds dr) := hD
  cases h
  exact zw_v hx hb hr hlocks hP hS dX0_changeSetting_7
def fX0_isAlive (b : Nat → Int32) (a1 : Int32) : Option (Int32) :=
  if a1 < 0 ∨ 256 ≤ a1.toNatClampNeg then none else
  if (b a1.toNatClampNeg) = (-2) then
    some 1
  else
    some 0
theorem mX0_isAlive_9 : Cond.fieldLink RX0 9 "IdleDiscards$Device" "blocks" "[I" ∈ wsX0_isAlive := by decide +kernel
theorem uX0_isAlive_X0 : ∀ w ∈ wsX00, w ∈ wsX0_isAlive := by decide +kernel
set_option maxRecDepth 100000 in
set_option maxHeartbeats 4000000 in
theorem kX0_isAlive (l : Launch) (g : zG) (h0 h1 h2 h3 h4 : Nat) (b : Nat → Int32) (pF : Nat → Int32) (pL : Nat → Int32) (st : Nat → Int32) (tm : Int32) (qt : Int32) (cm : Int32) (ds : Int32) (dr : Int32) (a1 : Int32) {r : Int32} (h : fX0_isAlive b a1 = some r) : Mr l g yX0_isAlive wsX0_isAlive { frames := 0, cells := 0, slots := 0, locals := 0 } [.ref h0, .int a1] (zD g h0 h1 h2 h3 h4 b pF pL st tm qt cm ds dr) (zQi r) := by
  refine zr_in (cc := cX0_isAlive) (maxL := 2) (ret := (some .boolean)) (by decide) rfl (Nat.le_of_ble_eq_true rfl) ?_
  intro p e s m below meth c hx hb hr hml hts hown hlocks hP hK ls hl
  replace hl : lv_has ls 2 [(0, .ref h0), (1, .int a1)] := hl
  unfold fX0_isAlive at h
  refine lv_aload_n hx hb dX0_isAlive_0 rfl (lv_at hl 0 rfl) ?_
  refine va_get (ci := 0) (v := .ref h1) (C := RX0) (T := TX0) (N := 9) hx hb hts uX0_isAlive_X0 hown hK hP 0 rfl rfl 0 (by decide) (hts _ mX0_isAlive_9) (fun _ h9 => h9) rfl dX0_isAlive_1 ?_
  refine lv_iload_n hx hb dX0_isAlive_4 rfl (lv_at hl 1 rfl) ?_
  obtain ⟨i1, h⟩ := zi h
  refine za_ild hx hb hK hP 1 rfl _ rfl i1 dX0_isAlive_5 ?_
  refine lv_bipush (v := (-2)) hx hb dX0_isAlive_6 (by decide) ?_
  refine lv_icmp_ne (tgt := 15) hx hb dX0_isAlive_8 (by decide) (fun c2 => ?_) (fun c2 => ?_)
  · replace h := zf c2 h
    refine lv_iconst (v := 0) hx hb dX0_isAlive_15 (by decide) ?_
    cases h
    exact zr_z hx hb hr hlocks (by decide) dX0_isAlive_16
  · replace h := zt c2 h
    refine lv_iconst (v := 1) hx hb dX0_isAlive_11 (by decide) ?_
    refine lv_goto (tgt := 16) hx hb dX0_isAlive_12 (by decide) ?_
    cases h
    exact zr_z hx hb hr hlocks (by decide) dX0_isAlive_16
def fX0_isHeld (b : Nat → Int32) (a1 : Int32) : Option (Int32) :=
  if a1 < 0 ∨ 256 ≤ a1.toNatClampNeg then none else
  if (b a1.toNatClampNeg) = (-1) then
    some 0
  else
    some 1
theorem mX0_isHeld_9 : Cond.fieldLink RX0 9 "IdleDiscards$Device" "blocks" "[I" ∈ wsX0_isHeld := by decide +kernel
theorem uX0_isHeld_X0 : ∀ w ∈ wsX00, w ∈ wsX0_isHeld := by decide +kernel
set_option maxRecDepth 100000 in
set_option maxHeartbeats 4000000 in
theorem kX0_isHeld (l : Launch) (g : zG) (h0 h1 h2 h3 h4 : Nat) (b : Nat → Int32) (pF : Nat → Int32) (pL : Nat → Int32) (st : Nat → Int32) (tm : Int32) (qt : Int32) (cm : Int32) (ds : Int32) (dr : Int32) (a1 : Int32) {r : Int32} (h : fX0_isHeld b a1 = some r) : Mr l g yX0_isHeld wsX0_isHeld { frames := 0, cells := 0, slots := 0, locals := 0 } [.ref h0, .int a1] (zD g h0 h1 h2 h3 h4 b pF pL st tm qt cm ds dr) (zQi r) := by
  refine zr_in (cc := cX0_isHeld) (maxL := 2) (ret := (some .boolean)) (by decide) rfl (Nat.le_of_ble_eq_true rfl) ?_
  intro p e s m below meth c hx hb hr hml hts hown hlocks hP hK ls hl
  replace hl : lv_has ls 2 [(0, .ref h0), (1, .int a1)] := hl
  unfold fX0_isHeld at h
  refine lv_aload_n hx hb dX0_isHeld_0 rfl (lv_at hl 0 rfl) ?_
  refine va_get (ci := 0) (v := .ref h1) (C := RX0) (T := TX0) (N := 9) hx hb hts uX0_isHeld_X0 hown hK hP 0 rfl rfl 0 (by decide) (hts _ mX0_isHeld_9) (fun _ h9 => h9) rfl dX0_isHeld_1 ?_
  refine lv_iload_n hx hb dX0_isHeld_4 rfl (lv_at hl 1 rfl) ?_
  obtain ⟨i1, h⟩ := zi h
  refine za_ild hx hb hK hP 1 rfl _ rfl i1 dX0_isHeld_5 ?_
  refine lv_iconst (v := (-1)) hx hb dX0_isHeld_6 (by decide) ?_
  refine lv_icmp_eq (tgt := 14) hx hb dX0_isHeld_7 (by decide) (fun c2 => ?_) (fun c2 => ?_)
  · replace h := zt c2 h
    refine lv_iconst (v := 0) hx hb dX0_isHeld_14 (by decide) ?_
    cases h
    exact zr_z hx hb hr hlocks (by decide) dX0_isHeld_15
  · replace h := zf c2 h
    refine lv_iconst (v := 1) hx hb dX0_isHeld_10 (by decide) ?_
    refine lv_goto (tgt := 15) hx hb dX0_isHeld_11 (by decide) ?_
    cases h
    exact zr_z hx hb hr hlocks (by decide) dX0_isHeld_15
def fX0_isQueued (b : Nat → Int32) (a1 : Int32) : Option (Int32) :=
  if a1 < 0 ∨ 256 ≤ a1.toNatClampNeg then none else
  if (b a1.toNatClampNeg) < 0 then
    some 0
  else
    some 1
theorem mX0_isQueued_9 : Cond.fieldLink RX0 9 "IdleDiscards$Device" "blocks" "[I" ∈ wsX0_isQueued := by decide +kernel
theorem uX0_isQueued_X0 : ∀ w ∈ wsX00, w ∈ wsX0_isQueued := by decide +kernel
set_option maxRecDepth 100000 in
set_option maxHeartbeats 4000000 in
theorem kX0_isQueued (l : Launch) (g : zG) (h0 h1 h2 h3 h4 : Nat) (b : Nat → Int32) (pF : Nat → Int32) (pL : Nat → Int32) (st : Nat → Int32) (tm : Int32) (qt : Int32) (cm : Int32) (ds : Int32) (dr : Int32) (a1 : Int32) {r : Int32} (h : fX0_isQueued b a1 = some r) : Mr l g yX0_isQueued wsX0_isQueued { frames := 0, cells := 0, slots := 0, locals := 0 } [.ref h0, .int a1] (zD g h0 h1 h2 h3 h4 b pF pL st tm qt cm ds dr) (zQi r) := by
  refine zr_in (cc := cX0_isQueued) (maxL := 2) (ret := (some .boolean)) (by decide) rfl (Nat.le_of_ble_eq_true rfl) ?_
  intro p e s m below meth c hx hb hr hml hts hown hlocks hP hK ls hl
  replace hl : lv_has ls 2 [(0, .ref h0), (1, .int a1)] := hl
  unfold fX0_isQueued at h
  refine lv_aload_n hx hb dX0_isQueued_0 rfl (lv_at hl 0 rfl) ?_
  refine va_get (ci := 0) (v := .ref h1) (C := RX0) (T := TX0) (N := 9) hx hb hts uX0_isQueued_X0 hown hK hP 0 rfl rfl 0 (by decide) (hts _ mX0_isQueued_9) (fun _ h9 => h9) rfl dX0_isQueued_1 ?_
  refine lv_iload_n hx hb dX0_isQueued_4 rfl (lv_at hl 1 rfl) ?_
  obtain ⟨i1, h⟩ := zi h
  refine za_ild hx hb hK hP 1 rfl _ rfl i1 dX0_isQueued_5 ?_
  refine lv_if_lt (tgt := 13) hx hb dX0_isQueued_6 (by decide) (fun c2 => ?_) (fun c2 => ?_)
  · replace h := zt c2 h
    refine lv_iconst (v := 0) hx hb dX0_isQueued_13 (by decide) ?_
    cases h
    exact zr_z hx hb hr hlocks (by decide) dX0_isQueued_14
  · replace h := zf c2 h
    refine lv_iconst (v := 1) hx hb dX0_isQueued_9 (by decide) ?_
    refine lv_goto (tgt := 14) hx hb dX0_isQueued_10 (by decide) ?_
    cases h
    exact zr_z hx hb hr hlocks (by decide) dX0_isQueued_14
def fX0_count_4 (b : Nat → Int32) : Nat → Int32 → Int32 → Int32 → Option (Int32)
  | 0, _, _, _ => none
  | n + 1, v1, v2, v3 =>
    if 256 ≤ v3 then
        some v2
      else
        if v3 < 0 ∨ 256 ≤ v3.toNatClampNeg then none else
        if (b v3.toNatClampNeg) = v1 then
          fX0_count_4 b n v1 (v2 + 1) (v3 + 1)
        else
          fX0_count_4 b n v1 v2 (v3 + 1)
def fX0_count (b : Nat → Int32) (a1 : Int32) : Option (Int32) :=
  fX0_count_4 b 1000 a1 0 0
theorem mX0_count_9 : Cond.fieldLink RX0 9 "IdleDiscards$Device" "blocks" "[I" ∈ wsX0_count := by decide +kernel
theorem uX0_count_X0 : ∀ w ∈ wsX00, w ∈ wsX0_count := by decide +kernel
set_option maxRecDepth 100000 in
set_option maxHeartbeats 4000000 in
theorem kX0_count (l : Launch) (g : zG) (h0 h1 h2 h3 h4 : Nat) (b : Nat → Int32) (pF : Nat → Int32) (pL : Nat → Int32) (st : Nat → Int32) (tm : Int32) (qt : Int32) (cm : Int32) (ds : Int32) (dr : Int32) (a1 : Int32) {r : Int32} (h : fX0_count b a1 = some r) : Mr l g yX0_count wsX0_count { frames := 0, cells := 0, slots := 0, locals := 0 } [.ref h0, .int a1] (zD g h0 h1 h2 h3 h4 b pF pL st tm qt cm ds dr) (zQi r) := by
  refine zr_in (cc := cX0_count) (maxL := 4) (ret := (some .int)) (by decide) rfl (Nat.le_of_ble_eq_true rfl) ?_
  intro p e s m below meth c hx hb hr hml hts hown hlocks hP hK ls hl
  replace hl : lv_has ls 4 [(0, .ref h0), (1, .int a1)] := hl
  have loop_4 : ∀ (n : Nat) (v1 : Int32) (v2 : Int32) (v3 : Int32), fX0_count_4 b n v1 v2 v3 = some r → ∀ (ls : Array Slot), lv_has ls 4 [(0, .ref h0), (1, .int v1), (2, .int v2), (3, .int v3)] → W p l e ({ frames := 0, cells := 0, slots := 0, locals := 0 } : Room) s m [.ref h0, .int a1].toArray below meth c s.heap [] 0 0 (MQ below (zQi r) [.ref h0, .int a1].toArray s 0 0 (fun _ => False)) (F0 m 4 ls []) := by
    intro n
    induction n with
    | zero => intro v1 v2 v3 h ls hl; exact zn h
    | succ n ih =>
      intro v1 v2 v3 h ls hl
      rw [fX0_count_4] at h
      refine lv_iload_n hx hb dX0_count_4 rfl (lv_at hl 3 rfl) ?_
      refine lv_sipush (v := 256) hx hb dX0_count_5 (by decide) ?_
      refine lv_icmp_ge (tgt := 30) hx hb dX0_count_8 (by decide) (fun c1 => ?_) (fun c1 => ?_)
      · replace h := zt c1 h
        refine lv_iload_n hx hb dX0_count_30 rfl (lv_at hl 2 rfl) ?_
        cases h
        exact zr_i hx hb hr hlocks dX0_count_31
      · replace h := zf c1 h
        refine lv_aload_n hx hb dX0_count_11 rfl (lv_at hl 0 rfl) ?_
        refine va_get (ci := 0) (v := .ref h1) (C := RX0) (T := TX0) (N := 9) hx hb hts uX0_count_X0 hown hK hP 0 rfl rfl 0 (by decide) (hts _ mX0_count_9) (fun _ h9 => h9) rfl dX0_count_12 ?_
        refine lv_iload_n hx hb dX0_count_15 rfl (lv_at hl 3 rfl) ?_
        obtain ⟨i2, h⟩ := zi h
        refine za_ild hx hb hK hP 1 rfl _ rfl i2 dX0_count_16 ?_
        refine lv_iload_n hx hb dX0_count_17 rfl (lv_at hl 1 rfl) ?_
        refine lv_icmp_ne (tgt := 24) hx hb dX0_count_18 (by decide) (fun c3 => ?_) (fun c3 => ?_)
        · replace h := zf c3 h
          refine lv_iinc (v := (v3 + 1)) (lv' := [(3, .int (v3 + 1)), (0, .ref h0), (1, .int v1), (2, .int v2)]) hx hb dX0_count_24 hl (k := 3) rfl rfl (by decide) rfl (fun ls hl => ?_)
          refine lv_goto (tgt := 4) hx hb dX0_count_27 (by decide) ?_
          exact ih v1 v2 (v3 + 1) h ls (lv_sub hl [1, 2, 3, 0] rfl)
        · replace h := zt c3 h
          refine lv_iinc (v := (v2 + 1)) (lv' := [(2, .int (v2 + 1)), (0, .ref h0), (1, .int v1), (3, .int v3)]) hx hb dX0_count_21 hl (k := 2) rfl rfl (by decide) rfl (fun ls hl => ?_)
          refine lv_iinc (v := (v3 + 1)) (lv' := [(3, .int (v3 + 1)), (2, .int (v2 + 1)), (0, .ref h0), (1, .int v1)]) hx hb dX0_count_24 hl (k := 3) rfl rfl (by decide) rfl (fun ls hl => ?_)
          refine lv_goto (tgt := 4) hx hb dX0_count_27 (by decide) ?_
          exact ih v1 (v2 + 1) (v3 + 1) h ls (lv_sub hl [2, 3, 1, 0] rfl)
  unfold fX0_count at h
  refine lv_iconst (v := 0) hx hb dX0_count_0 (by decide) ?_
  refine lv_istore_n (lv' := [(2, .int 0), (0, .ref h0), (1, .int a1)]) hx hb dX0_count_1 rfl hl (by decide) rfl (fun ls hl => ?_)
  refine lv_iconst (v := 0) hx hb dX0_count_2 (by decide) ?_
  refine lv_istore_n (lv' := [(3, .int 0), (2, .int 0), (0, .ref h0), (1, .int a1)]) hx hb dX0_count_3 rfl hl (by decide) rfl (fun ls hl => ?_)
  exact loop_4 1000 a1 0 0 h ls (lv_sub hl [2, 3, 1, 0] rfl)
def fX0_countQueued_4 (b : Nat → Int32) : Nat → Int32 → Int32 → Option (Int32)
  | 0, _, _ => none
  | n + 1, v1, v2 =>
    if 256 ≤ v2 then
        some v1
      else
        if v2 < 0 ∨ 256 ≤ v2.toNatClampNeg then none else
        if (b v2.toNatClampNeg) < 0 then
          fX0_countQueued_4 b n v1 (v2 + 1)
        else
          fX0_countQueued_4 b n (v1 + 1) (v2 + 1)
def fX0_countQueued (b : Nat → Int32) : Option (Int32) :=
  fX0_countQueued_4 b 1000 0 0
theorem mX0_countQueued_9 : Cond.fieldLink RX0 9 "IdleDiscards$Device" "blocks" "[I" ∈ wsX0_countQueued := by decide +kernel
theorem uX0_countQueued_X0 : ∀ w ∈ wsX00, w ∈ wsX0_countQueued := by decide +kernel
set_option maxRecDepth 100000 in
set_option maxHeartbeats 4000000 in
theorem kX0_countQueued (l : Launch) (g : zG) (h0 h1 h2 h3 h4 : Nat) (b : Nat → Int32) (pF : Nat → Int32) (pL : Nat → Int32) (st : Nat → Int32) (tm : Int32) (qt : Int32) (cm : Int32) (ds : Int32) (dr : Int32) {r : Int32} (h : fX0_countQueued b = some r) : Mr l g yX0_countQueued wsX0_countQueued { frames := 0, cells := 0, slots := 0, locals := 0 } [.ref h0] (zD g h0 h1 h2 h3 h4 b pF pL st tm qt cm ds dr) (zQi r) := by
  refine zr_in (cc := cX0_countQueued) (maxL := 3) (ret := (some .int)) (by decide) rfl (Nat.le_of_ble_eq_true rfl) ?_
  intro p e s m below meth c hx hb hr hml hts hown hlocks hP hK ls hl
  replace hl : lv_has ls 3 [(0, .ref h0)] := hl
  have loop_4 : ∀ (n : Nat) (v1 : Int32) (v2 : Int32), fX0_countQueued_4 b n v1 v2 = some r → ∀ (ls : Array Slot), lv_has ls 3 [(0, .ref h0), (1, .int v1), (2, .int v2)] → W p l e ({ frames := 0, cells := 0, slots := 0, locals := 0 } : Room) s m [.ref h0].toArray below meth c s.heap [] 0 0 (MQ below (zQi r) [.ref h0].toArray s 0 0 (fun _ => False)) (F0 m 4 ls []) := by
    intro n
    induction n with
    | zero => intro v1 v2 h ls hl; exact zn h
    | succ n ih =>
      intro v1 v2 h ls hl
      rw [fX0_countQueued_4] at h
      refine lv_iload_n hx hb dX0_countQueued_4 rfl (lv_at hl 2 rfl) ?_
      refine lv_sipush (v := 256) hx hb dX0_countQueued_5 (by decide) ?_
      refine lv_icmp_ge (tgt := 29) hx hb dX0_countQueued_8 (by decide) (fun c1 => ?_) (fun c1 => ?_)
      · replace h := zt c1 h
        refine lv_iload_n hx hb dX0_countQueued_29 rfl (lv_at hl 1 rfl) ?_
        cases h
        exact zr_i hx hb hr hlocks dX0_countQueued_30
      · replace h := zf c1 h
        refine lv_aload_n hx hb dX0_countQueued_11 rfl (lv_at hl 0 rfl) ?_
        refine va_get (ci := 0) (v := .ref h1) (C := RX0) (T := TX0) (N := 9) hx hb hts uX0_countQueued_X0 hown hK hP 0 rfl rfl 0 (by decide) (hts _ mX0_countQueued_9) (fun _ h9 => h9) rfl dX0_countQueued_12 ?_
        refine lv_iload_n hx hb dX0_countQueued_15 rfl (lv_at hl 2 rfl) ?_
        obtain ⟨i2, h⟩ := zi h
        refine za_ild hx hb hK hP 1 rfl _ rfl i2 dX0_countQueued_16 ?_
        refine lv_if_lt (tgt := 23) hx hb dX0_countQueued_17 (by decide) (fun c3 => ?_) (fun c3 => ?_)
        · replace h := zt c3 h
          refine lv_iinc (v := (v2 + 1)) (lv' := [(2, .int (v2 + 1)), (0, .ref h0), (1, .int v1)]) hx hb dX0_countQueued_23 hl (k := 2) rfl rfl (by decide) rfl (fun ls hl => ?_)
          refine lv_goto (tgt := 4) hx hb dX0_countQueued_26 (by decide) ?_
          exact ih v1 (v2 + 1) h ls (lv_sub hl [1, 2, 0] rfl)
        · replace h := zf c3 h
          refine lv_iinc (v := (v1 + 1)) (lv' := [(1, .int (v1 + 1)), (0, .ref h0), (2, .int v2)]) hx hb dX0_countQueued_20 hl (k := 1) rfl rfl (by decide) rfl (fun ls hl => ?_)
          refine lv_iinc (v := (v2 + 1)) (lv' := [(2, .int (v2 + 1)), (1, .int (v1 + 1)), (0, .ref h0)]) hx hb dX0_countQueued_23 hl (k := 2) rfl rfl (by decide) rfl (fun ls hl => ?_)
          refine lv_goto (tgt := 4) hx hb dX0_countQueued_26 (by decide) ?_
          exact ih (v1 + 1) (v2 + 1) h ls (lv_sub hl [2, 1, 0] rfl)
  unfold fX0_countQueued at h
  refine lv_iconst (v := 0) hx hb dX0_countQueued_0 (by decide) ?_
  refine lv_istore_n (lv' := [(1, .int 0), (0, .ref h0)]) hx hb dX0_countQueued_1 rfl hl (by decide) rfl (fun ls hl => ?_)
  refine lv_iconst (v := 0) hx hb dX0_countQueued_2 (by decide) ?_
  refine lv_istore_n (lv' := [(2, .int 0), (1, .int 0), (0, .ref h0)]) hx hb dX0_countQueued_3 rfl hl (by decide) rfl (fun ls hl => ?_)
  exact loop_4 1000 0 0 h ls (lv_sub hl [2, 1, 0] rfl)
def fX0_queueNow_60 (tm : Int32) : Nat → Int32 → (Nat → Int32) → Option ((Nat → Int32))
  | 0, _, _ => none
  | n + 1, v2, b =>
    if 256 ≤ v2 then
        some b
      else
        if v2 < 0 ∨ 256 ≤ v2.toNatClampNeg then none else
        if (b v2.toNatClampNeg) < 0 then
          some b
        else
          if v2 < 0 ∨ 256 ≤ v2.toNatClampNeg then none else
          if (b v2.toNatClampNeg) = tm then
            some b
          else
            if v2 < 0 ∨ 256 ≤ v2.toNatClampNeg then none else
            fX0_queueNow_60 tm n (v2 + 1) (upd b v2.toNatClampNeg tm)
def fX0_queueNow_14 (tm : Int32) : Nat → Int32 → Int32 → (Nat → Int32) → Option ((Nat → Int32))
  | 0, _, _, _ => none
  | n + 1, v1, v2, b =>
    if v2 < 0 then
        fX0_queueNow_60 tm 1000 (v1 + 1) b
      else
        if v2 < 0 ∨ 256 ≤ v2.toNatClampNeg then none else
        if (b v2.toNatClampNeg) < 0 then
          fX0_queueNow_60 tm 1000 (v1 + 1) b
        else
          if v2 < 0 ∨ 256 ≤ v2.toNatClampNeg then none else
          if (b v2.toNatClampNeg) = tm then
            fX0_queueNow_60 tm 1000 (v1 + 1) b
          else
            if v2 < 0 ∨ 256 ≤ v2.toNatClampNeg then none else
            fX0_queueNow_14 tm n v1 (v2 + (-1)) (upd b v2.toNatClampNeg tm)
def fX0_queueNow (b : Nat → Int32) (tm : Int32) (a1 : Int32) : Option ((Nat → Int32)) :=
  if a1 < 0 ∨ 256 ≤ a1.toNatClampNeg then none else
  fX0_queueNow_14 tm 1000 a1 (a1 - 1) (upd b a1.toNatClampNeg tm)
theorem mX0_queueNow_9 : Cond.fieldLink RX0 9 "IdleDiscards$Device" "blocks" "[I" ∈ wsX0_queueNow := by decide +kernel
theorem uX0_queueNow_X0 : ∀ w ∈ wsX00, w ∈ wsX0_queueNow := by decide +kernel
theorem mX0_queueNow_42 : Cond.fieldLink RX0 42 "IdleDiscards$Device" "time" "I" ∈ wsX0_queueNow := by decide +kernel
set_option maxRecDepth 100000 in
set_option maxHeartbeats 4000000 in
theorem kX0_queueNow (l : Launch) (g : zG) (h0 h1 h2 h3 h4 : Nat) (b : Nat → Int32) (pF : Nat → Int32) (pL : Nat → Int32) (st : Nat → Int32) (tm : Int32) (qt : Int32) (cm : Int32) (ds : Int32) (dr : Int32) (a1 : Int32) {b' : Nat → Int32} (h : fX0_queueNow b tm a1 = some b') : Mw l g yX0_queueNow wsX0_queueNow { frames := 0, cells := 0, slots := 0, locals := 0 } [.ref h0, .int a1] (zD g h0 h1 h2 h3 h4 b pF pL st tm qt cm ds dr) (zWv g (zD g h0 h1 h2 h3 h4 b' pF pL st tm qt cm ds dr)) := by
  refine zw_in (cc := cX0_queueNow) (maxL := 3) (ret := none) (by decide) rfl (Nat.le_of_ble_eq_true rfl) ?_
  intro p e s m below meth c hx hb hr hml hts hown hlocks hK A hA hP hD hS ls hl
  replace hl : lv_has ls 3 [(0, .ref h0), (1, .int a1)] := hl
  have loop_60 : ∀ (n : Nat) (v2 : Int32) (b : (Nat → Int32)), fX0_queueNow_60 tm n v2 b = some b' → ∀ (H : Heap) (locs : List Loc), zP g (zD g h0 h1 h2 h3 h4 b pF pL st tm qt cm ds dr) H → va_D A (zD g h0 h1 h2 h3 h4 b pF pL st tm qt cm ds dr) → va_S A s.heap H locs → ∀ (ls : Array Slot), lv_has ls 3 [(0, .ref h0), (2, .int v2)] → W p l e ({ frames := 0, cells := 0, slots := 0, locals := 0 } : Room) s m [.ref h0, .int a1].toArray below meth c H locs 0 0 (MQ below (zWv g (zD g h0 h1 h2 h3 h4 b' pF pL st tm qt cm ds dr) A) [.ref h0, .int a1].toArray s 0 0 A) (F0 m 60 ls []) := by
    intro n
    induction n with
    | zero => intro v2 b h H locs hP hD hS ls hl; exact zn h
    | succ n ih =>
      intro v2 b h H locs hP hD hS ls hl
      rw [fX0_queueNow_60] at h
      refine lv_iload_n hx hb dX0_queueNow_60 rfl (lv_at hl 1 rfl) ?_
      refine lv_sipush (v := 256) hx hb dX0_queueNow_61 (by decide) ?_
      refine lv_icmp_ge (tgt := 105) hx hb dX0_queueNow_64 (by decide) (fun c1 => ?_) (fun c1 => ?_)
      · replace h := zt c1 h
        cases h
        exact zw_v hx hb hr hlocks hP hS dX0_queueNow_105
      · replace h := zf c1 h
        refine lv_aload_n hx hb dX0_queueNow_67 rfl (lv_at hl 0 rfl) ?_
        refine va_get (ci := 0) (v := .ref h1) (C := RX0) (T := TX0) (N := 9) hx hb hts uX0_queueNow_X0 hown hK hP 0 rfl rfl 0 (by decide) (hts _ mX0_queueNow_9) (fun _ h9 => h9) rfl dX0_queueNow_68 ?_
        refine lv_iload_n hx hb dX0_queueNow_71 rfl (lv_at hl 1 rfl) ?_
        obtain ⟨i2, h⟩ := zi h
        refine za_ild hx hb hK hP 1 rfl _ rfl i2 dX0_queueNow_72 ?_
        refine lv_if_lt (tgt := 105) hx hb dX0_queueNow_73 (by decide) (fun c3 => ?_) (fun c3 => ?_)
        · replace h := zt c3 h
          cases h
          exact zw_v hx hb hr hlocks hP hS dX0_queueNow_105
        · replace h := zf c3 h
          refine lv_aload_n hx hb dX0_queueNow_76 rfl (lv_at hl 0 rfl) ?_
          refine va_get (ci := 0) (v := .ref h1) (C := RX0) (T := TX0) (N := 9) hx hb hts uX0_queueNow_X0 hown hK hP 0 rfl rfl 0 (by decide) (hts _ mX0_queueNow_9) (fun _ h9 => h9) rfl dX0_queueNow_77 ?_
          refine lv_iload_n hx hb dX0_queueNow_80 rfl (lv_at hl 1 rfl) ?_
          obtain ⟨i4, h⟩ := zi h
          refine za_ild hx hb hK hP 1 rfl _ rfl i4 dX0_queueNow_81 ?_
          refine lv_aload_n hx hb dX0_queueNow_82 rfl (lv_at hl 0 rfl) ?_
          refine va_get (ci := 0) (v := .int tm) (C := RX0) (T := TX0) (N := 9) hx hb hts uX0_queueNow_X0 hown hK hP 0 rfl rfl 4 (by decide) (hts _ mX0_queueNow_42) (fun _ h9 => h9) rfl dX0_queueNow_83 ?_
          refine lv_icmp_eq (tgt := 105) hx hb dX0_queueNow_86 (by decide) (fun c5 => ?_) (fun c5 => ?_)
          · replace h := zt c5 h
            cases h
            exact zw_v hx hb hr hlocks hP hS dX0_queueNow_105
          · replace h := zf c5 h
            refine lv_aload_n hx hb dX0_queueNow_89 rfl (lv_at hl 0 rfl) ?_
            refine va_get (ci := 0) (v := .ref h1) (C := RX0) (T := TX0) (N := 9) hx hb hts uX0_queueNow_X0 hown hK hP 0 rfl rfl 0 (by decide) (hts _ mX0_queueNow_9) (fun _ h9 => h9) rfl dX0_queueNow_90 ?_
            refine lv_iload_n hx hb dX0_queueNow_93 rfl (lv_at hl 1 rfl) ?_
            refine lv_aload_n hx hb dX0_queueNow_94 rfl (lv_at hl 0 rfl) ?_
            refine va_get (ci := 0) (v := .int tm) (C := RX0) (T := TX0) (N := 9) hx hb hts uX0_queueNow_X0 hown hK hP 0 rfl rfl 4 (by decide) (hts _ mX0_queueNow_42) (fun _ h9 => h9) rfl dX0_queueNow_95 ?_
            obtain ⟨i6, h⟩ := zi h
            refine za_ist hx hb hK hP hD hS 1 rfl _ rfl i6 dX0_queueNow_98 (fun H locs hP hD hS => ?_)
            replace hP : zP g (zD g h0 h1 h2 h3 h4 (upd b v2.toNatClampNeg tm) pF pL st tm qt cm ds dr) H := hP
            replace hD : va_D A (zD g h0 h1 h2 h3 h4 (upd b v2.toNatClampNeg tm) pF pL st tm qt cm ds dr) := hD
            refine lv_iinc (v := (v2 + 1)) (lv' := [(2, .int (v2 + 1)), (0, .ref h0)]) hx hb dX0_queueNow_99 hl (k := 1) rfl rfl (by decide) rfl (fun ls hl => ?_)
            refine lv_goto (tgt := 60) hx hb dX0_queueNow_102 (by decide) ?_
            exact ih (v2 + 1) (upd b v2.toNatClampNeg tm) h H locs hP hD hS ls (lv_sub hl [1, 0] rfl)
  have loop_14 : ∀ (n : Nat) (v1 : Int32) (v2 : Int32) (b : (Nat → Int32)), fX0_queueNow_14 tm n v1 v2 b = some b' → ∀ (H : Heap) (locs : List Loc), zP g (zD g h0 h1 h2 h3 h4 b pF pL st tm qt cm ds dr) H → va_D A (zD g h0 h1 h2 h3 h4 b pF pL st tm qt cm ds dr) → va_S A s.heap H locs → ∀ (ls : Array Slot), lv_has ls 3 [(0, .ref h0), (1, .int v1), (2, .int v2)] → W p l e ({ frames := 0, cells := 0, slots := 0, locals := 0 } : Room) s m [.ref h0, .int a1].toArray below meth c H locs 0 0 (MQ below (zWv g (zD g h0 h1 h2 h3 h4 b' pF pL st tm qt cm ds dr) A) [.ref h0, .int a1].toArray s 0 0 A) (F0 m 14 ls []) := by
    intro n
    induction n with
    | zero => intro v1 v2 b h H locs hP hD hS ls hl; exact zn h
    | succ n ih =>
      intro v1 v2 b h H locs hP hD hS ls hl
      rw [fX0_queueNow_14] at h
      refine lv_iload_n hx hb dX0_queueNow_14 rfl (lv_at hl 2 rfl) ?_
      refine lv_if_lt (tgt := 56) hx hb dX0_queueNow_15 (by decide) (fun c7 => ?_) (fun c7 => ?_)
      · replace h := zt c7 h
        refine lv_iload_n hx hb dX0_queueNow_56 rfl (lv_at hl 1 rfl) ?_
        refine lv_iconst (v := 1) hx hb dX0_queueNow_57 (by decide) ?_
        refine lv_iadd hx hb dX0_queueNow_58 ?_
        refine lv_istore_n (lv' := [(2, .int (v1 + 1)), (0, .ref h0), (1, .int v1)]) hx hb dX0_queueNow_59 rfl hl (by decide) rfl (fun ls hl => ?_)
        exact loop_60 1000 (v1 + 1) b h H locs hP hD hS ls (lv_sub hl [1, 0] rfl)
      · replace h := zf c7 h
        refine lv_aload_n hx hb dX0_queueNow_18 rfl (lv_at hl 0 rfl) ?_
        refine va_get (ci := 0) (v := .ref h1) (C := RX0) (T := TX0) (N := 9) hx hb hts uX0_queueNow_X0 hown hK hP 0 rfl rfl 0 (by decide) (hts _ mX0_queueNow_9) (fun _ h9 => h9) rfl dX0_queueNow_19 ?_
        refine lv_iload_n hx hb dX0_queueNow_22 rfl (lv_at hl 2 rfl) ?_
        obtain ⟨i8, h⟩ := zi h
        refine za_ild hx hb hK hP 1 rfl _ rfl i8 dX0_queueNow_23 ?_
        refine lv_if_lt (tgt := 56) hx hb dX0_queueNow_24 (by decide) (fun c9 => ?_) (fun c9 => ?_)
        · replace h := zt c9 h
          refine lv_iload_n hx hb dX0_queueNow_56 rfl (lv_at hl 1 rfl) ?_
          refine lv_iconst (v := 1) hx hb dX0_queueNow_57 (by decide) ?_
          refine lv_iadd hx hb dX0_queueNow_58 ?_
          refine lv_istore_n (lv' := [(2, .int (v1 + 1)), (0, .ref h0), (1, .int v1)]) hx hb dX0_queueNow_59 rfl hl (by decide) rfl (fun ls hl => ?_)
          exact loop_60 1000 (v1 + 1) b h H locs hP hD hS ls (lv_sub hl [1, 0] rfl)
        · replace h := zf c9 h
          refine lv_aload_n hx hb dX0_queueNow_27 rfl (lv_at hl 0 rfl) ?_
          refine va_get (ci := 0) (v := .ref h1) (C := RX0) (T := TX0) (N := 9) hx hb hts uX0_queueNow_X0 hown hK hP 0 rfl rfl 0 (by decide) (hts _ mX0_queueNow_9) (fun _ h9 => h9) rfl dX0_queueNow_28 ?_
          refine lv_iload_n hx hb dX0_queueNow_31 rfl (lv_at hl 2 rfl) ?_
          obtain ⟨i10, h⟩ := zi h
          refine za_ild hx hb hK hP 1 rfl _ rfl i10 dX0_queueNow_32 ?_
          refine lv_aload_n hx hb dX0_queueNow_33 rfl (lv_at hl 0 rfl) ?_
          refine va_get (ci := 0) (v := .int tm) (C := RX0) (T := TX0) (N := 9) hx hb hts uX0_queueNow_X0 hown hK hP 0 rfl rfl 4 (by decide) (hts _ mX0_queueNow_42) (fun _ h9 => h9) rfl dX0_queueNow_34 ?_
          refine lv_icmp_eq (tgt := 56) hx hb dX0_queueNow_37 (by decide) (fun c11 => ?_) (fun c11 => ?_)
          · replace h := zt c11 h
            refine lv_iload_n hx hb dX0_queueNow_56 rfl (lv_at hl 1 rfl) ?_
            refine lv_iconst (v := 1) hx hb dX0_queueNow_57 (by decide) ?_
            refine lv_iadd hx hb dX0_queueNow_58 ?_
            refine lv_istore_n (lv' := [(2, .int (v1 + 1)), (0, .ref h0), (1, .int v1)]) hx hb dX0_queueNow_59 rfl hl (by decide) rfl (fun ls hl => ?_)
            exact loop_60 1000 (v1 + 1) b h H locs hP hD hS ls (lv_sub hl [1, 0] rfl)
          · replace h := zf c11 h
            refine lv_aload_n hx hb dX0_queueNow_40 rfl (lv_at hl 0 rfl) ?_
            refine va_get (ci := 0) (v := .ref h1) (C := RX0) (T := TX0) (N := 9) hx hb hts uX0_queueNow_X0 hown hK hP 0 rfl rfl 0 (by decide) (hts _ mX0_queueNow_9) (fun _ h9 => h9) rfl dX0_queueNow_41 ?_
            refine lv_iload_n hx hb dX0_queueNow_44 rfl (lv_at hl 2 rfl) ?_
            refine lv_aload_n hx hb dX0_queueNow_45 rfl (lv_at hl 0 rfl) ?_
            refine va_get (ci := 0) (v := .int tm) (C := RX0) (T := TX0) (N := 9) hx hb hts uX0_queueNow_X0 hown hK hP 0 rfl rfl 4 (by decide) (hts _ mX0_queueNow_42) (fun _ h9 => h9) rfl dX0_queueNow_46 ?_
            obtain ⟨i12, h⟩ := zi h
            refine za_ist hx hb hK hP hD hS 1 rfl _ rfl i12 dX0_queueNow_49 (fun H locs hP hD hS => ?_)
            replace hP : zP g (zD g h0 h1 h2 h3 h4 (upd b v2.toNatClampNeg tm) pF pL st tm qt cm ds dr) H := hP
            replace hD : va_D A (zD g h0 h1 h2 h3 h4 (upd b v2.toNatClampNeg tm) pF pL st tm qt cm ds dr) := hD
            refine lv_iinc (v := (v2 + (-1))) (lv' := [(2, .int (v2 + (-1))), (0, .ref h0), (1, .int v1)]) hx hb dX0_queueNow_50 hl (k := 2) rfl rfl (by decide) rfl (fun ls hl => ?_)
            refine lv_goto (tgt := 14) hx hb dX0_queueNow_53 (by decide) ?_
            exact ih v1 (v2 + (-1)) (upd b v2.toNatClampNeg tm) h H locs hP hD hS ls (lv_sub hl [1, 2, 0] rfl)
  unfold fX0_queueNow at h
  refine lv_aload_n hx hb dX0_queueNow_0 rfl (lv_at hl 0 rfl) ?_
  refine va_get (ci := 0) (v := .ref h1) (C := RX0) (T := TX0) (N := 9) hx hb hts uX0_queueNow_X0 hown hK hP 0 rfl rfl 0 (by decide) (hts _ mX0_queueNow_9) (fun _ h9 => h9) rfl dX0_queueNow_1 ?_
  refine lv_iload_n hx hb dX0_queueNow_4 rfl (lv_at hl 1 rfl) ?_
  refine lv_aload_n hx hb dX0_queueNow_5 rfl (lv_at hl 0 rfl) ?_
  refine va_get (ci := 0) (v := .int tm) (C := RX0) (T := TX0) (N := 9) hx hb hts uX0_queueNow_X0 hown hK hP 0 rfl rfl 4 (by decide) (hts _ mX0_queueNow_42) (fun _ h9 => h9) rfl dX0_queueNow_6 ?_
  obtain ⟨i13, h⟩ := zi h
  refine za_ist hx hb hK hP hD hS 1 rfl _ rfl i13 dX0_queueNow_9 (fun H locs hP hD hS => ?_)
  replace hP : zP g (zD g h0 h1 h2 h3 h4 (upd b a1.toNatClampNeg tm) pF pL st tm qt cm ds dr) H := hP
  replace hD : va_D A (zD g h0 h1 h2 h3 h4 (upd b a1.toNatClampNeg tm) pF pL st tm qt cm ds dr) := hD
  refine lv_iload_n hx hb dX0_queueNow_10 rfl (lv_at hl 1 rfl) ?_
  refine lv_iconst (v := 1) hx hb dX0_queueNow_11 (by decide) ?_
  refine lv_isub hx hb dX0_queueNow_12 ?_
  refine lv_istore_n (lv' := [(2, .int (a1 - 1)), (0, .ref h0), (1, .int a1)]) hx hb dX0_queueNow_13 rfl hl (by decide) rfl (fun ls hl => ?_)
  exact loop_14 1000 a1 (a1 - 1) (upd b a1.toNatClampNeg tm) h H locs hP hD hS ls (lv_sub hl [1, 2, 0] rfl)
def fX0_shortestRange_11 (b : Nat → Int32) : Nat → Int32 → Int32 → Int32 → Int32 → Option (Int32)
  | 0, _, _, _, _ => none
  | n + 1, v1, v2, v3, v4 =>
    if 256 < v4 then
        some v1
      else
        if 256 ≤ v4 then
          if v3 ≤ 0 then
            fX0_shortestRange_11 b n v1 v2 0 (v4 + 1)
          else
            if v2 ≤ v3 then
              fX0_shortestRange_11 b n v1 v2 0 (v4 + 1)
            else
              fX0_shortestRange_11 b n (v4 - v3) v3 0 (v4 + 1)
        else
          if v4 < 0 ∨ 256 ≤ v4.toNatClampNeg then none else
          if (b v4.toNatClampNeg) < 0 then
            if v3 ≤ 0 then
              fX0_shortestRange_11 b n v1 v2 0 (v4 + 1)
            else
              if v2 ≤ v3 then
                fX0_shortestRange_11 b n v1 v2 0 (v4 + 1)
              else
                fX0_shortestRange_11 b n (v4 - v3) v3 0 (v4 + 1)
          else
            fX0_shortestRange_11 b n v1 v2 (v3 + 1) (v4 + 1)
def fX0_shortestRange (b : Nat → Int32) : Option (Int32) :=
  fX0_shortestRange_11 b 1000 0 257 0 0
theorem mX0_shortestRange_9 : Cond.fieldLink RX0 9 "IdleDiscards$Device" "blocks" "[I" ∈ wsX0_shortestRange := by decide +kernel
theorem uX0_shortestRange_X0 : ∀ w ∈ wsX00, w ∈ wsX0_shortestRange := by decide +kernel
set_option maxRecDepth 100000 in
set_option maxHeartbeats 4000000 in
theorem kX0_shortestRange (l : Launch) (g : zG) (h0 h1 h2 h3 h4 : Nat) (b : Nat → Int32) (pF : Nat → Int32) (pL : Nat → Int32) (st : Nat → Int32) (tm : Int32) (qt : Int32) (cm : Int32) (ds : Int32) (dr : Int32) {r : Int32} (h : fX0_shortestRange b = some r) : Mr l g yX0_shortestRange wsX0_shortestRange { frames := 0, cells := 0, slots := 0, locals := 0 } [.ref h0] (zD g h0 h1 h2 h3 h4 b pF pL st tm qt cm ds dr) (zQi r) := by
  refine zr_in (cc := cX0_shortestRange) (maxL := 5) (ret := (some .int)) (by decide) rfl (Nat.le_of_ble_eq_true rfl) ?_
  intro p e s m below meth c hx hb hr hml hts hown hlocks hP hK ls hl
  replace hl : lv_has ls 5 [(0, .ref h0)] := hl
  have loop_11 : ∀ (n : Nat) (v1 : Int32) (v2 : Int32) (v3 : Int32) (v4 : Int32), fX0_shortestRange_11 b n v1 v2 v3 v4 = some r → ∀ (ls : Array Slot), lv_has ls 5 [(0, .ref h0), (1, .int v1), (2, .int v2), (3, .int v3), (4, .int v4)] → W p l e ({ frames := 0, cells := 0, slots := 0, locals := 0 } : Room) s m [.ref h0].toArray below meth c s.heap [] 0 0 (MQ below (zQi r) [.ref h0].toArray s 0 0 (fun _ => False)) (F0 m 11 ls []) := by
    intro n
    induction n with
    | zero => intro v1 v2 v3 v4 h ls hl; exact zn h
    | succ n ih =>
      intro v1 v2 v3 v4 h ls hl
      rw [fX0_shortestRange_11] at h
      refine lv_iload hx hb dX0_shortestRange_11 (lv_at hl 4 rfl) ?_
      refine lv_sipush (v := 256) hx hb dX0_shortestRange_13 (by decide) ?_
      refine lv_icmp_gt (tgt := 67) hx hb dX0_shortestRange_16 (by decide) (fun c1 => ?_) (fun c1 => ?_)
      · replace h := zt c1 h
        refine lv_iload_n hx hb dX0_shortestRange_67 rfl (lv_at hl 1 rfl) ?_
        cases h
        exact zr_i hx hb hr hlocks dX0_shortestRange_68
      · replace h := zf c1 h
        refine lv_iload hx hb dX0_shortestRange_19 (lv_at hl 4 rfl) ?_
        refine lv_sipush (v := 256) hx hb dX0_shortestRange_21 (by decide) ?_
        refine lv_icmp_ge (tgt := 43) hx hb dX0_shortestRange_24 (by decide) (fun c2 => ?_) (fun c2 => ?_)
        · replace h := zt c2 h
          refine lv_iload_n hx hb dX0_shortestRange_43 rfl (lv_at hl 3 rfl) ?_
          refine lv_if_le (tgt := 59) hx hb dX0_shortestRange_44 (by decide) (fun c3 => ?_) (fun c3 => ?_)
          · replace h := zt c3 h
            refine lv_iconst (v := 0) hx hb dX0_shortestRange_59 (by decide) ?_
            refine lv_istore_n (lv' := [(3, .int 0), (0, .ref h0), (1, .int v1), (2, .int v2), (4, .int v4)]) hx hb dX0_shortestRange_60 rfl hl (by decide) rfl (fun ls hl => ?_)
            refine lv_iinc (v := (v4 + 1)) (lv' := [(4, .int (v4 + 1)), (3, .int 0), (0, .ref h0), (1, .int v1), (2, .int v2)]) hx hb dX0_shortestRange_61 hl (k := 4) rfl rfl (by decide) rfl (fun ls hl => ?_)
            refine lv_goto (tgt := 11) hx hb dX0_shortestRange_64 (by decide) ?_
            exact ih v1 v2 0 (v4 + 1) h ls (lv_sub hl [2, 3, 4, 1, 0] rfl)
          · replace h := zf c3 h
            refine lv_iload_n hx hb dX0_shortestRange_47 rfl (lv_at hl 3 rfl) ?_
            refine lv_iload_n hx hb dX0_shortestRange_48 rfl (lv_at hl 2 rfl) ?_
            refine lv_icmp_ge (tgt := 59) hx hb dX0_shortestRange_49 (by decide) (fun c4 => ?_) (fun c4 => ?_)
            · replace h := zt c4 h
              refine lv_iconst (v := 0) hx hb dX0_shortestRange_59 (by decide) ?_
              refine lv_istore_n (lv' := [(3, .int 0), (0, .ref h0), (1, .int v1), (2, .int v2), (4, .int v4)]) hx hb dX0_shortestRange_60 rfl hl (by decide) rfl (fun ls hl => ?_)
              refine lv_iinc (v := (v4 + 1)) (lv' := [(4, .int (v4 + 1)), (3, .int 0), (0, .ref h0), (1, .int v1), (2, .int v2)]) hx hb dX0_shortestRange_61 hl (k := 4) rfl rfl (by decide) rfl (fun ls hl => ?_)
              refine lv_goto (tgt := 11) hx hb dX0_shortestRange_64 (by decide) ?_
              exact ih v1 v2 0 (v4 + 1) h ls (lv_sub hl [2, 3, 4, 1, 0] rfl)
            · replace h := zf c4 h
              refine lv_iload hx hb dX0_shortestRange_52 (lv_at hl 4 rfl) ?_
              refine lv_iload_n hx hb dX0_shortestRange_54 rfl (lv_at hl 3 rfl) ?_
              refine lv_isub hx hb dX0_shortestRange_55 ?_
              refine lv_istore_n (lv' := [(1, .int (v4 - v3)), (0, .ref h0), (2, .int v2), (3, .int v3), (4, .int v4)]) hx hb dX0_shortestRange_56 rfl hl (by decide) rfl (fun ls hl => ?_)
              refine lv_iload_n hx hb dX0_shortestRange_57 rfl (lv_at hl 3 rfl) ?_
              refine lv_istore_n (lv' := [(2, .int v3), (1, .int (v4 - v3)), (0, .ref h0), (3, .int v3), (4, .int v4)]) hx hb dX0_shortestRange_58 rfl hl (by decide) rfl (fun ls hl => ?_)
              refine lv_iconst (v := 0) hx hb dX0_shortestRange_59 (by decide) ?_
              refine lv_istore_n (lv' := [(3, .int 0), (2, .int v3), (1, .int (v4 - v3)), (0, .ref h0), (4, .int v4)]) hx hb dX0_shortestRange_60 rfl hl (by decide) rfl (fun ls hl => ?_)
              refine lv_iinc (v := (v4 + 1)) (lv' := [(4, .int (v4 + 1)), (3, .int 0), (2, .int v3), (1, .int (v4 - v3)), (0, .ref h0)]) hx hb dX0_shortestRange_61 hl (k := 4) rfl rfl (by decide) rfl (fun ls hl => ?_)
              refine lv_goto (tgt := 11) hx hb dX0_shortestRange_64 (by decide) ?_
              exact ih (v4 - v3) v3 0 (v4 + 1) h ls (lv_sub hl [4, 3, 2, 1, 0] rfl)
        · replace h := zf c2 h
          refine lv_aload_n hx hb dX0_shortestRange_27 rfl (lv_at hl 0 rfl) ?_
          refine va_get (ci := 0) (v := .ref h1) (C := RX0) (T := TX0) (N := 9) hx hb hts uX0_shortestRange_X0 hown hK hP 0 rfl rfl 0 (by decide) (hts _ mX0_shortestRange_9) (fun _ h9 => h9) rfl dX0_shortestRange_28 ?_
          refine lv_iload hx hb dX0_shortestRange_31 (lv_at hl 4 rfl) ?_
          obtain ⟨i5, h⟩ := zi h
          refine za_ild hx hb hK hP 1 rfl _ rfl i5 dX0_shortestRange_33 ?_
          refine lv_if_lt (tgt := 43) hx hb dX0_shortestRange_34 (by decide) (fun c6 => ?_) (fun c6 => ?_)
          · replace h := zt c6 h
            refine lv_iload_n hx hb dX0_shortestRange_43 rfl (lv_at hl 3 rfl) ?_
            refine lv_if_le (tgt := 59) hx hb dX0_shortestRange_44 (by decide) (fun c7 => ?_) (fun c7 => ?_)
            · replace h := zt c7 h
              refine lv_iconst (v := 0) hx hb dX0_shortestRange_59 (by decide) ?_
              refine lv_istore_n (lv' := [(3, .int 0), (0, .ref h0), (1, .int v1), (2, .int v2), (4, .int v4)]) hx hb dX0_shortestRange_60 rfl hl (by decide) rfl (fun ls hl => ?_)
              refine lv_iinc (v := (v4 + 1)) (lv' := [(4, .int (v4 + 1)), (3, .int 0), (0, .ref h0), (1, .int v1), (2, .int v2)]) hx hb dX0_shortestRange_61 hl (k := 4) rfl rfl (by decide) rfl (fun ls hl => ?_)
              refine lv_goto (tgt := 11) hx hb dX0_shortestRange_64 (by decide) ?_
              exact ih v1 v2 0 (v4 + 1) h ls (lv_sub hl [2, 3, 4, 1, 0] rfl)
            · replace h := zf c7 h
              refine lv_iload_n hx hb dX0_shortestRange_47 rfl (lv_at hl 3 rfl) ?_
              refine lv_iload_n hx hb dX0_shortestRange_48 rfl (lv_at hl 2 rfl) ?_
              refine lv_icmp_ge (tgt := 59) hx hb dX0_shortestRange_49 (by decide) (fun c8 => ?_) (fun c8 => ?_)
              · replace h := zt c8 h
                refine lv_iconst (v := 0) hx hb dX0_shortestRange_59 (by decide) ?_
                refine lv_istore_n (lv' := [(3, .int 0), (0, .ref h0), (1, .int v1), (2, .int v2), (4, .int v4)]) hx hb dX0_shortestRange_60 rfl hl (by decide) rfl (fun ls hl => ?_)
                refine lv_iinc (v := (v4 + 1)) (lv' := [(4, .int (v4 + 1)), (3, .int 0), (0, .ref h0), (1, .int v1), (2, .int v2)]) hx hb dX0_shortestRange_61 hl (k := 4) rfl rfl (by decide) rfl (fun ls hl => ?_)
                refine lv_goto (tgt := 11) hx hb dX0_shortestRange_64 (by decide) ?_
                exact ih v1 v2 0 (v4 + 1) h ls (lv_sub hl [2, 3, 4, 1, 0] rfl)
              · replace h := zf c8 h
                refine lv_iload hx hb dX0_shortestRange_52 (lv_at hl 4 rfl) ?_
                refine lv_iload_n hx hb dX0_shortestRange_54 rfl (lv_at hl 3 rfl) ?_
                refine lv_isub hx hb dX0_shortestRange_55 ?_
                refine lv_istore_n (lv' := [(1, .int (v4 - v3)), (0, .ref h0), (2, .int v2), (3, .int v3), (4, .int v4)]) hx hb dX0_shortestRange_56 rfl hl (by decide) rfl (fun ls hl => ?_)
                refine lv_iload_n hx hb dX0_shortestRange_57 rfl (lv_at hl 3 rfl) ?_
                refine lv_istore_n (lv' := [(2, .int v3), (1, .int (v4 - v3)), (0, .ref h0), (3, .int v3), (4, .int v4)]) hx hb dX0_shortestRange_58 rfl hl (by decide) rfl (fun ls hl => ?_)
                refine lv_iconst (v := 0) hx hb dX0_shortestRange_59 (by decide) ?_
                refine lv_istore_n (lv' := [(3, .int 0), (2, .int v3), (1, .int (v4 - v3)), (0, .ref h0), (4, .int v4)]) hx hb dX0_shortestRange_60 rfl hl (by decide) rfl (fun ls hl => ?_)
                refine lv_iinc (v := (v4 + 1)) (lv' := [(4, .int (v4 + 1)), (3, .int 0), (2, .int v3), (1, .int (v4 - v3)), (0, .ref h0)]) hx hb dX0_shortestRange_61 hl (k := 4) rfl rfl (by decide) rfl (fun ls hl => ?_)
                refine lv_goto (tgt := 11) hx hb dX0_shortestRange_64 (by decide) ?_
                exact ih (v4 - v3) v3 0 (v4 + 1) h ls (lv_sub hl [4, 3, 2, 1, 0] rfl)
          · replace h := zf c6 h
            refine lv_iinc (v := (v3 + 1)) (lv' := [(3, .int (v3 + 1)), (0, .ref h0), (1, .int v1), (2, .int v2), (4, .int v4)]) hx hb dX0_shortestRange_37 hl (k := 3) rfl rfl (by decide) rfl (fun ls hl => ?_)
            refine lv_goto (tgt := 61) hx hb dX0_shortestRange_40 (by decide) ?_
            refine lv_iinc (v := (v4 + 1)) (lv' := [(4, .int (v4 + 1)), (3, .int (v3 + 1)), (0, .ref h0), (1, .int v1), (2, .int v2)]) hx hb dX0_shortestRange_61 hl (k := 4) rfl rfl (by decide) rfl (fun ls hl => ?_)
            refine lv_goto (tgt := 11) hx hb dX0_shortestRange_64 (by decide) ?_
            exact ih v1 v2 (v3 + 1) (v4 + 1) h ls (lv_sub hl [2, 3, 4, 1, 0] rfl)
  unfold fX0_shortestRange at h
  refine lv_iconst (v := 0) hx hb dX0_shortestRange_0 (by decide) ?_
  refine lv_istore_n (lv' := [(1, .int 0), (0, .ref h0)]) hx hb dX0_shortestRange_1 rfl hl (by decide) rfl (fun ls hl => ?_)
  refine lv_sipush (v := 257) hx hb dX0_shortestRange_2 (by decide) ?_
  refine lv_istore_n (lv' := [(2, .int 257), (1, .int 0), (0, .ref h0)]) hx hb dX0_shortestRange_5 rfl hl (by decide) rfl (fun ls hl => ?_)
  refine lv_iconst (v := 0) hx hb dX0_shortestRange_6 (by decide) ?_
  refine lv_istore_n (lv' := [(3, .int 0), (2, .int 257), (1, .int 0), (0, .ref h0)]) hx hb dX0_shortestRange_7 rfl hl (by decide) rfl (fun ls hl => ?_)
  refine lv_iconst (v := 0) hx hb dX0_shortestRange_8 (by decide) ?_
  refine lv_istore (lv' := [(4, .int 0), (3, .int 0), (2, .int 257), (1, .int 0), (0, .ref h0)]) hx hb dX0_shortestRange_9 hl (by decide) rfl (fun ls hl => ?_)
  exact loop_11 1000 0 257 0 0 h ls (lv_sub hl [4, 3, 2, 1, 0] rfl)
def fX0_countRangesAhead_7 (b : Nat → Int32) : Nat → Int32 → Int32 → Int32 → Int32 → Option (Int32)
  | 0, _, _, _, _ => none
  | n + 1, v1, v2, v3, v4 =>
    if v1 ≤ v4 then
        some v2
      else
        if v4 < 0 ∨ 256 ≤ v4.toNatClampNeg then none else
        if (b v4.toNatClampNeg) < 0 then
          fX0_countRangesAhead_7 b n v1 v2 0 (v4 + 1)
        else
          if v3 = 0 then
            fX0_countRangesAhead_7 b n v1 (v2 + 1) 1 (v4 + 1)
          else
            fX0_countRangesAhead_7 b n v1 v2 1 (v4 + 1)
def fX0_countRangesAhead (b : Nat → Int32) (a1 : Int32) : Option (Int32) :=
  fX0_countRangesAhead_7 b 1000 a1 0 0 0
theorem mX0_countRangesAhead_9 : Cond.fieldLink RX0 9 "IdleDiscards$Device" "blocks" "[I" ∈ wsX0_countRangesAhead := by decide +kernel
theorem uX0_countRangesAhead_X0 : ∀ w ∈ wsX00, w ∈ wsX0_countRangesAhead := by decide +kernel
set_option maxRecDepth 100000 in
set_option maxHeartbeats 4000000 in
theorem kX0_countRangesAhead (l : Launch) (g : zG) (h0 h1 h2 h3 h4 : Nat) (b : Nat → Int32) (pF : Nat → Int32) (pL : Nat → Int32) (st : Nat → Int32) (tm : Int32) (qt : Int32) (cm : Int32) (ds : Int32) (dr : Int32) (a1 : Int32) {r : Int32} (h : fX0_countRangesAhead b a1 = some r) : Mr l g yX0_countRangesAhead wsX0_countRangesAhead { frames := 0, cells := 0, slots := 0, locals := 0 } [.ref h0, .int a1] (zD g h0 h1 h2 h3 h4 b pF pL st tm qt cm ds dr) (zQi r) := by
  refine zr_in (cc := cX0_countRangesAhead) (maxL := 6) (ret := (some .int)) (by decide) rfl (Nat.le_of_ble_eq_true rfl) ?_
  intro p e s m below meth c hx hb hr hml hts hown hlocks hP hK ls hl
  replace hl : lv_has ls 6 [(0, .ref h0), (1, .int a1)] := hl
  have loop_7 : ∀ (n : Nat) (v1 : Int32) (v2 : Int32) (v3 : Int32) (v4 : Int32), fX0_countRangesAhead_7 b n v1 v2 v3 v4 = some r → ∀ (ls : Array Slot), lv_has ls 6 [(0, .ref h0), (1, .int v1), (2, .int v2), (3, .int v3), (4, .int v4)] → W p l e ({ frames := 0, cells := 0, slots := 0, locals := 0 } : Room) s m [.ref h0, .int a1].toArray below meth c s.heap [] 0 0 (MQ below (zQi r) [.ref h0, .int a1].toArray s 0 0 (fun _ => False)) (F0 m 7 ls []) := by
    intro n
    induction n with
    | zero => intro v1 v2 v3 v4 h ls hl; exact zn h
    | succ n ih =>
      intro v1 v2 v3 v4 h ls hl
      rw [fX0_countRangesAhead_7] at h
      refine lv_iload hx hb dX0_countRangesAhead_7 (lv_at hl 4 rfl) ?_
      refine lv_iload_n hx hb dX0_countRangesAhead_9 rfl (lv_at hl 1 rfl) ?_
      refine lv_icmp_ge (tgt := 51) hx hb dX0_countRangesAhead_10 (by decide) (fun c1 => ?_) (fun c1 => ?_)
      · replace h := zt c1 h
        refine lv_iload_n hx hb dX0_countRangesAhead_51 rfl (lv_at hl 2 rfl) ?_
        cases h
        exact zr_i hx hb hr hlocks dX0_countRangesAhead_52
      · replace h := zf c1 h
        refine lv_aload_n hx hb dX0_countRangesAhead_13 rfl (lv_at hl 0 rfl) ?_
        refine va_get (ci := 0) (v := .ref h1) (C := RX0) (T := TX0) (N := 9) hx hb hts uX0_countRangesAhead_X0 hown hK hP 0 rfl rfl 0 (by decide) (hts _ mX0_countRangesAhead_9) (fun _ h9 => h9) rfl dX0_countRangesAhead_14 ?_
        refine lv_iload hx hb dX0_countRangesAhead_17 (lv_at hl 4 rfl) ?_
        obtain ⟨i2, h⟩ := zi h
        refine za_ild hx hb hK hP 1 rfl _ rfl i2 dX0_countRangesAhead_19 ?_
        refine lv_if_lt (tgt := 27) hx hb dX0_countRangesAhead_20 (by decide) (fun c3 => ?_) (fun c3 => ?_)
        · replace h := zt c3 h
          refine lv_iconst (v := 0) hx hb dX0_countRangesAhead_27 (by decide) ?_
          refine lv_istore (lv' := [(5, .int 0), (0, .ref h0), (1, .int v1), (2, .int v2), (3, .int v3), (4, .int v4)]) hx hb dX0_countRangesAhead_28 hl (by decide) rfl (fun ls hl => ?_)
          refine lv_iload hx hb dX0_countRangesAhead_30 (lv_at hl 0 rfl) ?_
          refine lv_if_eq (tgt := 42) hx hb dX0_countRangesAhead_32 (by decide) (fun _ => ?_) (fun c4 => absurd (by decide) c4)
          refine lv_iload hx hb dX0_countRangesAhead_42 (lv_at hl 0 rfl) ?_
          refine lv_istore_n (lv' := [(3, .int 0), (5, .int 0), (0, .ref h0), (1, .int v1), (2, .int v2), (4, .int v4)]) hx hb dX0_countRangesAhead_44 rfl hl (by decide) rfl (fun ls hl => ?_)
          refine lv_iinc (v := (v4 + 1)) (lv' := [(4, .int (v4 + 1)), (3, .int 0), (5, .int 0), (0, .ref h0), (1, .int v1), (2, .int v2)]) hx hb dX0_countRangesAhead_45 hl (k := 5) rfl rfl (by decide) rfl (fun ls hl => ?_)
          refine lv_goto (tgt := 7) hx hb dX0_countRangesAhead_48 (by decide) ?_
          exact ih v1 v2 0 (v4 + 1) h ls (lv_sub hl [3, 4, 5, 1, 0] rfl)
        · replace h := zf c3 h
          refine lv_iconst (v := 1) hx hb dX0_countRangesAhead_23 (by decide) ?_
          refine lv_goto (tgt := 28) hx hb dX0_countRangesAhead_24 (by decide) ?_
          refine lv_istore (lv' := [(5, .int 1), (0, .ref h0), (1, .int v1), (2, .int v2), (3, .int v3), (4, .int v4)]) hx hb dX0_countRangesAhead_28 hl (by decide) rfl (fun ls hl => ?_)
          refine lv_iload hx hb dX0_countRangesAhead_30 (lv_at hl 0 rfl) ?_
          refine lv_if_eq (tgt := 42) hx hb dX0_countRangesAhead_32 (by decide) (fun c5 => absurd c5 (by decide)) (fun _ => ?_)
          refine lv_iload_n hx hb dX0_countRangesAhead_35 rfl (lv_at hl 4 rfl) ?_
          refine lv_if_ne (tgt := 42) hx hb dX0_countRangesAhead_36 (by decide) (fun c6 => ?_) (fun c6 => ?_)
          · replace h := zf c6 h
            refine lv_iload hx hb dX0_countRangesAhead_42 (lv_at hl 0 rfl) ?_
            refine lv_istore_n (lv' := [(3, .int 1), (5, .int 1), (0, .ref h0), (1, .int v1), (2, .int v2), (4, .int v4)]) hx hb dX0_countRangesAhead_44 rfl hl (by decide) rfl (fun ls hl => ?_)
            refine lv_iinc (v := (v4 + 1)) (lv' := [(4, .int (v4 + 1)), (3, .int 1), (5, .int 1), (0, .ref h0), (1, .int v1), (2, .int v2)]) hx hb dX0_countRangesAhead_45 hl (k := 5) rfl rfl (by decide) rfl (fun ls hl => ?_)
            refine lv_goto (tgt := 7) hx hb dX0_countRangesAhead_48 (by decide) ?_
            exact ih v1 v2 1 (v4 + 1) h ls (lv_sub hl [3, 4, 5, 1, 0] rfl)
          · replace h := zt c6 h
            refine lv_iinc (v := (v2 + 1)) (lv' := [(2, .int (v2 + 1)), (5, .int 1), (0, .ref h0), (1, .int v1), (3, .int v3), (4, .int v4)]) hx hb dX0_countRangesAhead_39 hl (k := 3) rfl rfl (by decide) rfl (fun ls hl => ?_)
            refine lv_iload hx hb dX0_countRangesAhead_42 (lv_at hl 1 rfl) ?_
            refine lv_istore_n (lv' := [(3, .int 1), (2, .int (v2 + 1)), (5, .int 1), (0, .ref h0), (1, .int v1), (4, .int v4)]) hx hb dX0_countRangesAhead_44 rfl hl (by decide) rfl (fun ls hl => ?_)
            refine lv_iinc (v := (v4 + 1)) (lv' := [(4, .int (v4 + 1)), (3, .int 1), (2, .int (v2 + 1)), (5, .int 1), (0, .ref h0), (1, .int v1)]) hx hb dX0_countRangesAhead_45 hl (k := 5) rfl rfl (by decide) rfl (fun ls hl => ?_)
            refine lv_goto (tgt := 7) hx hb dX0_countRangesAhead_48 (by decide) ?_
            exact ih v1 (v2 + 1) 1 (v4 + 1) h ls (lv_sub hl [4, 5, 2, 1, 0] rfl)
  unfold fX0_countRangesAhead at h
  refine lv_iconst (v := 0) hx hb dX0_countRangesAhead_0 (by decide) ?_
  refine lv_istore_n (lv' := [(2, .int 0), (0, .ref h0), (1, .int a1)]) hx hb dX0_countRangesAhead_1 rfl hl (by decide) rfl (fun ls hl => ?_)
  refine lv_iconst (v := 0) hx hb dX0_countRangesAhead_2 (by decide) ?_
  refine lv_istore_n (lv' := [(3, .int 0), (2, .int 0), (0, .ref h0), (1, .int a1)]) hx hb dX0_countRangesAhead_3 rfl hl (by decide) rfl (fun ls hl => ?_)
  refine lv_iconst (v := 0) hx hb dX0_countRangesAhead_4 (by decide) ?_
  refine lv_istore (lv' := [(4, .int 0), (3, .int 0), (2, .int 0), (0, .ref h0), (1, .int a1)]) hx hb dX0_countRangesAhead_5 hl (by decide) rfl (fun ls hl => ?_)
  exact loop_7 1000 a1 0 0 0 h ls (lv_sub hl [3, 4, 2, 1, 0] rfl)
theorem hdV_X0_countRangesAhead : yX0_countRangesAhead.cls = RX0 ∧ yX0_countRangesAhead.cls ≠ "java/lang/invoke/MethodHandle" ∧ yX0_countRangesAhead.cls ≠ "java/lang/invoke/VarHandle" ∧ (parseMethodDescriptor yX0_countRangesAhead.desc).map (fun d => d.parameters.length) = some 1 := by decide +kernel
theorem hdV_X0_shortestRange : yX0_shortestRange.cls = RX0 ∧ yX0_shortestRange.cls ≠ "java/lang/invoke/MethodHandle" ∧ yX0_shortestRange.cls ≠ "java/lang/invoke/VarHandle" ∧ (parseMethodDescriptor yX0_shortestRange.desc).map (fun d => d.parameters.length) = some 0 := by decide +kernel
def fX0_dropSurplus_22  : Nat → Int32 → Int32 → (Nat → Int32) → (Int32) → Option ((Nat → Int32))
  | 0, _, _, _, _ => none
  | n + 1, v1, v3, b, dr =>
    if 256 ≤ v3 then
        some b
      else
        if v3 < 0 ∨ 256 ≤ v3.toNatClampNeg then none else
        if (b v3.toNatClampNeg) < 0 then
          some b
        else
          if v3 < 0 ∨ 256 ≤ v3.toNatClampNeg then none else
          fX0_dropSurplus_22 n v1 (v3 + 1) (upd b v3.toNatClampNeg (-3)) dr
def fX0_dropSurplus_11  : Nat → Int32 → (Nat → Int32) → (Int32) → Option ((Nat → Int32) × (Int32))
  | 0, _, _, _ => none
  | n + 1, v1, b, dr =>
    if v1 ≤ 0 then
        some (b, dr)
      else
        ob (fX0_shortestRange b) fun r6 =>
        ob (fX0_dropSurplus_22 1000 v1 r6 b dr) fun b7 =>
        fX0_dropSurplus_11 n (v1 + (-1)) b7 (dr + 1)
def fX0_dropSurplus (b : Nat → Int32) (dr : Int32) : Option ((Nat → Int32) × (Int32)) :=
  ob (fX0_countRangesAhead b 256) fun r8 =>
  fX0_dropSurplus_11 1000 (r8 - 16) b dr
theorem mX0_dropSurplus_9 : Cond.fieldLink RX0 9 "IdleDiscards$Device" "blocks" "[I" ∈ wsX0_dropSurplus := by decide +kernel
theorem uX0_dropSurplus_X0 : ∀ w ∈ wsX00, w ∈ wsX0_dropSurplus := by decide +kernel
theorem mX0_dropSurplus_55 : Cond.fieldLink RX0 55 "IdleDiscards$Device" "dropped" "I" ∈ wsX0_dropSurplus := by decide +kernel
set_option maxRecDepth 100000 in
set_option maxHeartbeats 4000000 in
theorem kX0_dropSurplus (l : Launch) (g : zG) (h0 h1 h2 h3 h4 : Nat) (b : Nat → Int32) (pF : Nat → Int32) (pL : Nat → Int32) (st : Nat → Int32) (tm : Int32) (qt : Int32) (cm : Int32) (ds : Int32) (dr : Int32) {b' : Nat → Int32} {dr' : Int32} (h : fX0_dropSurplus b dr = some (b', dr')) : Mw l g yX0_dropSurplus wsX0_dropSurplus { frames := 1, cells := 0, slots := 0, locals := 25 } [.ref h0] (zD g h0 h1 h2 h3 h4 b pF pL st tm qt cm ds dr) (zWv g (zD g h0 h1 h2 h3 h4 b' pF pL st tm qt cm ds dr')) := by
  refine zw_in (cc := cX0_dropSurplus) (maxL := 4) (ret := none) (by decide) rfl (Nat.le_of_ble_eq_true rfl) ?_
  intro p e s m below meth c hx hb hr hml hts hown hlocks hK A hA hP hD hS ls hl
  replace hl : lv_has ls 4 [(0, .ref h0)] := hl
  have loop_22 : ∀ (n : Nat) (v1 : Int32) (v3 : Int32) (b : (Nat → Int32)) (dr : (Int32)) (b_o : (Nat → Int32)), fX0_dropSurplus_22 n v1 v3 b dr = some b_o → (∀ (H : Heap) (locs : List Loc), zP g (zD g h0 h1 h2 h3 h4 b_o pF pL st tm qt cm ds dr) H → va_D A (zD g h0 h1 h2 h3 h4 b_o pF pL st tm qt cm ds dr) → va_S A s.heap H locs → ∀ (ls : Array Slot), lv_has ls 4 [(0, .ref h0), (1, .int v1)] → W p l e ({ frames := 1, cells := 0, slots := 0, locals := 25 } : Room) s m [.ref h0].toArray below meth c H locs 0 0 (MQ below (zWv g (zD g h0 h1 h2 h3 h4 b' pF pL st tm qt cm ds dr') A) [.ref h0].toArray s 0 0 A) (F0 m 52 ls [])) → ∀ (H : Heap) (locs : List Loc), zP g (zD g h0 h1 h2 h3 h4 b pF pL st tm qt cm ds dr) H → va_D A (zD g h0 h1 h2 h3 h4 b pF pL st tm qt cm ds dr) → va_S A s.heap H locs → ∀ (ls : Array Slot), lv_has ls 4 [(0, .ref h0), (1, .int v1), (3, .int v3)] → W p l e ({ frames := 1, cells := 0, slots := 0, locals := 25 } : Room) s m [.ref h0].toArray below meth c H locs 0 0 (MQ below (zWv g (zD g h0 h1 h2 h3 h4 b' pF pL st tm qt cm ds dr') A) [.ref h0].toArray s 0 0 A) (F0 m 22 ls []) := by
    intro n
    induction n with
    | zero => intro v1 v3 b dr b_o h kk H locs hP hD hS ls hl; exact zn h
    | succ n ih =>
      intro v1 v3 b dr b_o h kk H locs hP hD hS ls hl
      rw [fX0_dropSurplus_22] at h
      refine lv_iload_n hx hb dX0_dropSurplus_22 rfl (lv_at hl 2 rfl) ?_
      refine lv_sipush (v := 256) hx hb dX0_dropSurplus_23 (by decide) ?_
      refine lv_icmp_ge (tgt := 52) hx hb dX0_dropSurplus_26 (by decide) (fun c1 => ?_) (fun c1 => ?_)
      · replace h := zt c1 h
        cases h
        exact kk H locs hP hD hS ls (lv_sub hl [0, 1] rfl)
      · replace h := zf c1 h
        refine lv_aload_n hx hb dX0_dropSurplus_29 rfl (lv_at hl 0 rfl) ?_
        refine va_get (ci := 0) (v := .ref h1) (C := RX0) (T := TX0) (N := 9) hx hb hts uX0_dropSurplus_X0 hown hK hP 0 rfl rfl 0 (by decide) (hts _ mX0_dropSurplus_9) (fun _ h9 => h9) rfl dX0_dropSurplus_30 ?_
        refine lv_iload_n hx hb dX0_dropSurplus_33 rfl (lv_at hl 2 rfl) ?_
        obtain ⟨i2, h⟩ := zi h
        refine za_ild hx hb hK hP 1 rfl _ rfl i2 dX0_dropSurplus_34 ?_
        refine lv_if_lt (tgt := 52) hx hb dX0_dropSurplus_35 (by decide) (fun c3 => ?_) (fun c3 => ?_)
        · replace h := zt c3 h
          cases h
          exact kk H locs hP hD hS ls (lv_sub hl [0, 1] rfl)
        · replace h := zf c3 h
          refine lv_aload_n hx hb dX0_dropSurplus_38 rfl (lv_at hl 0 rfl) ?_
          refine va_get (ci := 0) (v := .ref h1) (C := RX0) (T := TX0) (N := 9) hx hb hts uX0_dropSurplus_X0 hown hK hP 0 rfl rfl 0 (by decide) (hts _ mX0_dropSurplus_9) (fun _ h9 => h9) rfl dX0_dropSurplus_39 ?_
          refine lv_iload_n hx hb dX0_dropSurplus_42 rfl (lv_at hl 2 rfl) ?_
          refine lv_bipush (v := (-3)) hx hb dX0_dropSurplus_43 (by decide) ?_
          obtain ⟨i4, h⟩ := zi h
          refine za_ist hx hb hK hP hD hS 1 rfl _ rfl i4 dX0_dropSurplus_45 (fun H locs hP hD hS => ?_)
          replace hP : zP g (zD g h0 h1 h2 h3 h4 (upd b v3.toNatClampNeg (-3)) pF pL st tm qt cm ds dr) H := hP
          replace hD : va_D A (zD g h0 h1 h2 h3 h4 (upd b v3.toNatClampNeg (-3)) pF pL st tm qt cm ds dr) := hD
          refine lv_iinc (v := (v3 + 1)) (lv' := [(3, .int (v3 + 1)), (0, .ref h0), (1, .int v1)]) hx hb dX0_dropSurplus_46 hl (k := 2) rfl rfl (by decide) rfl (fun ls hl => ?_)
          refine lv_goto (tgt := 22) hx hb dX0_dropSurplus_49 (by decide) ?_
          exact ih v1 (v3 + 1) (upd b v3.toNatClampNeg (-3)) dr _ h kk H locs hP hD hS ls (lv_sub hl [1, 2, 0] rfl)
  have loop_11 : ∀ (n : Nat) (v1 : Int32) (b : (Nat → Int32)) (dr : (Int32)), fX0_dropSurplus_11 n v1 b dr = some (b', dr') → ∀ (H : Heap) (locs : List Loc), zP g (zD g h0 h1 h2 h3 h4 b pF pL st tm qt cm ds dr) H → va_D A (zD g h0 h1 h2 h3 h4 b pF pL st tm qt cm ds dr) → va_S A s.heap H locs → ∀ (ls : Array Slot), lv_has ls 4 [(0, .ref h0), (1, .int v1)] → W p l e ({ frames := 1, cells := 0, slots := 0, locals := 25 } : Room) s m [.ref h0].toArray below meth c H locs 0 0 (MQ below (zWv g (zD g h0 h1 h2 h3 h4 b' pF pL st tm qt cm ds dr') A) [.ref h0].toArray s 0 0 A) (F0 m 11 ls []) := by
    intro n
    induction n with
    | zero => intro v1 b dr h H locs hP hD hS ls hl; exact zn h
    | succ n ih =>
      intro v1 b dr h H locs hP hD hS ls hl
      rw [fX0_dropSurplus_11] at h
      refine lv_iload_n hx hb dX0_dropSurplus_11 rfl (lv_at hl 1 rfl) ?_
      refine lv_if_le (tgt := 68) hx hb dX0_dropSurplus_12 (by decide) (fun c5 => ?_) (fun c5 => ?_)
      · replace h := zt c5 h
        cases h
        exact zw_v hx hb hr hlocks hP hS dX0_dropSurplus_68
      · replace h := zf c5 h
        refine lv_aload_n hx hb dX0_dropSurplus_15 rfl (lv_at hl 0 rfl) ?_
        obtain ⟨r6, e6, h⟩ := zb h
        refine zV (As := []) (rest := []) (zQi_q _) ⟨hx, hb, hml, hown, hts⟩ (kX0_shortestRange l g h0 h1 h2 h3 h4 b pF pL st tm qt cm ds dr e6) (cwV 0 hts gX0_dropSurplus_X0_shortestRange rfl rfl rfl hdV_X0_shortestRange ⟨Nat.le_of_ble_eq_true rfl, Nat.le_of_ble_eq_true rfl⟩) hK hP [0, 1, 2, 3, 4] rfl 0 rfl rfl rfl hl.1 rfl (Nat.le_of_ble_eq_true rfl) ⟨Nat.zero_le _, Nat.zero_le _⟩ dX0_dropSurplus_16 ?_
        refine lv_istore_n (lv' := [(2, .int r6), (0, .ref h0), (1, .int v1)]) hx hb dX0_dropSurplus_19 rfl hl (by decide) rfl (fun ls hl => ?_)
        refine lv_iload_n hx hb dX0_dropSurplus_20 rfl (lv_at hl 0 rfl) ?_
        refine lv_istore_n (lv' := [(3, .int r6), (2, .int r6), (0, .ref h0), (1, .int v1)]) hx hb dX0_dropSurplus_21 rfl hl (by decide) rfl (fun ls hl => ?_)
        obtain ⟨b7, e7, h⟩ := zb h
        refine loop_22 1000 v1 r6 b dr _ e7 (fun H locs hP hD hS ls hl => ?_) H locs hP hD hS ls (lv_sub hl [2, 3, 0] rfl)
        refine lv_aload_n hx hb dX0_dropSurplus_52 rfl (lv_at hl 0 rfl) ?_
        refine lv_dup hx hb dX0_dropSurplus_53 rfl ?_
        refine va_get (ci := 0) (v := .int dr) (C := RX0) (T := TX0) (N := 9) hx hb hts uX0_dropSurplus_X0 hown hK hP 0 rfl rfl 8 (by decide) (hts _ mX0_dropSurplus_55) (fun _ h9 => h9) rfl dX0_dropSurplus_54 ?_
        refine lv_iconst (v := 1) hx hb dX0_dropSurplus_57 (by decide) ?_
        refine lv_iadd hx hb dX0_dropSurplus_58 ?_
        refine va_put (ci := 0) (v := .int (dr + 1)) (ty := .int) (C := RX0) (T := TX0) (N := 9) hx hb hts uX0_dropSurplus_X0 tyX0 tyX0_ok nmX0 hown hK hP hD hS 0 rfl rfl 8 (by decide) (hts _ mX0_dropSurplus_55) (fun _ h9 => h9) rfl (by decide +kernel) rfl rfl (Nat.le_of_ble_eq_true rfl) dX0_dropSurplus_59 (fun H locs hP hD hS => ?_)
        replace hP : zP g (zD g h0 h1 h2 h3 h4 b7 pF pL st tm qt cm ds (dr + 1)) H := hP
        replace hD : va_D A (zD g h0 h1 h2 h3 h4 b7 pF pL st tm qt cm ds (dr + 1)) := hD
        refine lv_iinc (v := (v1 + (-1))) (lv' := [(1, .int (v1 + (-1))), (0, .ref h0)]) hx hb dX0_dropSurplus_62 hl (k := 1) rfl rfl (by decide) rfl (fun ls hl => ?_)
        refine lv_goto (tgt := 11) hx hb dX0_dropSurplus_65 (by decide) ?_
        exact ih (v1 + (-1)) b7 (dr + 1) h H locs hP hD hS ls (lv_sub hl [1, 0] rfl)
  unfold fX0_dropSurplus at h
  refine lv_aload_n hx hb dX0_dropSurplus_0 rfl (lv_at hl 0 rfl) ?_
  refine lv_sipush (v := 256) hx hb dX0_dropSurplus_1 (by decide) ?_
  obtain ⟨r8, e8, h⟩ := zb h
  refine zV (As := [.int 256]) (rest := []) (zQi_q _) ⟨hx, hb, hml, hown, hts⟩ (kX0_countRangesAhead l g h0 h1 h2 h3 h4 b pF pL st tm qt cm ds dr 256 e8) (cwV 1 hts gX0_dropSurplus_X0_countRangesAhead rfl rfl rfl hdV_X0_countRangesAhead ⟨Nat.le_of_ble_eq_true rfl, Nat.le_of_ble_eq_true rfl⟩) hK hP [0, 1, 2, 3, 4] rfl 0 rfl rfl rfl hl.1 rfl (Nat.le_of_ble_eq_true rfl) ⟨Nat.zero_le _, Nat.zero_le _⟩ dX0_dropSurplus_4 ?_
  refine lv_bipush (v := 16) hx hb dX0_dropSurplus_7 (by decide) ?_
  refine lv_isub hx hb dX0_dropSurplus_9 ?_
  refine lv_istore_n (lv' := [(1, .int (r8 - 16)), (0, .ref h0)]) hx hb dX0_dropSurplus_10 rfl hl (by decide) rfl (fun ls hl => ?_)
  exact loop_11 1000 (r8 - 16) b dr h s.heap [] hP hD hS ls (lv_sub hl [1, 0] rfl)
theorem hdV_X0_dropSurplus : yX0_dropSurplus.cls = RX0 ∧ yX0_dropSurplus.cls ≠ "java/lang/invoke/MethodHandle" ∧ yX0_dropSurplus.cls ≠ "java/lang/invoke/VarHandle" ∧ (parseMethodDescriptor yX0_dropSurplus.desc).map (fun d => d.parameters.length) = some 0 := by decide +kernel
def fX0_writeSpan_5  : Nat → Int32 → Int32 → Int32 → Int32 → (Nat → Int32) → (Int32) → (Int32) → Option (Int32 × (Nat → Int32) × (Int32) × (Int32))
  | 0, _, _, _, _, _, _, _ => none
  | n + 1, v1, v2, v3, v4, b, qt, dr =>
    if (v1 + v2) ≤ v4 then
        ob2 (fX0_dropSurplus b dr) fun b2 dr2 =>
        some (v3, b2, 0, dr2)
      else
        if v4 < 0 ∨ 256 ≤ v4.toNatClampNeg then none else
        if (b v4.toNatClampNeg) < 0 then
          if v4 < 0 ∨ 256 ≤ v4.toNatClampNeg then none else
          fX0_writeSpan_5 n v1 v2 v3 (v4 + 1) (upd b v4.toNatClampNeg (-2)) qt dr
        else
          if v4 < 0 ∨ 256 ≤ v4.toNatClampNeg then none else
          fX0_writeSpan_5 n v1 v2 (v3 + 1) (v4 + 1) (upd b v4.toNatClampNeg (-2)) qt dr
def fX0_writeSpan (b : Nat → Int32) (qt : Int32) (dr : Int32) (a1 : Int32) (a2 : Int32) : Option (Int32 × (Nat → Int32) × (Int32) × (Int32)) :=
  fX0_writeSpan_5 1000 a1 a2 0 a1 b qt dr
theorem mX0_writeSpan_46 : Cond.fieldLink RX0 46 "IdleDiscards$Device" "quiet" "I" ∈ wsX0_writeSpan := by decide +kernel
theorem uX0_writeSpan_X0 : ∀ w ∈ wsX00, w ∈ wsX0_writeSpan := by decide +kernel
theorem mX0_writeSpan_9 : Cond.fieldLink RX0 9 "IdleDiscards$Device" "blocks" "[I" ∈ wsX0_writeSpan := by decide +kernel
set_option maxRecDepth 100000 in
set_option maxHeartbeats 4000000 in
theorem kX0_writeSpan (l : Launch) (g : zG) (h0 h1 h2 h3 h4 : Nat) (b : Nat → Int32) (pF : Nat → Int32) (pL : Nat → Int32) (st : Nat → Int32) (tm : Int32) (qt : Int32) (cm : Int32) (ds : Int32) (dr : Int32) (a1 : Int32) (a2 : Int32) {r : Int32} {b' : Nat → Int32} {qt' : Int32} {dr' : Int32} (h : fX0_writeSpan b qt dr a1 a2 = some (r, b', qt', dr')) : Mw l g yX0_writeSpan wsX0_writeSpan { frames := 2, cells := 0, slots := 0, locals := 48 } [.ref h0, .int a1, .int a2] (zD g h0 h1 h2 h3 h4 b pF pL st tm qt cm ds dr) (zWi g (zD g h0 h1 h2 h3 h4 b' pF pL st tm qt' cm ds dr') r) := by
  refine zw_in (cc := cX0_writeSpan) (maxL := 5) (ret := (some .int)) (by decide) rfl (Nat.le_of_ble_eq_true rfl) ?_
  intro p e s m below meth c hx hb hr hml hts hown hlocks hK A hA hP hD hS ls hl
  replace hl : lv_has ls 5 [(0, .ref h0), (1, .int a1), (2, .int a2)] := hl
  have loop_5 : ∀ (n : Nat) (v1 : Int32) (v2 : Int32) (v3 : Int32) (v4 : Int32) (b : (Nat → Int32)) (qt : (Int32)) (dr : (Int32)), fX0_writeSpan_5 n v1 v2 v3 v4 b qt dr = some (r, b', qt', dr') → ∀ (H : Heap) (locs : List Loc), zP g (zD g h0 h1 h2 h3 h4 b pF pL st tm qt cm ds dr) H → va_D A (zD g h0 h1 h2 h3 h4 b pF pL st tm qt cm ds dr) → va_S A s.heap H locs → ∀ (ls : Array Slot), lv_has ls 5 [(0, .ref h0), (1, .int v1), (2, .int v2), (3, .int v3), (4, .int v4)] → W p l e ({ frames := 2, cells := 0, slots := 0, locals := 48 } : Room) s m [.ref h0, .int a1, .int a2].toArray below meth c H locs 0 0 (MQ below (zWi g (zD g h0 h1 h2 h3 h4 b' pF pL st tm qt' cm ds dr') r A) [.ref h0, .int a1, .int a2].toArray s 0 0 A) (F0 m 5 ls []) := by
    intro n
    induction n with
    | zero => intro v1 v2 v3 v4 b qt dr h H locs hP hD hS ls hl; exact zn h
    | succ n ih =>
      intro v1 v2 v3 v4 b qt dr h H locs hP hD hS ls hl
      rw [fX0_writeSpan_5] at h
      refine lv_iload hx hb dX0_writeSpan_5 (lv_at hl 4 rfl) ?_
      refine lv_iload_n hx hb dX0_writeSpan_7 rfl (lv_at hl 1 rfl) ?_
      refine lv_iload_n hx hb dX0_writeSpan_8 rfl (lv_at hl 2 rfl) ?_
      refine lv_iadd hx hb dX0_writeSpan_9 ?_
      refine lv_icmp_ge (tgt := 41) hx hb dX0_writeSpan_10 (by decide) (fun c1 => ?_) (fun c1 => ?_)
      · replace h := zt c1 h
        refine lv_aload_n hx hb dX0_writeSpan_41 rfl (lv_at hl 0 rfl) ?_
        refine lv_iconst (v := 0) hx hb dX0_writeSpan_42 (by decide) ?_
        refine va_put (ci := 0) (v := .int 0) (ty := .int) (C := RX0) (T := TX0) (N := 9) hx hb hts uX0_writeSpan_X0 tyX0 tyX0_ok nmX0 hown hK hP hD hS 0 rfl rfl 5 (by decide) (hts _ mX0_writeSpan_46) (fun _ h9 => h9) rfl (by decide +kernel) rfl rfl (Nat.le_of_ble_eq_true rfl) dX0_writeSpan_43 (fun H locs hP hD hS => ?_)
        replace hP : zP g (zD g h0 h1 h2 h3 h4 b pF pL st tm 0 cm ds dr) H := hP
        replace hD : va_D A (zD g h0 h1 h2 h3 h4 b pF pL st tm 0 cm ds dr) := hD
        refine lv_aload_n hx hb dX0_writeSpan_46 rfl (lv_at hl 0 rfl) ?_
        obtain ⟨b2, dr2, e2, h⟩ := zb2 h
        refine zVw (As := []) (rest := []) (zWv_q g _) ⟨hx, hb, hml, hown, hts⟩ (kX0_dropSurplus l g h0 h1 h2 h3 h4 b pF pL st tm 0 cm ds dr e2) (cwV 0 hts gX0_writeSpan_X0_dropSurplus rfl rfl rfl hdV_X0_dropSurplus ⟨Nat.le_of_ble_eq_true rfl, Nat.le_of_ble_eq_true rfl⟩) hK hP hD hS hA [0, 1, 2, 3, 4] (by decide) rfl rfl 0 rfl rfl rfl hl.1 rfl (Nat.le_of_ble_eq_true rfl) ⟨Nat.zero_le _, Nat.zero_le _⟩ dX0_writeSpan_47 (fun H locs hP hD hS => ?_)
        replace hP : zP g (zD g h0 h1 h2 h3 h4 b2 pF pL st tm 0 cm ds dr2) H := hP
        replace hD : va_D A (zD g h0 h1 h2 h3 h4 b2 pF pL st tm 0 cm ds dr2) := hD
        refine lv_iload_n hx hb dX0_writeSpan_50 rfl (lv_at hl 3 rfl) ?_
        cases h
        exact zw_i hx hb hr hlocks hP hS dX0_writeSpan_51
      · replace h := zf c1 h
        refine lv_aload_n hx hb dX0_writeSpan_13 rfl (lv_at hl 0 rfl) ?_
        refine va_get (ci := 0) (v := .ref h1) (C := RX0) (T := TX0) (N := 9) hx hb hts uX0_writeSpan_X0 hown hK hP 0 rfl rfl 0 (by decide) (hts _ mX0_writeSpan_9) (fun _ h9 => h9) rfl dX0_writeSpan_14 ?_
        refine lv_iload hx hb dX0_writeSpan_17 (lv_at hl 4 rfl) ?_
        obtain ⟨i3, h⟩ := zi h
        refine za_ild hx hb hK hP 1 rfl _ rfl i3 dX0_writeSpan_19 ?_
        refine lv_if_lt (tgt := 26) hx hb dX0_writeSpan_20 (by decide) (fun c4 => ?_) (fun c4 => ?_)
        · replace h := zt c4 h
          refine lv_aload_n hx hb dX0_writeSpan_26 rfl (lv_at hl 0 rfl) ?_
          refine va_get (ci := 0) (v := .ref h1) (C := RX0) (T := TX0) (N := 9) hx hb hts uX0_writeSpan_X0 hown hK hP 0 rfl rfl 0 (by decide) (hts _ mX0_writeSpan_9) (fun _ h9 => h9) rfl dX0_writeSpan_27 ?_
          refine lv_iload hx hb dX0_writeSpan_30 (lv_at hl 4 rfl) ?_
          refine lv_bipush (v := (-2)) hx hb dX0_writeSpan_32 (by decide) ?_
          obtain ⟨i5, h⟩ := zi h
          refine za_ist hx hb hK hP hD hS 1 rfl _ rfl i5 dX0_writeSpan_34 (fun H locs hP hD hS => ?_)
          replace hP : zP g (zD g h0 h1 h2 h3 h4 (upd b v4.toNatClampNeg (-2)) pF pL st tm qt cm ds dr) H := hP
          replace hD : va_D A (zD g h0 h1 h2 h3 h4 (upd b v4.toNatClampNeg (-2)) pF pL st tm qt cm ds dr) := hD
          refine lv_iinc (v := (v4 + 1)) (lv' := [(4, .int (v4 + 1)), (0, .ref h0), (1, .int v1), (2, .int v2), (3, .int v3)]) hx hb dX0_writeSpan_35 hl (k := 4) rfl rfl (by decide) rfl (fun ls hl => ?_)
          refine lv_goto (tgt := 5) hx hb dX0_writeSpan_38 (by decide) ?_
          exact ih v1 v2 v3 (v4 + 1) (upd b v4.toNatClampNeg (-2)) qt dr h H locs hP hD hS ls (lv_sub hl [1, 2, 3, 4, 0] rfl)
        · replace h := zf c4 h
          refine lv_iinc (v := (v3 + 1)) (lv' := [(3, .int (v3 + 1)), (0, .ref h0), (1, .int v1), (2, .int v2), (4, .int v4)]) hx hb dX0_writeSpan_23 hl (k := 3) rfl rfl (by decide) rfl (fun ls hl => ?_)
          refine lv_aload_n hx hb dX0_writeSpan_26 rfl (lv_at hl 1 rfl) ?_
          refine va_get (ci := 0) (v := .ref h1) (C := RX0) (T := TX0) (N := 9) hx hb hts uX0_writeSpan_X0 hown hK hP 0 rfl rfl 0 (by decide) (hts _ mX0_writeSpan_9) (fun _ h9 => h9) rfl dX0_writeSpan_27 ?_
          refine lv_iload hx hb dX0_writeSpan_30 (lv_at hl 4 rfl) ?_
          refine lv_bipush (v := (-2)) hx hb dX0_writeSpan_32 (by decide) ?_
          obtain ⟨i6, h⟩ := zi h
          refine za_ist hx hb hK hP hD hS 1 rfl _ rfl i6 dX0_writeSpan_34 (fun H locs hP hD hS => ?_)
          replace hP : zP g (zD g h0 h1 h2 h3 h4 (upd b v4.toNatClampNeg (-2)) pF pL st tm qt cm ds dr) H := hP
          replace hD : va_D A (zD g h0 h1 h2 h3 h4 (upd b v4.toNatClampNeg (-2)) pF pL st tm qt cm ds dr) := hD
          refine lv_iinc (v := (v4 + 1)) (lv' := [(4, .int (v4 + 1)), (3, .int (v3 + 1)), (0, .ref h0), (1, .int v1), (2, .int v2)]) hx hb dX0_writeSpan_35 hl (k := 4) rfl rfl (by decide) rfl (fun ls hl => ?_)
          refine lv_goto (tgt := 5) hx hb dX0_writeSpan_38 (by decide) ?_
          exact ih v1 v2 (v3 + 1) (v4 + 1) (upd b v4.toNatClampNeg (-2)) qt dr h H locs hP hD hS ls (lv_sub hl [2, 3, 4, 1, 0] rfl)
  unfold fX0_writeSpan at h
  refine lv_iconst (v := 0) hx hb dX0_writeSpan_0 (by decide) ?_
  refine lv_istore_n (lv' := [(3, .int 0), (0, .ref h0), (1, .int a1), (2, .int a2)]) hx hb dX0_writeSpan_1 rfl hl (by decide) rfl (fun ls hl => ?_)
  refine lv_iload_n hx hb dX0_writeSpan_2 rfl (lv_at hl 2 rfl) ?_
  refine lv_istore (lv' := [(4, .int a1), (3, .int 0), (0, .ref h0), (1, .int a1), (2, .int a2)]) hx hb dX0_writeSpan_3 hl (by decide) rfl (fun ls hl => ?_)
  exact loop_5 1000 a1 a2 0 a1 b qt dr h s.heap [] hP hD hS ls (lv_sub hl [2, 3, 4, 1, 0] rfl)
theorem hdV_X0_queueNow : yX0_queueNow.cls = RX0 ∧ yX0_queueNow.cls ≠ "java/lang/invoke/MethodHandle" ∧ yX0_queueNow.cls ≠ "java/lang/invoke/VarHandle" ∧ (parseMethodDescriptor yX0_queueNow.desc).map (fun d => d.parameters.length) = some 1 := by decide +kernel
def fX0_freeSpan_5 (tm : Int32) : Nat → Int32 → Int32 → Int32 → Int32 → (Nat → Int32) → (Int32) → (Int32) → Option (Int32 × (Nat → Int32) × (Int32) × (Int32))
  | 0, _, _, _, _, _, _, _ => none
  | n + 1, v1, v2, v3, v4, b, qt, dr =>
    if (v1 + v2) ≤ v4 then
        ob2 (fX0_dropSurplus b dr) fun b2 dr2 =>
        some (v3, b2, 0, dr2)
      else
        if v4 < 0 ∨ 256 ≤ v4.toNatClampNeg then none else
        if (b v4.toNatClampNeg) = (-2) then
          ob (fX0_queueNow b tm v4) fun b5 =>
          fX0_freeSpan_5 tm n v1 v2 (v3 + 1) (v4 + 1) b5 qt dr
        else
          fX0_freeSpan_5 tm n v1 v2 v3 (v4 + 1) b qt dr
def fX0_freeSpan (b : Nat → Int32) (tm : Int32) (qt : Int32) (dr : Int32) (a1 : Int32) (a2 : Int32) : Option (Int32 × (Nat → Int32) × (Int32) × (Int32)) :=
  fX0_freeSpan_5 tm 1000 a1 a2 0 a1 b qt dr
theorem mX0_freeSpan_46 : Cond.fieldLink RX0 46 "IdleDiscards$Device" "quiet" "I" ∈ wsX0_freeSpan := by decide +kernel
theorem uX0_freeSpan_X0 : ∀ w ∈ wsX00, w ∈ wsX0_freeSpan := by decide +kernel
theorem mX0_freeSpan_9 : Cond.fieldLink RX0 9 "IdleDiscards$Device" "blocks" "[I" ∈ wsX0_freeSpan := by decide +kernel
set_option maxRecDepth 100000 in
set_option maxHeartbeats 4000000 in
theorem kX0_freeSpan (l : Launch) (g : zG) (h0 h1 h2 h3 h4 : Nat) (b : Nat → Int32) (pF : Nat → Int32) (pL : Nat → Int32) (st : Nat → Int32) (tm : Int32) (qt : Int32) (cm : Int32) (ds : Int32) (dr : Int32) (a1 : Int32) (a2 : Int32) {r : Int32} {b' : Nat → Int32} {qt' : Int32} {dr' : Int32} (h : fX0_freeSpan b tm qt dr a1 a2 = some (r, b', qt', dr')) : Mw l g yX0_freeSpan wsX0_freeSpan { frames := 2, cells := 0, slots := 0, locals := 48 } [.ref h0, .int a1, .int a2] (zD g h0 h1 h2 h3 h4 b pF pL st tm qt cm ds dr) (zWi g (zD g h0 h1 h2 h3 h4 b' pF pL st tm qt' cm ds dr') r) := by
  refine zw_in (cc := cX0_freeSpan) (maxL := 5) (ret := (some .int)) (by decide) rfl (Nat.le_of_ble_eq_true rfl) ?_
  intro p e s m below meth c hx hb hr hml hts hown hlocks hK A hA hP hD hS ls hl
  replace hl : lv_has ls 5 [(0, .ref h0), (1, .int a1), (2, .int a2)] := hl
  have loop_5 : ∀ (n : Nat) (v1 : Int32) (v2 : Int32) (v3 : Int32) (v4 : Int32) (b : (Nat → Int32)) (qt : (Int32)) (dr : (Int32)), fX0_freeSpan_5 tm n v1 v2 v3 v4 b qt dr = some (r, b', qt', dr') → ∀ (H : Heap) (locs : List Loc), zP g (zD g h0 h1 h2 h3 h4 b pF pL st tm qt cm ds dr) H → va_D A (zD g h0 h1 h2 h3 h4 b pF pL st tm qt cm ds dr) → va_S A s.heap H locs → ∀ (ls : Array Slot), lv_has ls 5 [(0, .ref h0), (1, .int v1), (2, .int v2), (3, .int v3), (4, .int v4)] → W p l e ({ frames := 2, cells := 0, slots := 0, locals := 48 } : Room) s m [.ref h0, .int a1, .int a2].toArray below meth c H locs 0 0 (MQ below (zWi g (zD g h0 h1 h2 h3 h4 b' pF pL st tm qt' cm ds dr') r A) [.ref h0, .int a1, .int a2].toArray s 0 0 A) (F0 m 5 ls []) := by
    intro n
    induction n with
    | zero => intro v1 v2 v3 v4 b qt dr h H locs hP hD hS ls hl; exact zn h
    | succ n ih =>
      intro v1 v2 v3 v4 b qt dr h H locs hP hD hS ls hl
      rw [fX0_freeSpan_5] at h
      refine lv_iload hx hb dX0_freeSpan_5 (lv_at hl 4 rfl) ?_
      refine lv_iload_n hx hb dX0_freeSpan_7 rfl (lv_at hl 1 rfl) ?_
      refine lv_iload_n hx hb dX0_freeSpan_8 rfl (lv_at hl 2 rfl) ?_
      refine lv_iadd hx hb dX0_freeSpan_9 ?_
      refine lv_icmp_ge (tgt := 40) hx hb dX0_freeSpan_10 (by decide) (fun c1 => ?_) (fun c1 => ?_)
      · replace h := zt c1 h
        refine lv_aload_n hx hb dX0_freeSpan_40 rfl (lv_at hl 0 rfl) ?_
        refine lv_iconst (v := 0) hx hb dX0_freeSpan_41 (by decide) ?_
        refine va_put (ci := 0) (v := .int 0) (ty := .int) (C := RX0) (T := TX0) (N := 9) hx hb hts uX0_freeSpan_X0 tyX0 tyX0_ok nmX0 hown hK hP hD hS 0 rfl rfl 5 (by decide) (hts _ mX0_freeSpan_46) (fun _ h9 => h9) rfl (by decide +kernel) rfl rfl (Nat.le_of_ble_eq_true rfl) dX0_freeSpan_42 (fun H locs hP hD hS => ?_)
        replace hP : zP g (zD g h0 h1 h2 h3 h4 b pF pL st tm 0 cm ds dr) H := hP
        replace hD : va_D A (zD g h0 h1 h2 h3 h4 b pF pL st tm 0 cm ds dr) := hD
        refine lv_aload_n hx hb dX0_freeSpan_45 rfl (lv_at hl 0 rfl) ?_
        obtain ⟨b2, dr2, e2, h⟩ := zb2 h
        refine zVw (As := []) (rest := []) (zWv_q g _) ⟨hx, hb, hml, hown, hts⟩ (kX0_dropSurplus l g h0 h1 h2 h3 h4 b pF pL st tm 0 cm ds dr e2) (cwV 0 hts gX0_freeSpan_X0_dropSurplus rfl rfl rfl hdV_X0_dropSurplus ⟨Nat.le_of_ble_eq_true rfl, Nat.le_of_ble_eq_true rfl⟩) hK hP hD hS hA [0, 1, 2, 3, 4] (by decide) rfl rfl 0 rfl rfl rfl hl.1 rfl (Nat.le_of_ble_eq_true rfl) ⟨Nat.zero_le _, Nat.zero_le _⟩ dX0_freeSpan_46 (fun H locs hP hD hS => ?_)
        replace hP : zP g (zD g h0 h1 h2 h3 h4 b2 pF pL st tm 0 cm ds dr2) H := hP
        replace hD : va_D A (zD g h0 h1 h2 h3 h4 b2 pF pL st tm 0 cm ds dr2) := hD
        refine lv_iload_n hx hb dX0_freeSpan_49 rfl (lv_at hl 3 rfl) ?_
        cases h
        exact zw_i hx hb hr hlocks hP hS dX0_freeSpan_50
      · replace h := zf c1 h
        refine lv_aload_n hx hb dX0_freeSpan_13 rfl (lv_at hl 0 rfl) ?_
        refine va_get (ci := 0) (v := .ref h1) (C := RX0) (T := TX0) (N := 9) hx hb hts uX0_freeSpan_X0 hown hK hP 0 rfl rfl 0 (by decide) (hts _ mX0_freeSpan_9) (fun _ h9 => h9) rfl dX0_freeSpan_14 ?_
        refine lv_iload hx hb dX0_freeSpan_17 (lv_at hl 4 rfl) ?_
        obtain ⟨i3, h⟩ := zi h
        refine za_ild hx hb hK hP 1 rfl _ rfl i3 dX0_freeSpan_19 ?_
        refine lv_bipush (v := (-2)) hx hb dX0_freeSpan_20 (by decide) ?_
        refine lv_icmp_ne (tgt := 34) hx hb dX0_freeSpan_22 (by decide) (fun c4 => ?_) (fun c4 => ?_)
        · replace h := zf c4 h
          refine lv_iinc (v := (v4 + 1)) (lv' := [(4, .int (v4 + 1)), (0, .ref h0), (1, .int v1), (2, .int v2), (3, .int v3)]) hx hb dX0_freeSpan_34 hl (k := 4) rfl rfl (by decide) rfl (fun ls hl => ?_)
          refine lv_goto (tgt := 5) hx hb dX0_freeSpan_37 (by decide) ?_
          exact ih v1 v2 v3 (v4 + 1) b qt dr h H locs hP hD hS ls (lv_sub hl [1, 2, 3, 4, 0] rfl)
        · replace h := zt c4 h
          refine lv_aload_n hx hb dX0_freeSpan_25 rfl (lv_at hl 0 rfl) ?_
          refine lv_iload hx hb dX0_freeSpan_26 (lv_at hl 4 rfl) ?_
          obtain ⟨b5, e5, h⟩ := zb h
          refine zVw (As := [.int v4]) (rest := []) (zWv_q g _) ⟨hx, hb, hml, hown, hts⟩ (kX0_queueNow l g h0 h1 h2 h3 h4 b pF pL st tm qt cm ds dr v4 e5) (cwV 1 hts gX0_freeSpan_X0_queueNow rfl rfl rfl hdV_X0_queueNow ⟨Nat.le_of_ble_eq_true rfl, Nat.le_of_ble_eq_true rfl⟩) hK hP hD hS hA [0, 1, 2, 3, 4] (by decide) rfl rfl 0 rfl rfl rfl hl.1 rfl (Nat.le_of_ble_eq_true rfl) ⟨Nat.zero_le _, Nat.zero_le _⟩ dX0_freeSpan_28 (fun H locs hP hD hS => ?_)
          replace hP : zP g (zD g h0 h1 h2 h3 h4 b5 pF pL st tm qt cm ds dr) H := hP
          replace hD : va_D A (zD g h0 h1 h2 h3 h4 b5 pF pL st tm qt cm ds dr) := hD
          refine lv_iinc (v := (v3 + 1)) (lv' := [(3, .int (v3 + 1)), (0, .ref h0), (1, .int v1), (2, .int v2), (4, .int v4)]) hx hb dX0_freeSpan_31 hl (k := 3) rfl rfl (by decide) rfl (fun ls hl => ?_)
          refine lv_iinc (v := (v4 + 1)) (lv' := [(4, .int (v4 + 1)), (3, .int (v3 + 1)), (0, .ref h0), (1, .int v1), (2, .int v2)]) hx hb dX0_freeSpan_34 hl (k := 4) rfl rfl (by decide) rfl (fun ls hl => ?_)
          refine lv_goto (tgt := 5) hx hb dX0_freeSpan_37 (by decide) ?_
          exact ih v1 v2 (v3 + 1) (v4 + 1) b5 qt dr h H locs hP hD hS ls (lv_sub hl [2, 3, 4, 1, 0] rfl)
  unfold fX0_freeSpan at h
  refine lv_iconst (v := 0) hx hb dX0_freeSpan_0 (by decide) ?_
  refine lv_istore_n (lv' := [(3, .int 0), (0, .ref h0), (1, .int a1), (2, .int a2)]) hx hb dX0_freeSpan_1 rfl hl (by decide) rfl (fun ls hl => ?_)
  refine lv_iload_n hx hb dX0_freeSpan_2 rfl (lv_at hl 2 rfl) ?_
  refine lv_istore (lv' := [(4, .int a1), (3, .int 0), (0, .ref h0), (1, .int a1), (2, .int a2)]) hx hb dX0_freeSpan_3 hl (by decide) rfl (fun ls hl => ?_)
  exact loop_5 1000 a1 a2 0 a1 b qt dr h s.heap [] hP hD hS ls (lv_sub hl [2, 3, 4, 1, 0] rfl)
def fX0_pinSpan (pF : Nat → Int32) (pL : Nat → Int32) (a1 : Int32) (a2 : Int32) (a3 : Int32) : Option ((Nat → Int32) × (Nat → Int32)) :=
  if a1 < 0 ∨ 3 ≤ a1.toNatClampNeg then none else
  if a1 < 0 ∨ 3 ≤ a1.toNatClampNeg then none else
  some ((upd pF a1.toNatClampNeg a2), (upd pL a1.toNatClampNeg a3))
theorem mX0_pinSpan_15 : Cond.fieldLink RX0 15 "IdleDiscards$Device" "pinFirst" "[I" ∈ wsX0_pinSpan := by decide +kernel
theorem uX0_pinSpan_X0 : ∀ w ∈ wsX00, w ∈ wsX0_pinSpan := by decide +kernel
theorem mX0_pinSpan_18 : Cond.fieldLink RX0 18 "IdleDiscards$Device" "pinLength" "[I" ∈ wsX0_pinSpan := by decide +kernel
set_option maxRecDepth 100000 in
set_option maxHeartbeats 4000000 in
theorem kX0_pinSpan (l : Launch) (g : zG) (h0 h1 h2 h3 h4 : Nat) (b : Nat → Int32) (pF : Nat → Int32) (pL : Nat → Int32) (st : Nat → Int32) (tm : Int32) (qt : Int32) (cm : Int32) (ds : Int32) (dr : Int32) (a1 : Int32) (a2 : Int32) (a3 : Int32) {pF' : Nat → Int32} {pL' : Nat → Int32} (h : fX0_pinSpan pF pL a1 a2 a3 = some (pF', pL')) : Mw l g yX0_pinSpan wsX0_pinSpan { frames := 0, cells := 0, slots := 0, locals := 0 } [.ref h0, .int a1, .int a2, .int a3] (zD g h0 h1 h2 h3 h4 b pF pL st tm qt cm ds dr) (zWv g (zD g h0 h1 h2 h3 h4 b pF' pL' st tm qt cm ds dr)) := by
  refine zw_in (cc := cX0_pinSpan) (maxL := 4) (ret := none) (by decide) rfl (Nat.le_of_ble_eq_true rfl) ?_
  intro p e s m below meth c hx hb hr hml hts hown hlocks hK A hA hP hD hS ls hl
  replace hl : lv_has ls 4 [(0, .ref h0), (1, .int a1), (2, .int a2), (3, .int a3)] := hl
  unfold fX0_pinSpan at h
  refine lv_aload_n hx hb dX0_pinSpan_0 rfl (lv_at hl 0 rfl) ?_
  refine va_get (ci := 0) (v := .ref h2) (C := RX0) (T := TX0) (N := 9) hx hb hts uX0_pinSpan_X0 hown hK hP 0 rfl rfl 1 (by decide) (hts _ mX0_pinSpan_15) (fun _ h9 => h9) rfl dX0_pinSpan_1 ?_
  refine lv_iload_n hx hb dX0_pinSpan_4 rfl (lv_at hl 1 rfl) ?_
  refine lv_iload_n hx hb dX0_pinSpan_5 rfl (lv_at hl 2 rfl) ?_
  obtain ⟨i1, h⟩ := zi h
  refine za_ist hx hb hK hP hD hS 2 rfl _ rfl i1 dX0_pinSpan_6 (fun H locs hP hD hS => ?_)
  replace hP : zP g (zD g h0 h1 h2 h3 h4 b (upd pF a1.toNatClampNeg a2) pL st tm qt cm ds dr) H := hP
  replace hD : va_D A (zD g h0 h1 h2 h3 h4 b (upd pF a1.toNatClampNeg a2) pL st tm qt cm ds dr) := hD
  refine lv_aload_n hx hb dX0_pinSpan_7 rfl (lv_at hl 0 rfl) ?_
  refine va_get (ci := 0) (v := .ref h3) (C := RX0) (T := TX0) (N := 9) hx hb hts uX0_pinSpan_X0 hown hK hP 0 rfl rfl 2 (by decide) (hts _ mX0_pinSpan_18) (fun _ h9 => h9) rfl dX0_pinSpan_8 ?_
  refine lv_iload_n hx hb dX0_pinSpan_11 rfl (lv_at hl 1 rfl) ?_
  refine lv_iload_n hx hb dX0_pinSpan_12 rfl (lv_at hl 3 rfl) ?_
  obtain ⟨i2, h⟩ := zi h
  refine za_ist hx hb hK hP hD hS 3 rfl _ rfl i2 dX0_pinSpan_13 (fun H locs hP hD hS => ?_)
  replace hP : zP g (zD g h0 h1 h2 h3 h4 b (upd pF a1.toNatClampNeg a2) (upd pL a1.toNatClampNeg a3) st tm qt cm ds dr) H := hP
  replace hD : va_D A (zD g h0 h1 h2 h3 h4 b (upd pF a1.toNatClampNeg a2) (upd pL a1.toNatClampNeg a3) st tm qt cm ds dr) := hD
  cases h
  exact zw_v hx hb hr hlocks hP hS dX0_pinSpan_14
def fX0_hasPin (pL : Nat → Int32) (a1 : Int32) : Option (Int32) :=
  if a1 < 0 ∨ 3 ≤ a1.toNatClampNeg then none else
  if (pL a1.toNatClampNeg) ≤ 0 then
    some 0
  else
    some 1
theorem mX0_hasPin_18 : Cond.fieldLink RX0 18 "IdleDiscards$Device" "pinLength" "[I" ∈ wsX0_hasPin := by decide +kernel
theorem uX0_hasPin_X0 : ∀ w ∈ wsX00, w ∈ wsX0_hasPin := by decide +kernel
set_option maxRecDepth 100000 in
set_option maxHeartbeats 4000000 in
theorem kX0_hasPin (l : Launch) (g : zG) (h0 h1 h2 h3 h4 : Nat) (b : Nat → Int32) (pF : Nat → Int32) (pL : Nat → Int32) (st : Nat → Int32) (tm : Int32) (qt : Int32) (cm : Int32) (ds : Int32) (dr : Int32) (a1 : Int32) {r : Int32} (h : fX0_hasPin pL a1 = some r) : Mr l g yX0_hasPin wsX0_hasPin { frames := 0, cells := 0, slots := 0, locals := 0 } [.ref h0, .int a1] (zD g h0 h1 h2 h3 h4 b pF pL st tm qt cm ds dr) (zQi r) := by
  refine zr_in (cc := cX0_hasPin) (maxL := 2) (ret := (some .boolean)) (by decide) rfl (Nat.le_of_ble_eq_true rfl) ?_
  intro p e s m below meth c hx hb hr hml hts hown hlocks hP hK ls hl
  replace hl : lv_has ls 2 [(0, .ref h0), (1, .int a1)] := hl
  unfold fX0_hasPin at h
  refine lv_aload_n hx hb dX0_hasPin_0 rfl (lv_at hl 0 rfl) ?_
  refine va_get (ci := 0) (v := .ref h3) (C := RX0) (T := TX0) (N := 9) hx hb hts uX0_hasPin_X0 hown hK hP 0 rfl rfl 2 (by decide) (hts _ mX0_hasPin_18) (fun _ h9 => h9) rfl dX0_hasPin_1 ?_
  refine lv_iload_n hx hb dX0_hasPin_4 rfl (lv_at hl 1 rfl) ?_
  obtain ⟨i1, h⟩ := zi h
  refine za_ild hx hb hK hP 3 rfl _ rfl i1 dX0_hasPin_5 ?_
  refine lv_if_le (tgt := 13) hx hb dX0_hasPin_6 (by decide) (fun c2 => ?_) (fun c2 => ?_)
  · replace h := zt c2 h
    refine lv_iconst (v := 0) hx hb dX0_hasPin_13 (by decide) ?_
    cases h
    exact zr_z hx hb hr hlocks (by decide) dX0_hasPin_14
  · replace h := zf c2 h
    refine lv_iconst (v := 1) hx hb dX0_hasPin_9 (by decide) ?_
    refine lv_goto (tgt := 14) hx hb dX0_hasPin_10 (by decide) ?_
    cases h
    exact zr_z hx hb hr hlocks (by decide) dX0_hasPin_14
def fX0_firstPinned (pF : Nat → Int32) (a1 : Int32) : Option (Int32) :=
  if a1 < 0 ∨ 3 ≤ a1.toNatClampNeg then none else
  some (pF a1.toNatClampNeg)
theorem mX0_firstPinned_15 : Cond.fieldLink RX0 15 "IdleDiscards$Device" "pinFirst" "[I" ∈ wsX0_firstPinned := by decide +kernel
theorem uX0_firstPinned_X0 : ∀ w ∈ wsX00, w ∈ wsX0_firstPinned := by decide +kernel
set_option maxRecDepth 100000 in
set_option maxHeartbeats 4000000 in
theorem kX0_firstPinned (l : Launch) (g : zG) (h0 h1 h2 h3 h4 : Nat) (b : Nat → Int32) (pF : Nat → Int32) (pL : Nat → Int32) (st : Nat → Int32) (tm : Int32) (qt : Int32) (cm : Int32) (ds : Int32) (dr : Int32) (a1 : Int32) {r : Int32} (h : fX0_firstPinned pF a1 = some r) : Mr l g yX0_firstPinned wsX0_firstPinned { frames := 0, cells := 0, slots := 0, locals := 0 } [.ref h0, .int a1] (zD g h0 h1 h2 h3 h4 b pF pL st tm qt cm ds dr) (zQi r) := by
  refine zr_in (cc := cX0_firstPinned) (maxL := 2) (ret := (some .int)) (by decide) rfl (Nat.le_of_ble_eq_true rfl) ?_
  intro p e s m below meth c hx hb hr hml hts hown hlocks hP hK ls hl
  replace hl : lv_has ls 2 [(0, .ref h0), (1, .int a1)] := hl
  unfold fX0_firstPinned at h
  refine lv_aload_n hx hb dX0_firstPinned_0 rfl (lv_at hl 0 rfl) ?_
  refine va_get (ci := 0) (v := .ref h2) (C := RX0) (T := TX0) (N := 9) hx hb hts uX0_firstPinned_X0 hown hK hP 0 rfl rfl 1 (by decide) (hts _ mX0_firstPinned_15) (fun _ h9 => h9) rfl dX0_firstPinned_1 ?_
  refine lv_iload_n hx hb dX0_firstPinned_4 rfl (lv_at hl 1 rfl) ?_
  obtain ⟨i1, h⟩ := zi h
  refine za_ild hx hb hK hP 2 rfl _ rfl i1 dX0_firstPinned_5 ?_
  cases h
  exact zr_i hx hb hr hlocks dX0_firstPinned_6
def fX0_lengthPinned (pL : Nat → Int32) (a1 : Int32) : Option (Int32) :=
  if a1 < 0 ∨ 3 ≤ a1.toNatClampNeg then none else
  some (pL a1.toNatClampNeg)
theorem mX0_lengthPinned_18 : Cond.fieldLink RX0 18 "IdleDiscards$Device" "pinLength" "[I" ∈ wsX0_lengthPinned := by decide +kernel
theorem uX0_lengthPinned_X0 : ∀ w ∈ wsX00, w ∈ wsX0_lengthPinned := by decide +kernel
set_option maxRecDepth 100000 in
set_option maxHeartbeats 4000000 in
theorem kX0_lengthPinned (l : Launch) (g : zG) (h0 h1 h2 h3 h4 : Nat) (b : Nat → Int32) (pF : Nat → Int32) (pL : Nat → Int32) (st : Nat → Int32) (tm : Int32) (qt : Int32) (cm : Int32) (ds : Int32) (dr : Int32) (a1 : Int32) {r : Int32} (h : fX0_lengthPinned pL a1 = some r) : Mr l g yX0_lengthPinned wsX0_lengthPinned { frames := 0, cells := 0, slots := 0, locals := 0 } [.ref h0, .int a1] (zD g h0 h1 h2 h3 h4 b pF pL st tm qt cm ds dr) (zQi r) := by
  refine zr_in (cc := cX0_lengthPinned) (maxL := 2) (ret := (some .int)) (by decide) rfl (Nat.le_of_ble_eq_true rfl) ?_
  intro p e s m below meth c hx hb hr hml hts hown hlocks hP hK ls hl
  replace hl : lv_has ls 2 [(0, .ref h0), (1, .int a1)] := hl
  unfold fX0_lengthPinned at h
  refine lv_aload_n hx hb dX0_lengthPinned_0 rfl (lv_at hl 0 rfl) ?_
  refine va_get (ci := 0) (v := .ref h3) (C := RX0) (T := TX0) (N := 9) hx hb hts uX0_lengthPinned_X0 hown hK hP 0 rfl rfl 2 (by decide) (hts _ mX0_lengthPinned_18) (fun _ h9 => h9) rfl dX0_lengthPinned_1 ?_
  refine lv_iload_n hx hb dX0_lengthPinned_4 rfl (lv_at hl 1 rfl) ?_
  obtain ⟨i1, h⟩ := zi h
  refine za_ild hx hb hK hP 3 rfl _ rfl i1 dX0_lengthPinned_5 ?_
  cases h
  exact zr_i hx hb hr hlocks dX0_lengthPinned_6
def fX0_isAnyPinned_2 (pF : Nat → Int32) (pL : Nat → Int32) : Nat → Int32 → Int32 → Int32 → Option (Int32)
  | 0, _, _, _ => none
  | n + 1, v1, v2, v3 =>
    if 3 ≤ v3 then
        some 0
      else
        if v3 < 0 ∨ 3 ≤ v3.toNatClampNeg then none else
        if (pL v3.toNatClampNeg) ≤ 0 then
          fX0_isAnyPinned_2 pF pL n v1 v2 (v3 + 1)
        else
          if v3 < 0 ∨ 3 ≤ v3.toNatClampNeg then none else
          if v2 ≤ (pF v3.toNatClampNeg) then
            fX0_isAnyPinned_2 pF pL n v1 v2 (v3 + 1)
          else
            if v3 < 0 ∨ 3 ≤ v3.toNatClampNeg then none else
            if v3 < 0 ∨ 3 ≤ v3.toNatClampNeg then none else
            if ((pF v3.toNatClampNeg) + (pL v3.toNatClampNeg)) ≤ v1 then
              fX0_isAnyPinned_2 pF pL n v1 v2 (v3 + 1)
            else
              some 1
def fX0_isAnyPinned (pF : Nat → Int32) (pL : Nat → Int32) (a1 : Int32) (a2 : Int32) : Option (Int32) :=
  fX0_isAnyPinned_2 pF pL 1000 a1 a2 0
theorem mX0_isAnyPinned_18 : Cond.fieldLink RX0 18 "IdleDiscards$Device" "pinLength" "[I" ∈ wsX0_isAnyPinned := by decide +kernel
theorem uX0_isAnyPinned_X0 : ∀ w ∈ wsX00, w ∈ wsX0_isAnyPinned := by decide +kernel
theorem mX0_isAnyPinned_15 : Cond.fieldLink RX0 15 "IdleDiscards$Device" "pinFirst" "[I" ∈ wsX0_isAnyPinned := by decide +kernel
set_option maxRecDepth 100000 in
set_option maxHeartbeats 4000000 in
theorem kX0_isAnyPinned (l : Launch) (g : zG) (h0 h1 h2 h3 h4 : Nat) (b : Nat → Int32) (pF : Nat → Int32) (pL : Nat → Int32) (st : Nat → Int32) (tm : Int32) (qt : Int32) (cm : Int32) (ds : Int32) (dr : Int32) (a1 : Int32) (a2 : Int32) {r : Int32} (h : fX0_isAnyPinned pF pL a1 a2 = some r) : Mr l g yX0_isAnyPinned wsX0_isAnyPinned { frames := 0, cells := 0, slots := 0, locals := 0 } [.ref h0, .int a1, .int a2] (zD g h0 h1 h2 h3 h4 b pF pL st tm qt cm ds dr) (zQi r) := by
  refine zr_in (cc := cX0_isAnyPinned) (maxL := 4) (ret := (some .boolean)) (by decide) rfl (Nat.le_of_ble_eq_true rfl) ?_
  intro p e s m below meth c hx hb hr hml hts hown hlocks hP hK ls hl
  replace hl : lv_has ls 4 [(0, .ref h0), (1, .int a1), (2, .int a2)] := hl
  have loop_2 : ∀ (n : Nat) (v1 : Int32) (v2 : Int32) (v3 : Int32), fX0_isAnyPinned_2 pF pL n v1 v2 v3 = some r → ∀ (ls : Array Slot), lv_has ls 4 [(0, .ref h0), (1, .int v1), (2, .int v2), (3, .int v3)] → W p l e ({ frames := 0, cells := 0, slots := 0, locals := 0 } : Room) s m [.ref h0, .int a1, .int a2].toArray below meth c s.heap [] 0 0 (MQ below (zQi r) [.ref h0, .int a1, .int a2].toArray s 0 0 (fun _ => False)) (F0 m 2 ls []) := by
    intro n
    induction n with
    | zero => intro v1 v2 v3 h ls hl; exact zn h
    | succ n ih =>
      intro v1 v2 v3 h ls hl
      rw [fX0_isAnyPinned_2] at h
      refine lv_iload_n hx hb dX0_isAnyPinned_2 rfl (lv_at hl 3 rfl) ?_
      refine lv_iconst (v := 3) hx hb dX0_isAnyPinned_3 (by decide) ?_
      refine lv_icmp_ge (tgt := 51) hx hb dX0_isAnyPinned_4 (by decide) (fun c1 => ?_) (fun c1 => ?_)
      · replace h := zt c1 h
        refine lv_iconst (v := 0) hx hb dX0_isAnyPinned_51 (by decide) ?_
        cases h
        exact zr_z hx hb hr hlocks (by decide) dX0_isAnyPinned_52
      · replace h := zf c1 h
        refine lv_aload_n hx hb dX0_isAnyPinned_7 rfl (lv_at hl 0 rfl) ?_
        refine va_get (ci := 0) (v := .ref h3) (C := RX0) (T := TX0) (N := 9) hx hb hts uX0_isAnyPinned_X0 hown hK hP 0 rfl rfl 2 (by decide) (hts _ mX0_isAnyPinned_18) (fun _ h9 => h9) rfl dX0_isAnyPinned_8 ?_
        refine lv_iload_n hx hb dX0_isAnyPinned_11 rfl (lv_at hl 3 rfl) ?_
        obtain ⟨i2, h⟩ := zi h
        refine za_ild hx hb hK hP 3 rfl _ rfl i2 dX0_isAnyPinned_12 ?_
        refine lv_if_le (tgt := 45) hx hb dX0_isAnyPinned_13 (by decide) (fun c3 => ?_) (fun c3 => ?_)
        · replace h := zt c3 h
          refine lv_iinc (v := (v3 + 1)) (lv' := [(3, .int (v3 + 1)), (0, .ref h0), (1, .int v1), (2, .int v2)]) hx hb dX0_isAnyPinned_45 hl (k := 3) rfl rfl (by decide) rfl (fun ls hl => ?_)
          refine lv_goto (tgt := 2) hx hb dX0_isAnyPinned_48 (by decide) ?_
          exact ih v1 v2 (v3 + 1) h ls (lv_sub hl [1, 2, 3, 0] rfl)
        · replace h := zf c3 h
          refine lv_aload_n hx hb dX0_isAnyPinned_16 rfl (lv_at hl 0 rfl) ?_
          refine va_get (ci := 0) (v := .ref h2) (C := RX0) (T := TX0) (N := 9) hx hb hts uX0_isAnyPinned_X0 hown hK hP 0 rfl rfl 1 (by decide) (hts _ mX0_isAnyPinned_15) (fun _ h9 => h9) rfl dX0_isAnyPinned_17 ?_
          refine lv_iload_n hx hb dX0_isAnyPinned_20 rfl (lv_at hl 3 rfl) ?_
          obtain ⟨i4, h⟩ := zi h
          refine za_ild hx hb hK hP 2 rfl _ rfl i4 dX0_isAnyPinned_21 ?_
          refine lv_iload_n hx hb dX0_isAnyPinned_22 rfl (lv_at hl 2 rfl) ?_
          refine lv_icmp_ge (tgt := 45) hx hb dX0_isAnyPinned_23 (by decide) (fun c5 => ?_) (fun c5 => ?_)
          · replace h := zt c5 h
            refine lv_iinc (v := (v3 + 1)) (lv' := [(3, .int (v3 + 1)), (0, .ref h0), (1, .int v1), (2, .int v2)]) hx hb dX0_isAnyPinned_45 hl (k := 3) rfl rfl (by decide) rfl (fun ls hl => ?_)
            refine lv_goto (tgt := 2) hx hb dX0_isAnyPinned_48 (by decide) ?_
            exact ih v1 v2 (v3 + 1) h ls (lv_sub hl [1, 2, 3, 0] rfl)
          · replace h := zf c5 h
            refine lv_aload_n hx hb dX0_isAnyPinned_26 rfl (lv_at hl 0 rfl) ?_
            refine va_get (ci := 0) (v := .ref h2) (C := RX0) (T := TX0) (N := 9) hx hb hts uX0_isAnyPinned_X0 hown hK hP 0 rfl rfl 1 (by decide) (hts _ mX0_isAnyPinned_15) (fun _ h9 => h9) rfl dX0_isAnyPinned_27 ?_
            refine lv_iload_n hx hb dX0_isAnyPinned_30 rfl (lv_at hl 3 rfl) ?_
            obtain ⟨i6, h⟩ := zi h
            refine za_ild hx hb hK hP 2 rfl _ rfl i6 dX0_isAnyPinned_31 ?_
            refine lv_aload_n hx hb dX0_isAnyPinned_32 rfl (lv_at hl 0 rfl) ?_
            refine va_get (ci := 0) (v := .ref h3) (C := RX0) (T := TX0) (N := 9) hx hb hts uX0_isAnyPinned_X0 hown hK hP 0 rfl rfl 2 (by decide) (hts _ mX0_isAnyPinned_18) (fun _ h9 => h9) rfl dX0_isAnyPinned_33 ?_
            refine lv_iload_n hx hb dX0_isAnyPinned_36 rfl (lv_at hl 3 rfl) ?_
            obtain ⟨i7, h⟩ := zi h
            refine za_ild hx hb hK hP 3 rfl _ rfl i7 dX0_isAnyPinned_37 ?_
            refine lv_iadd hx hb dX0_isAnyPinned_38 ?_
            refine lv_iload_n hx hb dX0_isAnyPinned_39 rfl (lv_at hl 1 rfl) ?_
            refine lv_icmp_le (tgt := 45) hx hb dX0_isAnyPinned_40 (by decide) (fun c8 => ?_) (fun c8 => ?_)
            · replace h := zt c8 h
              refine lv_iinc (v := (v3 + 1)) (lv' := [(3, .int (v3 + 1)), (0, .ref h0), (1, .int v1), (2, .int v2)]) hx hb dX0_isAnyPinned_45 hl (k := 3) rfl rfl (by decide) rfl (fun ls hl => ?_)
              refine lv_goto (tgt := 2) hx hb dX0_isAnyPinned_48 (by decide) ?_
              exact ih v1 v2 (v3 + 1) h ls (lv_sub hl [1, 2, 3, 0] rfl)
            · replace h := zf c8 h
              refine lv_iconst (v := 1) hx hb dX0_isAnyPinned_43 (by decide) ?_
              cases h
              exact zr_z hx hb hr hlocks (by decide) dX0_isAnyPinned_44
  unfold fX0_isAnyPinned at h
  refine lv_iconst (v := 0) hx hb dX0_isAnyPinned_0 (by decide) ?_
  refine lv_istore_n (lv' := [(3, .int 0), (0, .ref h0), (1, .int a1), (2, .int a2)]) hx hb dX0_isAnyPinned_1 rfl hl (by decide) rfl (fun ls hl => ?_)
  exact loop_2 1000 a1 a2 0 h ls (lv_sub hl [1, 2, 3, 0] rfl)
theorem hdV_X0_isAnyPinned : yX0_isAnyPinned.cls = RX0 ∧ yX0_isAnyPinned.cls ≠ "java/lang/invoke/MethodHandle" ∧ yX0_isAnyPinned.cls ≠ "java/lang/invoke/VarHandle" ∧ (parseMethodDescriptor yX0_isAnyPinned.desc).map (fun d => d.parameters.length) = some 2 := by decide +kernel
def fX0_countPinned_4 (pF : Nat → Int32) (pL : Nat → Int32) : Nat → Int32 → Int32 → Option (Int32)
  | 0, _, _ => none
  | n + 1, v1, v2 =>
    if 256 ≤ v2 then
        some v1
      else
        ob (fX0_isAnyPinned pF pL v2 (v2 + 1)) fun r2 =>
        if r2 = 0 then
          fX0_countPinned_4 pF pL n v1 (v2 + 1)
        else
          fX0_countPinned_4 pF pL n (v1 + 1) (v2 + 1)
def fX0_countPinned (pF : Nat → Int32) (pL : Nat → Int32) : Option (Int32) :=
  fX0_countPinned_4 pF pL 1000 0 0
set_option maxRecDepth 100000 in
set_option maxHeartbeats 4000000 in
theorem kX0_countPinned (l : Launch) (g : zG) (h0 h1 h2 h3 h4 : Nat) (b : Nat → Int32) (pF : Nat → Int32) (pL : Nat → Int32) (st : Nat → Int32) (tm : Int32) (qt : Int32) (cm : Int32) (ds : Int32) (dr : Int32) {r : Int32} (h : fX0_countPinned pF pL = some r) : Mr l g yX0_countPinned wsX0_countPinned { frames := 1, cells := 0, slots := 0, locals := 23 } [.ref h0] (zD g h0 h1 h2 h3 h4 b pF pL st tm qt cm ds dr) (zQi r) := by
  refine zr_in (cc := cX0_countPinned) (maxL := 3) (ret := (some .int)) (by decide) rfl (Nat.le_of_ble_eq_true rfl) ?_
  intro p e s m below meth c hx hb hr hml hts hown hlocks hP hK ls hl
  replace hl : lv_has ls 3 [(0, .ref h0)] := hl
  have loop_4 : ∀ (n : Nat) (v1 : Int32) (v2 : Int32), fX0_countPinned_4 pF pL n v1 v2 = some r → ∀ (ls : Array Slot), lv_has ls 3 [(0, .ref h0), (1, .int v1), (2, .int v2)] → W p l e ({ frames := 1, cells := 0, slots := 0, locals := 23 } : Room) s m [.ref h0].toArray below meth c s.heap [] 0 0 (MQ below (zQi r) [.ref h0].toArray s 0 0 (fun _ => False)) (F0 m 4 ls []) := by
    intro n
    induction n with
    | zero => intro v1 v2 h ls hl; exact zn h
    | succ n ih =>
      intro v1 v2 h ls hl
      rw [fX0_countPinned_4] at h
      refine lv_iload_n hx hb dX0_countPinned_4 rfl (lv_at hl 2 rfl) ?_
      refine lv_sipush (v := 256) hx hb dX0_countPinned_5 (by decide) ?_
      refine lv_icmp_ge (tgt := 31) hx hb dX0_countPinned_8 (by decide) (fun c1 => ?_) (fun c1 => ?_)
      · replace h := zt c1 h
        refine lv_iload_n hx hb dX0_countPinned_31 rfl (lv_at hl 1 rfl) ?_
        cases h
        exact zr_i hx hb hr hlocks dX0_countPinned_32
      · replace h := zf c1 h
        refine lv_aload_n hx hb dX0_countPinned_11 rfl (lv_at hl 0 rfl) ?_
        refine lv_iload_n hx hb dX0_countPinned_12 rfl (lv_at hl 2 rfl) ?_
        refine lv_iload_n hx hb dX0_countPinned_13 rfl (lv_at hl 2 rfl) ?_
        refine lv_iconst (v := 1) hx hb dX0_countPinned_14 (by decide) ?_
        refine lv_iadd hx hb dX0_countPinned_15 ?_
        obtain ⟨r2, e2, h⟩ := zb h
        refine zV (As := [.int v2, .int (v2 + 1)]) (rest := []) (zQi_q _) ⟨hx, hb, hml, hown, hts⟩ (kX0_isAnyPinned l g h0 h1 h2 h3 h4 b pF pL st tm qt cm ds dr v2 (v2 + 1) e2) (cwV 2 hts gX0_countPinned_X0_isAnyPinned rfl rfl rfl hdV_X0_isAnyPinned ⟨Nat.le_of_ble_eq_true rfl, Nat.le_of_ble_eq_true rfl⟩) hK hP [0, 1, 2, 3, 4] rfl 0 rfl rfl rfl hl.1 rfl (Nat.le_of_ble_eq_true rfl) ⟨Nat.zero_le _, Nat.zero_le _⟩ dX0_countPinned_16 ?_
        refine lv_if_eq (tgt := 25) hx hb dX0_countPinned_19 (by decide) (fun c3 => ?_) (fun c3 => ?_)
        · replace h := zt c3 h
          refine lv_iinc (v := (v2 + 1)) (lv' := [(2, .int (v2 + 1)), (0, .ref h0), (1, .int v1)]) hx hb dX0_countPinned_25 hl (k := 2) rfl rfl (by decide) rfl (fun ls hl => ?_)
          refine lv_goto (tgt := 4) hx hb dX0_countPinned_28 (by decide) ?_
          exact ih v1 (v2 + 1) h ls (lv_sub hl [1, 2, 0] rfl)
        · replace h := zf c3 h
          refine lv_iinc (v := (v1 + 1)) (lv' := [(1, .int (v1 + 1)), (0, .ref h0), (2, .int v2)]) hx hb dX0_countPinned_22 hl (k := 1) rfl rfl (by decide) rfl (fun ls hl => ?_)
          refine lv_iinc (v := (v2 + 1)) (lv' := [(2, .int (v2 + 1)), (1, .int (v1 + 1)), (0, .ref h0)]) hx hb dX0_countPinned_25 hl (k := 2) rfl rfl (by decide) rfl (fun ls hl => ?_)
          refine lv_goto (tgt := 4) hx hb dX0_countPinned_28 (by decide) ?_
          exact ih (v1 + 1) (v2 + 1) h ls (lv_sub hl [2, 1, 0] rfl)
  unfold fX0_countPinned at h
  refine lv_iconst (v := 0) hx hb dX0_countPinned_0 (by decide) ?_
  refine lv_istore_n (lv' := [(1, .int 0), (0, .ref h0)]) hx hb dX0_countPinned_1 rfl hl (by decide) rfl (fun ls hl => ?_)
  refine lv_iconst (v := 0) hx hb dX0_countPinned_2 (by decide) ?_
  refine lv_istore_n (lv' := [(2, .int 0), (1, .int 0), (0, .ref h0)]) hx hb dX0_countPinned_3 rfl hl (by decide) rfl (fun ls hl => ?_)
  exact loop_4 1000 0 0 h ls (lv_sub hl [2, 1, 0] rfl)
def fX0_countRanges (b : Nat → Int32) : Option (Int32) :=
  ob (fX0_countRangesAhead b 256) fun r1 =>
  some r1
set_option maxRecDepth 100000 in
set_option maxHeartbeats 4000000 in
theorem kX0_countRanges (l : Launch) (g : zG) (h0 h1 h2 h3 h4 : Nat) (b : Nat → Int32) (pF : Nat → Int32) (pL : Nat → Int32) (st : Nat → Int32) (tm : Int32) (qt : Int32) (cm : Int32) (ds : Int32) (dr : Int32) {r : Int32} (h : fX0_countRanges b = some r) : Mr l g yX0_countRanges wsX0_countRanges { frames := 1, cells := 0, slots := 0, locals := 25 } [.ref h0] (zD g h0 h1 h2 h3 h4 b pF pL st tm qt cm ds dr) (zQi r) := by
  refine zr_in (cc := cX0_countRanges) (maxL := 1) (ret := (some .int)) (by decide) rfl (Nat.le_of_ble_eq_true rfl) ?_
  intro p e s m below meth c hx hb hr hml hts hown hlocks hP hK ls hl
  replace hl : lv_has ls 1 [(0, .ref h0)] := hl
  unfold fX0_countRanges at h
  refine lv_aload_n hx hb dX0_countRanges_0 rfl (lv_at hl 0 rfl) ?_
  refine lv_sipush (v := 256) hx hb dX0_countRanges_1 (by decide) ?_
  obtain ⟨r1, e1, h⟩ := zb h
  refine zV (As := [.int 256]) (rest := []) (zQi_q _) ⟨hx, hb, hml, hown, hts⟩ (kX0_countRangesAhead l g h0 h1 h2 h3 h4 b pF pL st tm qt cm ds dr 256 e1) (cwV 1 hts gX0_countRanges_X0_countRangesAhead rfl rfl rfl hdV_X0_countRangesAhead ⟨Nat.le_of_ble_eq_true rfl, Nat.le_of_ble_eq_true rfl⟩) hK hP [0, 1, 2, 3, 4] rfl 0 rfl rfl rfl hl.1 rfl (Nat.le_of_ble_eq_true rfl) ⟨Nat.zero_le _, Nat.zero_le _⟩ dX0_countRanges_4 ?_
  cases h
  exact zr_i hx hb hr hlocks dX0_countRanges_7
def fX0_rangeOf (b : Nat → Int32) (a1 : Int32) : Option (Int32) :=
  if a1 < 0 ∨ 256 ≤ a1.toNatClampNeg then none else
  if (b a1.toNatClampNeg) < 0 then
    some (-1)
  else
    ob (fX0_countRangesAhead b (a1 + 1)) fun r3 =>
    some (r3 - 1)
theorem mX0_rangeOf_9 : Cond.fieldLink RX0 9 "IdleDiscards$Device" "blocks" "[I" ∈ wsX0_rangeOf := by decide +kernel
theorem uX0_rangeOf_X0 : ∀ w ∈ wsX00, w ∈ wsX0_rangeOf := by decide +kernel
set_option maxRecDepth 100000 in
set_option maxHeartbeats 4000000 in
theorem kX0_rangeOf (l : Launch) (g : zG) (h0 h1 h2 h3 h4 : Nat) (b : Nat → Int32) (pF : Nat → Int32) (pL : Nat → Int32) (st : Nat → Int32) (tm : Int32) (qt : Int32) (cm : Int32) (ds : Int32) (dr : Int32) (a1 : Int32) {r : Int32} (h : fX0_rangeOf b a1 = some r) : Mr l g yX0_rangeOf wsX0_rangeOf { frames := 1, cells := 0, slots := 0, locals := 25 } [.ref h0, .int a1] (zD g h0 h1 h2 h3 h4 b pF pL st tm qt cm ds dr) (zQi r) := by
  refine zr_in (cc := cX0_rangeOf) (maxL := 2) (ret := (some .int)) (by decide) rfl (Nat.le_of_ble_eq_true rfl) ?_
  intro p e s m below meth c hx hb hr hml hts hown hlocks hP hK ls hl
  replace hl : lv_has ls 2 [(0, .ref h0), (1, .int a1)] := hl
  unfold fX0_rangeOf at h
  refine lv_aload_n hx hb dX0_rangeOf_0 rfl (lv_at hl 0 rfl) ?_
  refine va_get (ci := 0) (v := .ref h1) (C := RX0) (T := TX0) (N := 9) hx hb hts uX0_rangeOf_X0 hown hK hP 0 rfl rfl 0 (by decide) (hts _ mX0_rangeOf_9) (fun _ h9 => h9) rfl dX0_rangeOf_1 ?_
  refine lv_iload_n hx hb dX0_rangeOf_4 rfl (lv_at hl 1 rfl) ?_
  obtain ⟨i1, h⟩ := zi h
  refine za_ild hx hb hK hP 1 rfl _ rfl i1 dX0_rangeOf_5 ?_
  refine lv_if_lt (tgt := 21) hx hb dX0_rangeOf_6 (by decide) (fun c2 => ?_) (fun c2 => ?_)
  · replace h := zt c2 h
    refine lv_iconst (v := (-1)) hx hb dX0_rangeOf_21 (by decide) ?_
    cases h
    exact zr_i hx hb hr hlocks dX0_rangeOf_22
  · replace h := zf c2 h
    refine lv_aload_n hx hb dX0_rangeOf_9 rfl (lv_at hl 0 rfl) ?_
    refine lv_iload_n hx hb dX0_rangeOf_10 rfl (lv_at hl 1 rfl) ?_
    refine lv_iconst (v := 1) hx hb dX0_rangeOf_11 (by decide) ?_
    refine lv_iadd hx hb dX0_rangeOf_12 ?_
    obtain ⟨r3, e3, h⟩ := zb h
    refine zV (As := [.int (a1 + 1)]) (rest := []) (zQi_q _) ⟨hx, hb, hml, hown, hts⟩ (kX0_countRangesAhead l g h0 h1 h2 h3 h4 b pF pL st tm qt cm ds dr (a1 + 1) e3) (cwV 1 hts gX0_rangeOf_X0_countRangesAhead rfl rfl rfl hdV_X0_countRangesAhead ⟨Nat.le_of_ble_eq_true rfl, Nat.le_of_ble_eq_true rfl⟩) hK hP [0, 1, 2, 3, 4] rfl 0 rfl rfl rfl hl.1 rfl (Nat.le_of_ble_eq_true rfl) ⟨Nat.zero_le _, Nat.zero_le _⟩ dX0_rangeOf_13 ?_
    refine lv_iconst (v := 1) hx hb dX0_rangeOf_16 (by decide) ?_
    refine lv_isub hx hb dX0_rangeOf_17 ?_
    refine lv_goto (tgt := 22) hx hb dX0_rangeOf_18 (by decide) ?_
    cases h
    exact zr_i hx hb hr hlocks dX0_rangeOf_22
def fX0_firstOfRange_7 (b : Nat → Int32) : Nat → Int32 → Int32 → Int32 → Option (Int32)
  | 0, _, _, _ => none
  | n + 1, v2, v3, v4 =>
    if 256 ≤ v4 then
        some 0
      else
        if v4 < 0 ∨ 256 ≤ v4.toNatClampNeg then none else
        if (b v4.toNatClampNeg) < 0 then
          fX0_firstOfRange_7 b n v2 0 (v4 + 1)
        else
          if v3 = 0 then
            if v2 = 0 then
              some v4
            else
              fX0_firstOfRange_7 b n (v2 + (-1)) 1 (v4 + 1)
          else
            fX0_firstOfRange_7 b n v2 1 (v4 + 1)
def fX0_firstOfRange (b : Nat → Int32) (a1 : Int32) : Option (Int32) :=
  fX0_firstOfRange_7 b 1000 a1 0 0
theorem mX0_firstOfRange_9 : Cond.fieldLink RX0 9 "IdleDiscards$Device" "blocks" "[I" ∈ wsX0_firstOfRange := by decide +kernel
theorem uX0_firstOfRange_X0 : ∀ w ∈ wsX00, w ∈ wsX0_firstOfRange := by decide +kernel
set_option maxRecDepth 100000 in
set_option maxHeartbeats 4000000 in
theorem kX0_firstOfRange (l : Launch) (g : zG) (h0 h1 h2 h3 h4 : Nat) (b : Nat → Int32) (pF : Nat → Int32) (pL : Nat → Int32) (st : Nat → Int32) (tm : Int32) (qt : Int32) (cm : Int32) (ds : Int32) (dr : Int32) (a1 : Int32) {r : Int32} (h : fX0_firstOfRange b a1 = some r) : Mr l g yX0_firstOfRange wsX0_firstOfRange { frames := 0, cells := 0, slots := 0, locals := 0 } [.ref h0, .int a1] (zD g h0 h1 h2 h3 h4 b pF pL st tm qt cm ds dr) (zQi r) := by
  refine zr_in (cc := cX0_firstOfRange) (maxL := 6) (ret := (some .int)) (by decide) rfl (Nat.le_of_ble_eq_true rfl) ?_
  intro p e s m below meth c hx hb hr hml hts hown hlocks hP hK ls hl
  replace hl : lv_has ls 6 [(0, .ref h0), (1, .int a1)] := hl
  have loop_7 : ∀ (n : Nat) (v2 : Int32) (v3 : Int32) (v4 : Int32), fX0_firstOfRange_7 b n v2 v3 v4 = some r → ∀ (ls : Array Slot), lv_has ls 6 [(0, .ref h0), (2, .int v2), (3, .int v3), (4, .int v4)] → W p l e ({ frames := 0, cells := 0, slots := 0, locals := 0 } : Room) s m [.ref h0, .int a1].toArray below meth c s.heap [] 0 0 (MQ below (zQi r) [.ref h0, .int a1].toArray s 0 0 (fun _ => False)) (F0 m 7 ls []) := by
    intro n
    induction n with
    | zero => intro v2 v3 v4 h ls hl; exact zn h
    | succ n ih =>
      intro v2 v3 v4 h ls hl
      rw [fX0_firstOfRange_7] at h
      refine lv_iload hx hb dX0_firstOfRange_7 (lv_at hl 3 rfl) ?_
      refine lv_sipush (v := 256) hx hb dX0_firstOfRange_9 (by decide) ?_
      refine lv_icmp_ge (tgt := 60) hx hb dX0_firstOfRange_12 (by decide) (fun c1 => ?_) (fun c1 => ?_)
      · replace h := zt c1 h
        refine lv_iconst (v := 0) hx hb dX0_firstOfRange_60 (by decide) ?_
        cases h
        exact zr_i hx hb hr hlocks dX0_firstOfRange_61
      · replace h := zf c1 h
        refine lv_aload_n hx hb dX0_firstOfRange_15 rfl (lv_at hl 0 rfl) ?_
        refine va_get (ci := 0) (v := .ref h1) (C := RX0) (T := TX0) (N := 9) hx hb hts uX0_firstOfRange_X0 hown hK hP 0 rfl rfl 0 (by decide) (hts _ mX0_firstOfRange_9) (fun _ h9 => h9) rfl dX0_firstOfRange_16 ?_
        refine lv_iload hx hb dX0_firstOfRange_19 (lv_at hl 3 rfl) ?_
        obtain ⟨i2, h⟩ := zi h
        refine za_ild hx hb hK hP 1 rfl _ rfl i2 dX0_firstOfRange_21 ?_
        refine lv_if_lt (tgt := 29) hx hb dX0_firstOfRange_22 (by decide) (fun c3 => ?_) (fun c3 => ?_)
        · replace h := zt c3 h
          refine lv_iconst (v := 0) hx hb dX0_firstOfRange_29 (by decide) ?_
          refine lv_istore (lv' := [(5, .int 0), (0, .ref h0), (2, .int v2), (3, .int v3), (4, .int v4)]) hx hb dX0_firstOfRange_30 hl (by decide) rfl (fun ls hl => ?_)
          refine lv_iload hx hb dX0_firstOfRange_32 (lv_at hl 0 rfl) ?_
          refine lv_if_eq (tgt := 51) hx hb dX0_firstOfRange_34 (by decide) (fun _ => ?_) (fun c4 => absurd (by decide) c4)
          refine lv_iload hx hb dX0_firstOfRange_51 (lv_at hl 0 rfl) ?_
          refine lv_istore_n (lv' := [(3, .int 0), (5, .int 0), (0, .ref h0), (2, .int v2), (4, .int v4)]) hx hb dX0_firstOfRange_53 rfl hl (by decide) rfl (fun ls hl => ?_)
          refine lv_iinc (v := (v4 + 1)) (lv' := [(4, .int (v4 + 1)), (3, .int 0), (5, .int 0), (0, .ref h0), (2, .int v2)]) hx hb dX0_firstOfRange_54 hl (k := 4) rfl rfl (by decide) rfl (fun ls hl => ?_)
          refine lv_goto (tgt := 7) hx hb dX0_firstOfRange_57 (by decide) ?_
          exact ih v2 0 (v4 + 1) h ls (lv_sub hl [3, 4, 1, 0] rfl)
        · replace h := zf c3 h
          refine lv_iconst (v := 1) hx hb dX0_firstOfRange_25 (by decide) ?_
          refine lv_goto (tgt := 30) hx hb dX0_firstOfRange_26 (by decide) ?_
          refine lv_istore (lv' := [(5, .int 1), (0, .ref h0), (2, .int v2), (3, .int v3), (4, .int v4)]) hx hb dX0_firstOfRange_30 hl (by decide) rfl (fun ls hl => ?_)
          refine lv_iload hx hb dX0_firstOfRange_32 (lv_at hl 0 rfl) ?_
          refine lv_if_eq (tgt := 51) hx hb dX0_firstOfRange_34 (by decide) (fun c5 => absurd c5 (by decide)) (fun _ => ?_)
          refine lv_iload_n hx hb dX0_firstOfRange_37 rfl (lv_at hl 3 rfl) ?_
          refine lv_if_ne (tgt := 51) hx hb dX0_firstOfRange_38 (by decide) (fun c6 => ?_) (fun c6 => ?_)
          · replace h := zf c6 h
            refine lv_iload hx hb dX0_firstOfRange_51 (lv_at hl 0 rfl) ?_
            refine lv_istore_n (lv' := [(3, .int 1), (5, .int 1), (0, .ref h0), (2, .int v2), (4, .int v4)]) hx hb dX0_firstOfRange_53 rfl hl (by decide) rfl (fun ls hl => ?_)
            refine lv_iinc (v := (v4 + 1)) (lv' := [(4, .int (v4 + 1)), (3, .int 1), (5, .int 1), (0, .ref h0), (2, .int v2)]) hx hb dX0_firstOfRange_54 hl (k := 4) rfl rfl (by decide) rfl (fun ls hl => ?_)
            refine lv_goto (tgt := 7) hx hb dX0_firstOfRange_57 (by decide) ?_
            exact ih v2 1 (v4 + 1) h ls (lv_sub hl [3, 4, 1, 0] rfl)
          · replace h := zt c6 h
            refine lv_iload_n hx hb dX0_firstOfRange_41 rfl (lv_at hl 2 rfl) ?_
            refine lv_if_ne (tgt := 48) hx hb dX0_firstOfRange_42 (by decide) (fun c7 => ?_) (fun c7 => ?_)
            · replace h := zf c7 h
              refine lv_iinc (v := (v2 + (-1))) (lv' := [(2, .int (v2 + (-1))), (5, .int 1), (0, .ref h0), (3, .int v3), (4, .int v4)]) hx hb dX0_firstOfRange_48 hl (k := 2) rfl rfl (by decide) rfl (fun ls hl => ?_)
              refine lv_iload hx hb dX0_firstOfRange_51 (lv_at hl 1 rfl) ?_
              refine lv_istore_n (lv' := [(3, .int 1), (2, .int (v2 + (-1))), (5, .int 1), (0, .ref h0), (4, .int v4)]) hx hb dX0_firstOfRange_53 rfl hl (by decide) rfl (fun ls hl => ?_)
              refine lv_iinc (v := (v4 + 1)) (lv' := [(4, .int (v4 + 1)), (3, .int 1), (2, .int (v2 + (-1))), (5, .int 1), (0, .ref h0)]) hx hb dX0_firstOfRange_54 hl (k := 4) rfl rfl (by decide) rfl (fun ls hl => ?_)
              refine lv_goto (tgt := 7) hx hb dX0_firstOfRange_57 (by decide) ?_
              exact ih (v2 + (-1)) 1 (v4 + 1) h ls (lv_sub hl [4, 2, 1, 0] rfl)
            · replace h := zt c7 h
              refine lv_iload hx hb dX0_firstOfRange_45 (lv_at hl 4 rfl) ?_
              cases h
              exact zr_i hx hb hr hlocks dX0_firstOfRange_47
  unfold fX0_firstOfRange at h
  refine lv_iload_n hx hb dX0_firstOfRange_0 rfl (lv_at hl 1 rfl) ?_
  refine lv_istore_n (lv' := [(2, .int a1), (0, .ref h0), (1, .int a1)]) hx hb dX0_firstOfRange_1 rfl hl (by decide) rfl (fun ls hl => ?_)
  refine lv_iconst (v := 0) hx hb dX0_firstOfRange_2 (by decide) ?_
  refine lv_istore_n (lv' := [(3, .int 0), (2, .int a1), (0, .ref h0), (1, .int a1)]) hx hb dX0_firstOfRange_3 rfl hl (by decide) rfl (fun ls hl => ?_)
  refine lv_iconst (v := 0) hx hb dX0_firstOfRange_4 (by decide) ?_
  refine lv_istore (lv' := [(4, .int 0), (3, .int 0), (2, .int a1), (0, .ref h0), (1, .int a1)]) hx hb dX0_firstOfRange_5 hl (by decide) rfl (fun ls hl => ?_)
  exact loop_7 1000 a1 0 0 h ls (lv_sub hl [3, 2, 1, 0] rfl)
def fX0_endOfRange_2 (b : Nat → Int32) : Nat → Int32 → Option (Int32)
  | 0, _ => none
  | n + 1, v2 =>
    if 256 ≤ v2 then
        some v2
      else
        if v2 < 0 ∨ 256 ≤ v2.toNatClampNeg then none else
        if (b v2.toNatClampNeg) < 0 then
          some v2
        else
          fX0_endOfRange_2 b n (v2 + 1)
def fX0_endOfRange (b : Nat → Int32) (a1 : Int32) : Option (Int32) :=
  fX0_endOfRange_2 b 1000 a1
theorem mX0_endOfRange_9 : Cond.fieldLink RX0 9 "IdleDiscards$Device" "blocks" "[I" ∈ wsX0_endOfRange := by decide +kernel
theorem uX0_endOfRange_X0 : ∀ w ∈ wsX00, w ∈ wsX0_endOfRange := by decide +kernel
set_option maxRecDepth 100000 in
set_option maxHeartbeats 4000000 in
theorem kX0_endOfRange (l : Launch) (g : zG) (h0 h1 h2 h3 h4 : Nat) (b : Nat → Int32) (pF : Nat → Int32) (pL : Nat → Int32) (st : Nat → Int32) (tm : Int32) (qt : Int32) (cm : Int32) (ds : Int32) (dr : Int32) (a1 : Int32) {r : Int32} (h : fX0_endOfRange b a1 = some r) : Mr l g yX0_endOfRange wsX0_endOfRange { frames := 0, cells := 0, slots := 0, locals := 0 } [.ref h0, .int a1] (zD g h0 h1 h2 h3 h4 b pF pL st tm qt cm ds dr) (zQi r) := by
  refine zr_in (cc := cX0_endOfRange) (maxL := 3) (ret := (some .int)) (by decide) rfl (Nat.le_of_ble_eq_true rfl) ?_
  intro p e s m below meth c hx hb hr hml hts hown hlocks hP hK ls hl
  replace hl : lv_has ls 3 [(0, .ref h0), (1, .int a1)] := hl
  have loop_2 : ∀ (n : Nat) (v2 : Int32), fX0_endOfRange_2 b n v2 = some r → ∀ (ls : Array Slot), lv_has ls 3 [(0, .ref h0), (2, .int v2)] → W p l e ({ frames := 0, cells := 0, slots := 0, locals := 0 } : Room) s m [.ref h0, .int a1].toArray below meth c s.heap [] 0 0 (MQ below (zQi r) [.ref h0, .int a1].toArray s 0 0 (fun _ => False)) (F0 m 2 ls []) := by
    intro n
    induction n with
    | zero => intro v2 h ls hl; exact zn h
    | succ n ih =>
      intro v2 h ls hl
      rw [fX0_endOfRange_2] at h
      refine lv_iload_n hx hb dX0_endOfRange_2 rfl (lv_at hl 1 rfl) ?_
      refine lv_sipush (v := 256) hx hb dX0_endOfRange_3 (by decide) ?_
      refine lv_icmp_ge (tgt := 24) hx hb dX0_endOfRange_6 (by decide) (fun c1 => ?_) (fun c1 => ?_)
      · replace h := zt c1 h
        refine lv_iload_n hx hb dX0_endOfRange_24 rfl (lv_at hl 1 rfl) ?_
        cases h
        exact zr_i hx hb hr hlocks dX0_endOfRange_25
      · replace h := zf c1 h
        refine lv_aload_n hx hb dX0_endOfRange_9 rfl (lv_at hl 0 rfl) ?_
        refine va_get (ci := 0) (v := .ref h1) (C := RX0) (T := TX0) (N := 9) hx hb hts uX0_endOfRange_X0 hown hK hP 0 rfl rfl 0 (by decide) (hts _ mX0_endOfRange_9) (fun _ h9 => h9) rfl dX0_endOfRange_10 ?_
        refine lv_iload_n hx hb dX0_endOfRange_13 rfl (lv_at hl 1 rfl) ?_
        obtain ⟨i2, h⟩ := zi h
        refine za_ild hx hb hK hP 1 rfl _ rfl i2 dX0_endOfRange_14 ?_
        refine lv_if_lt (tgt := 24) hx hb dX0_endOfRange_15 (by decide) (fun c3 => ?_) (fun c3 => ?_)
        · replace h := zt c3 h
          refine lv_iload_n hx hb dX0_endOfRange_24 rfl (lv_at hl 1 rfl) ?_
          cases h
          exact zr_i hx hb hr hlocks dX0_endOfRange_25
        · replace h := zf c3 h
          refine lv_iinc (v := (v2 + 1)) (lv' := [(2, .int (v2 + 1)), (0, .ref h0)]) hx hb dX0_endOfRange_18 hl (k := 1) rfl rfl (by decide) rfl (fun ls hl => ?_)
          refine lv_goto (tgt := 2) hx hb dX0_endOfRange_21 (by decide) ?_
          exact ih (v2 + 1) h ls (lv_sub hl [1, 0] rfl)
  unfold fX0_endOfRange at h
  refine lv_iload_n hx hb dX0_endOfRange_0 rfl (lv_at hl 1 rfl) ?_
  refine lv_istore_n (lv' := [(2, .int a1), (0, .ref h0), (1, .int a1)]) hx hb dX0_endOfRange_1 rfl hl (by decide) rfl (fun ls hl => ?_)
  exact loop_2 1000 a1 h ls (lv_sub hl [1, 0] rfl)
def fX0_timeOf (b : Nat → Int32) (a1 : Int32) : Option (Int32) :=
  if a1 < 0 ∨ 256 ≤ a1.toNatClampNeg then none else
  some (b a1.toNatClampNeg)
theorem mX0_timeOf_9 : Cond.fieldLink RX0 9 "IdleDiscards$Device" "blocks" "[I" ∈ wsX0_timeOf := by decide +kernel
theorem uX0_timeOf_X0 : ∀ w ∈ wsX00, w ∈ wsX0_timeOf := by decide +kernel
set_option maxRecDepth 100000 in
set_option maxHeartbeats 4000000 in
theorem kX0_timeOf (l : Launch) (g : zG) (h0 h1 h2 h3 h4 : Nat) (b : Nat → Int32) (pF : Nat → Int32) (pL : Nat → Int32) (st : Nat → Int32) (tm : Int32) (qt : Int32) (cm : Int32) (ds : Int32) (dr : Int32) (a1 : Int32) {r : Int32} (h : fX0_timeOf b a1 = some r) : Mr l g yX0_timeOf wsX0_timeOf { frames := 0, cells := 0, slots := 0, locals := 0 } [.ref h0, .int a1] (zD g h0 h1 h2 h3 h4 b pF pL st tm qt cm ds dr) (zQi r) := by
  refine zr_in (cc := cX0_timeOf) (maxL := 2) (ret := (some .int)) (by decide) rfl (Nat.le_of_ble_eq_true rfl) ?_
  intro p e s m below meth c hx hb hr hml hts hown hlocks hP hK ls hl
  replace hl : lv_has ls 2 [(0, .ref h0), (1, .int a1)] := hl
  unfold fX0_timeOf at h
  refine lv_aload_n hx hb dX0_timeOf_0 rfl (lv_at hl 0 rfl) ?_
  refine va_get (ci := 0) (v := .ref h1) (C := RX0) (T := TX0) (N := 9) hx hb hts uX0_timeOf_X0 hown hK hP 0 rfl rfl 0 (by decide) (hts _ mX0_timeOf_9) (fun _ h9 => h9) rfl dX0_timeOf_1 ?_
  refine lv_iload_n hx hb dX0_timeOf_4 rfl (lv_at hl 1 rfl) ?_
  obtain ⟨i1, h⟩ := zi h
  refine za_ild hx hb hK hP 1 rfl _ rfl i1 dX0_timeOf_5 ?_
  cases h
  exact zr_i hx hb hr hlocks dX0_timeOf_6
def fX0_isDue (b : Nat → Int32) (st : Nat → Int32) (tm : Int32) (a1 : Int32) : Option (Int32) :=
  if a1 < 0 ∨ 256 ≤ a1.toNatClampNeg then none else
  if (tm - (b a1.toNatClampNeg)) < (st 3) then
    some 0
  else
    some 1
theorem mX0_isDue_42 : Cond.fieldLink RX0 42 "IdleDiscards$Device" "time" "I" ∈ wsX0_isDue := by decide +kernel
theorem uX0_isDue_X0 : ∀ w ∈ wsX00, w ∈ wsX0_isDue := by decide +kernel
theorem mX0_isDue_9 : Cond.fieldLink RX0 9 "IdleDiscards$Device" "blocks" "[I" ∈ wsX0_isDue := by decide +kernel
theorem mX0_isDue_21 : Cond.fieldLink RX0 21 "IdleDiscards$Device" "settings" "[I" ∈ wsX0_isDue := by decide +kernel
set_option maxRecDepth 100000 in
set_option maxHeartbeats 4000000 in
theorem kX0_isDue (l : Launch) (g : zG) (h0 h1 h2 h3 h4 : Nat) (b : Nat → Int32) (pF : Nat → Int32) (pL : Nat → Int32) (st : Nat → Int32) (tm : Int32) (qt : Int32) (cm : Int32) (ds : Int32) (dr : Int32) (a1 : Int32) {r : Int32} (h : fX0_isDue b st tm a1 = some r) : Mr l g yX0_isDue wsX0_isDue { frames := 0, cells := 0, slots := 0, locals := 0 } [.ref h0, .int a1] (zD g h0 h1 h2 h3 h4 b pF pL st tm qt cm ds dr) (zQi r) := by
  refine zr_in (cc := cX0_isDue) (maxL := 2) (ret := (some .boolean)) (by decide) rfl (Nat.le_of_ble_eq_true rfl) ?_
  intro p e s m below meth c hx hb hr hml hts hown hlocks hP hK ls hl
  replace hl : lv_has ls 2 [(0, .ref h0), (1, .int a1)] := hl
  unfold fX0_isDue at h
  refine lv_aload_n hx hb dX0_isDue_0 rfl (lv_at hl 0 rfl) ?_
  refine va_get (ci := 0) (v := .int tm) (C := RX0) (T := TX0) (N := 9) hx hb hts uX0_isDue_X0 hown hK hP 0 rfl rfl 4 (by decide) (hts _ mX0_isDue_42) (fun _ h9 => h9) rfl dX0_isDue_1 ?_
  refine lv_aload_n hx hb dX0_isDue_4 rfl (lv_at hl 0 rfl) ?_
  refine va_get (ci := 0) (v := .ref h1) (C := RX0) (T := TX0) (N := 9) hx hb hts uX0_isDue_X0 hown hK hP 0 rfl rfl 0 (by decide) (hts _ mX0_isDue_9) (fun _ h9 => h9) rfl dX0_isDue_5 ?_
  refine lv_iload_n hx hb dX0_isDue_8 rfl (lv_at hl 1 rfl) ?_
  obtain ⟨i1, h⟩ := zi h
  refine za_ild hx hb hK hP 1 rfl _ rfl i1 dX0_isDue_9 ?_
  refine lv_isub hx hb dX0_isDue_10 ?_
  refine lv_aload_n hx hb dX0_isDue_11 rfl (lv_at hl 0 rfl) ?_
  refine va_get (ci := 0) (v := .ref h4) (C := RX0) (T := TX0) (N := 9) hx hb hts uX0_isDue_X0 hown hK hP 0 rfl rfl 3 (by decide) (hts _ mX0_isDue_21) (fun _ h9 => h9) rfl dX0_isDue_12 ?_
  refine lv_iconst (v := 3) hx hb dX0_isDue_15 (by decide) ?_
  refine za_ild hx hb hK hP 4 rfl 3 (by decide) (by decide) dX0_isDue_16 ?_
  refine lv_icmp_lt (tgt := 24) hx hb dX0_isDue_17 (by decide) (fun c2 => ?_) (fun c2 => ?_)
  · replace h := zt c2 h
    refine lv_iconst (v := 0) hx hb dX0_isDue_24 (by decide) ?_
    cases h
    exact zr_z hx hb hr hlocks (by decide) dX0_isDue_25
  · replace h := zf c2 h
    refine lv_iconst (v := 1) hx hb dX0_isDue_20 (by decide) ?_
    refine lv_goto (tgt := 25) hx hb dX0_isDue_21 (by decide) ?_
    cases h
    exact zr_z hx hb hr hlocks (by decide) dX0_isDue_25
def fX0_granuleSize (st : Nat → Int32) : Option (Int32) :=
  some (1 <<< ((st 0) &&& 31))
theorem mX0_granuleSize_21 : Cond.fieldLink RX0 21 "IdleDiscards$Device" "settings" "[I" ∈ wsX0_granuleSize := by decide +kernel
theorem uX0_granuleSize_X0 : ∀ w ∈ wsX00, w ∈ wsX0_granuleSize := by decide +kernel
set_option maxRecDepth 100000 in
set_option maxHeartbeats 4000000 in
theorem kX0_granuleSize (l : Launch) (g : zG) (h0 h1 h2 h3 h4 : Nat) (b : Nat → Int32) (pF : Nat → Int32) (pL : Nat → Int32) (st : Nat → Int32) (tm : Int32) (qt : Int32) (cm : Int32) (ds : Int32) (dr : Int32) {r : Int32} (h : fX0_granuleSize st = some r) : Mr l g yX0_granuleSize wsX0_granuleSize { frames := 0, cells := 0, slots := 0, locals := 0 } [.ref h0] (zD g h0 h1 h2 h3 h4 b pF pL st tm qt cm ds dr) (zQi r) := by
  refine zr_in (cc := cX0_granuleSize) (maxL := 1) (ret := (some .int)) (by decide) rfl (Nat.le_of_ble_eq_true rfl) ?_
  intro p e s m below meth c hx hb hr hml hts hown hlocks hP hK ls hl
  replace hl : lv_has ls 1 [(0, .ref h0)] := hl
  unfold fX0_granuleSize at h
  refine lv_iconst (v := 1) hx hb dX0_granuleSize_0 (by decide) ?_
  refine lv_aload_n hx hb dX0_granuleSize_1 rfl (lv_at hl 0 rfl) ?_
  refine va_get (ci := 0) (v := .ref h4) (C := RX0) (T := TX0) (N := 9) hx hb hts uX0_granuleSize_X0 hown hK hP 0 rfl rfl 3 (by decide) (hts _ mX0_granuleSize_21) (fun _ h9 => h9) rfl dX0_granuleSize_2 ?_
  refine lv_iconst (v := 0) hx hb dX0_granuleSize_5 (by decide) ?_
  refine za_ild hx hb hK hP 4 rfl 0 (by decide) (by decide) dX0_granuleSize_6 ?_
  refine lv_ishl hx hb dX0_granuleSize_7 ?_
  cases h
  exact zr_i hx hb hr hlocks dX0_granuleSize_8
theorem hdV_X0_granuleSize : yX0_granuleSize.cls = RX0 ∧ yX0_granuleSize.cls ≠ "java/lang/invoke/MethodHandle" ∧ yX0_granuleSize.cls ≠ "java/lang/invoke/VarHandle" ∧ (parseMethodDescriptor yX0_granuleSize.desc).map (fun d => d.parameters.length) = some 0 := by decide +kernel
def fX0_isFree_32 (b : Nat → Int32) (pF : Nat → Int32) (pL : Nat → Int32) : Nat → Int32 → Int32 → Int32 → Option (Int32)
  | 0, _, _, _ => none
  | n + 1, v2, v3, v4 =>
    if v3 ≤ v4 then
        ob (fX0_isAnyPinned pF pL v2 v3) fun r2 =>
        if r2 = 0 then
          some 1
        else
          some 0
      else
        if v4 < 0 ∨ 256 ≤ v4.toNatClampNeg then none else
        if 0 ≤ (b v4.toNatClampNeg) then
          fX0_isFree_32 b pF pL n v2 v3 (v4 + 1)
        else
          some 0
def fX0_isFree (b : Nat → Int32) (pF : Nat → Int32) (pL : Nat → Int32) (st : Nat → Int32) (a1 : Int32) : Option (Int32) :=
  ob (fX0_granuleSize st) fun r6 =>
  if (a1 <<< ((st 0) &&& 31)) < 0 then
    some 0
  else
    if ((a1 <<< ((st 0) &&& 31)) + r6) ≤ 256 then
      fX0_isFree_32 b pF pL 1000 (a1 <<< ((st 0) &&& 31)) ((a1 <<< ((st 0) &&& 31)) + r6) (a1 <<< ((st 0) &&& 31))
    else
      some 0
theorem mX0_isFree_9 : Cond.fieldLink RX0 9 "IdleDiscards$Device" "blocks" "[I" ∈ wsX0_isFree := by decide +kernel
theorem uX0_isFree_X0 : ∀ w ∈ wsX00, w ∈ wsX0_isFree := by decide +kernel
theorem mX0_isFree_21 : Cond.fieldLink RX0 21 "IdleDiscards$Device" "settings" "[I" ∈ wsX0_isFree := by decide +kernel
set_option maxRecDepth 100000 in
set_option maxHeartbeats 4000000 in
theorem kX0_isFree (l : Launch) (g : zG) (h0 h1 h2 h3 h4 : Nat) (b : Nat → Int32) (pF : Nat → Int32) (pL : Nat → Int32) (st : Nat → Int32) (tm : Int32) (qt : Int32) (cm : Int32) (ds : Int32) (dr : Int32) (a1 : Int32) {r : Int32} (h : fX0_isFree b pF pL st a1 = some r) : Mr l g yX0_isFree wsX0_isFree { frames := 1, cells := 0, slots := 0, locals := 23 } [.ref h0, .int a1] (zD g h0 h1 h2 h3 h4 b pF pL st tm qt cm ds dr) (zQi r) := by
  refine zr_in (cc := cX0_isFree) (maxL := 5) (ret := (some .boolean)) (by decide) rfl (Nat.le_of_ble_eq_true rfl) ?_
  intro p e s m below meth c hx hb hr hml hts hown hlocks hP hK ls hl
  replace hl : lv_has ls 5 [(0, .ref h0), (1, .int a1)] := hl
  have loop_32 : ∀ (n : Nat) (v2 : Int32) (v3 : Int32) (v4 : Int32), fX0_isFree_32 b pF pL n v2 v3 v4 = some r → ∀ (ls : Array Slot), lv_has ls 5 [(0, .ref h0), (2, .int v2), (3, .int v3), (4, .int v4)] → W p l e ({ frames := 1, cells := 0, slots := 0, locals := 23 } : Room) s m [.ref h0, .int a1].toArray below meth c s.heap [] 0 0 (MQ below (zQi r) [.ref h0, .int a1].toArray s 0 0 (fun _ => False)) (F0 m 32 ls []) := by
    intro n
    induction n with
    | zero => intro v2 v3 v4 h ls hl; exact zn h
    | succ n ih =>
      intro v2 v3 v4 h ls hl
      rw [fX0_isFree_32] at h
      refine lv_iload hx hb dX0_isFree_32 (lv_at hl 3 rfl) ?_
      refine lv_iload_n hx hb dX0_isFree_34 rfl (lv_at hl 2 rfl) ?_
      refine lv_icmp_ge (tgt := 56) hx hb dX0_isFree_35 (by decide) (fun c1 => ?_) (fun c1 => ?_)
      · replace h := zt c1 h
        refine lv_aload_n hx hb dX0_isFree_56 rfl (lv_at hl 0 rfl) ?_
        refine lv_iload_n hx hb dX0_isFree_57 rfl (lv_at hl 1 rfl) ?_
        refine lv_iload_n hx hb dX0_isFree_58 rfl (lv_at hl 2 rfl) ?_
        obtain ⟨r2, e2, h⟩ := zb h
        refine zV (As := [.int v2, .int v3]) (rest := []) (zQi_q _) ⟨hx, hb, hml, hown, hts⟩ (kX0_isAnyPinned l g h0 h1 h2 h3 h4 b pF pL st tm qt cm ds dr v2 v3 e2) (cwV 2 hts gX0_isFree_X0_isAnyPinned rfl rfl rfl hdV_X0_isAnyPinned ⟨Nat.le_of_ble_eq_true rfl, Nat.le_of_ble_eq_true rfl⟩) hK hP [0, 1, 2, 3, 4] rfl 0 rfl rfl rfl hl.1 rfl (Nat.le_of_ble_eq_true rfl) ⟨Nat.zero_le _, Nat.zero_le _⟩ dX0_isFree_59 ?_
        refine lv_if_ne (tgt := 69) hx hb dX0_isFree_62 (by decide) (fun c3 => ?_) (fun c3 => ?_)
        · replace h := zf c3 h
          refine lv_iconst (v := 0) hx hb dX0_isFree_69 (by decide) ?_
          cases h
          exact zr_z hx hb hr hlocks (by decide) dX0_isFree_70
        · replace h := zt c3 h
          refine lv_iconst (v := 1) hx hb dX0_isFree_65 (by decide) ?_
          refine lv_goto (tgt := 70) hx hb dX0_isFree_66 (by decide) ?_
          cases h
          exact zr_z hx hb hr hlocks (by decide) dX0_isFree_70
      · replace h := zf c1 h
        refine lv_aload_n hx hb dX0_isFree_38 rfl (lv_at hl 0 rfl) ?_
        refine va_get (ci := 0) (v := .ref h1) (C := RX0) (T := TX0) (N := 9) hx hb hts uX0_isFree_X0 hown hK hP 0 rfl rfl 0 (by decide) (hts _ mX0_isFree_9) (fun _ h9 => h9) rfl dX0_isFree_39 ?_
        refine lv_iload hx hb dX0_isFree_42 (lv_at hl 3 rfl) ?_
        obtain ⟨i4, h⟩ := zi h
        refine za_ild hx hb hK hP 1 rfl _ rfl i4 dX0_isFree_44 ?_
        refine lv_if_ge (tgt := 50) hx hb dX0_isFree_45 (by decide) (fun c5 => ?_) (fun c5 => ?_)
        · replace h := zt c5 h
          refine lv_iinc (v := (v4 + 1)) (lv' := [(4, .int (v4 + 1)), (0, .ref h0), (2, .int v2), (3, .int v3)]) hx hb dX0_isFree_50 hl (k := 3) rfl rfl (by decide) rfl (fun ls hl => ?_)
          refine lv_goto (tgt := 32) hx hb dX0_isFree_53 (by decide) ?_
          exact ih v2 v3 (v4 + 1) h ls (lv_sub hl [1, 2, 3, 0] rfl)
        · replace h := zf c5 h
          refine lv_iconst (v := 0) hx hb dX0_isFree_48 (by decide) ?_
          cases h
          exact zr_z hx hb hr hlocks (by decide) dX0_isFree_49
  unfold fX0_isFree at h
  refine lv_iload_n hx hb dX0_isFree_0 rfl (lv_at hl 1 rfl) ?_
  refine lv_aload_n hx hb dX0_isFree_1 rfl (lv_at hl 0 rfl) ?_
  refine va_get (ci := 0) (v := .ref h4) (C := RX0) (T := TX0) (N := 9) hx hb hts uX0_isFree_X0 hown hK hP 0 rfl rfl 3 (by decide) (hts _ mX0_isFree_21) (fun _ h9 => h9) rfl dX0_isFree_2 ?_
  refine lv_iconst (v := 0) hx hb dX0_isFree_5 (by decide) ?_
  refine za_ild hx hb hK hP 4 rfl 0 (by decide) (by decide) dX0_isFree_6 ?_
  refine lv_ishl hx hb dX0_isFree_7 ?_
  refine lv_istore_n (lv' := [(2, .int (a1 <<< ((st 0) &&& 31))), (0, .ref h0), (1, .int a1)]) hx hb dX0_isFree_8 rfl hl (by decide) rfl (fun ls hl => ?_)
  refine lv_iload_n hx hb dX0_isFree_9 rfl (lv_at hl 0 rfl) ?_
  refine lv_aload_n hx hb dX0_isFree_10 rfl (lv_at hl 1 rfl) ?_
  obtain ⟨r6, e6, h⟩ := zb h
  refine zV (As := []) (rest := [.int (a1 <<< ((st 0) &&& 31))]) (zQi_q _) ⟨hx, hb, hml, hown, hts⟩ (kX0_granuleSize l g h0 h1 h2 h3 h4 b pF pL st tm qt cm ds dr e6) (cwV 0 hts gX0_isFree_X0_granuleSize rfl rfl rfl hdV_X0_granuleSize ⟨Nat.le_of_ble_eq_true rfl, Nat.le_of_ble_eq_true rfl⟩) hK hP [0, 1, 2, 3, 4] rfl 0 rfl rfl rfl hl.1 rfl (Nat.le_of_ble_eq_true rfl) ⟨Nat.zero_le _, Nat.zero_le _⟩ dX0_isFree_11 ?_
  refine lv_iadd hx hb dX0_isFree_14 ?_
  refine lv_istore_n (lv' := [(3, .int ((a1 <<< ((st 0) &&& 31)) + r6)), (2, .int (a1 <<< ((st 0) &&& 31))), (0, .ref h0), (1, .int a1)]) hx hb dX0_isFree_15 rfl hl (by decide) rfl (fun ls hl => ?_)
  refine lv_iload_n hx hb dX0_isFree_16 rfl (lv_at hl 1 rfl) ?_
  refine lv_if_lt (tgt := 27) hx hb dX0_isFree_17 (by decide) (fun c7 => ?_) (fun c7 => ?_)
  · replace h := zt c7 h
    refine lv_iconst (v := 0) hx hb dX0_isFree_27 (by decide) ?_
    cases h
    exact zr_z hx hb hr hlocks (by decide) dX0_isFree_28
  · replace h := zf c7 h
    refine lv_iload_n hx hb dX0_isFree_20 rfl (lv_at hl 0 rfl) ?_
    refine lv_sipush (v := 256) hx hb dX0_isFree_21 (by decide) ?_
    refine lv_icmp_le (tgt := 29) hx hb dX0_isFree_24 (by decide) (fun c8 => ?_) (fun c8 => ?_)
    · replace h := zt c8 h
      refine lv_iload_n hx hb dX0_isFree_29 rfl (lv_at hl 1 rfl) ?_
      refine lv_istore (lv' := [(4, .int (a1 <<< ((st 0) &&& 31))), (3, .int ((a1 <<< ((st 0) &&& 31)) + r6)), (2, .int (a1 <<< ((st 0) &&& 31))), (0, .ref h0), (1, .int a1)]) hx hb dX0_isFree_30 hl (by decide) rfl (fun ls hl => ?_)
      exact loop_32 1000 (a1 <<< ((st 0) &&& 31)) ((a1 <<< ((st 0) &&& 31)) + r6) (a1 <<< ((st 0) &&& 31)) h ls (lv_sub hl [3, 2, 1, 0] rfl)
    · replace h := zf c8 h
      refine lv_iconst (v := 0) hx hb dX0_isFree_27 (by decide) ?_
      cases h
      exact zr_z hx hb hr hlocks (by decide) dX0_isFree_28
def fX0_granuleFrom (st : Nat → Int32) (a1 : Int32) : Option (Int32) :=
  ob (fX0_granuleSize st) fun r1 =>
  some (((a1 + r1) - 1) >>> ((st 0) &&& 31))
theorem mX0_granuleFrom_21 : Cond.fieldLink RX0 21 "IdleDiscards$Device" "settings" "[I" ∈ wsX0_granuleFrom := by decide +kernel
theorem uX0_granuleFrom_X0 : ∀ w ∈ wsX00, w ∈ wsX0_granuleFrom := by decide +kernel
set_option maxRecDepth 100000 in
set_option maxHeartbeats 4000000 in
theorem kX0_granuleFrom (l : Launch) (g : zG) (h0 h1 h2 h3 h4 : Nat) (b : Nat → Int32) (pF : Nat → Int32) (pL : Nat → Int32) (st : Nat → Int32) (tm : Int32) (qt : Int32) (cm : Int32) (ds : Int32) (dr : Int32) (a1 : Int32) {r : Int32} (h : fX0_granuleFrom st a1 = some r) : Mr l g yX0_granuleFrom wsX0_granuleFrom { frames := 1, cells := 0, slots := 0, locals := 20 } [.ref h0, .int a1] (zD g h0 h1 h2 h3 h4 b pF pL st tm qt cm ds dr) (zQi r) := by
  refine zr_in (cc := cX0_granuleFrom) (maxL := 2) (ret := (some .int)) (by decide) rfl (Nat.le_of_ble_eq_true rfl) ?_
  intro p e s m below meth c hx hb hr hml hts hown hlocks hP hK ls hl
  replace hl : lv_has ls 2 [(0, .ref h0), (1, .int a1)] := hl
  unfold fX0_granuleFrom at h
  refine lv_iload_n hx hb dX0_granuleFrom_0 rfl (lv_at hl 1 rfl) ?_
  refine lv_aload_n hx hb dX0_granuleFrom_1 rfl (lv_at hl 0 rfl) ?_
  obtain ⟨r1, e1, h⟩ := zb h
  refine zV (As := []) (rest := [.int a1]) (zQi_q _) ⟨hx, hb, hml, hown, hts⟩ (kX0_granuleSize l g h0 h1 h2 h3 h4 b pF pL st tm qt cm ds dr e1) (cwV 0 hts gX0_granuleFrom_X0_granuleSize rfl rfl rfl hdV_X0_granuleSize ⟨Nat.le_of_ble_eq_true rfl, Nat.le_of_ble_eq_true rfl⟩) hK hP [0, 1, 2, 3, 4] rfl 0 rfl rfl rfl hl.1 rfl (Nat.le_of_ble_eq_true rfl) ⟨Nat.zero_le _, Nat.zero_le _⟩ dX0_granuleFrom_2 ?_
  refine lv_iadd hx hb dX0_granuleFrom_5 ?_
  refine lv_iconst (v := 1) hx hb dX0_granuleFrom_6 (by decide) ?_
  refine lv_isub hx hb dX0_granuleFrom_7 ?_
  refine lv_aload_n hx hb dX0_granuleFrom_8 rfl (lv_at hl 0 rfl) ?_
  refine va_get (ci := 0) (v := .ref h4) (C := RX0) (T := TX0) (N := 9) hx hb hts uX0_granuleFrom_X0 hown hK hP 0 rfl rfl 3 (by decide) (hts _ mX0_granuleFrom_21) (fun _ h9 => h9) rfl dX0_granuleFrom_9 ?_
  refine lv_iconst (v := 0) hx hb dX0_granuleFrom_12 (by decide) ?_
  refine za_ild hx hb hK hP 4 rfl 0 (by decide) (by decide) dX0_granuleFrom_13 ?_
  refine lv_ishr hx hb dX0_granuleFrom_14 ?_
  cases h
  exact zr_i hx hb hr hlocks dX0_granuleFrom_15
theorem hdV_X0_granuleFrom : yX0_granuleFrom.cls = RX0 ∧ yX0_granuleFrom.cls ≠ "java/lang/invoke/MethodHandle" ∧ yX0_granuleFrom.cls ≠ "java/lang/invoke/VarHandle" ∧ (parseMethodDescriptor yX0_granuleFrom.desc).map (fun d => d.parameters.length) = some 1 := by decide +kernel
theorem hdV_X0_isFree : yX0_isFree.cls = RX0 ∧ yX0_isFree.cls ≠ "java/lang/invoke/MethodHandle" ∧ yX0_isFree.cls ≠ "java/lang/invoke/VarHandle" ∧ (parseMethodDescriptor yX0_isFree.desc).map (fun d => d.parameters.length) = some 1 := by decide +kernel
def fX0_countPieces_22 (b : Nat → Int32) (pF : Nat → Int32) (pL : Nat → Int32) (st : Nat → Int32) : Nat → Int32 → Int32 → Int32 → Int32 → Option (Int32)
  | 0, _, _, _, _ => none
  | n + 1, v3, v4, v5, v6 =>
    if v5 ≤ v6 then
        some v3
      else
        ob (fX0_isFree b pF pL st v6) fun r2 =>
        if r2 = 0 then
          fX0_countPieces_22 b pF pL st n v3 r2 v5 (v6 + 1)
        else
          if v4 = 0 then
            fX0_countPieces_22 b pF pL st n (v3 + 1) r2 v5 (v6 + 1)
          else
            fX0_countPieces_22 b pF pL st n v3 r2 v5 (v6 + 1)
def fX0_countPieces (b : Nat → Int32) (pF : Nat → Int32) (pL : Nat → Int32) (st : Nat → Int32) (a1 : Int32) (a2 : Int32) : Option (Int32) :=
  ob (fX0_granuleFrom st a1) fun r5 =>
  fX0_countPieces_22 b pF pL st 1000 0 0 (a2 >>> ((st 0) &&& 31)) r5
theorem mX0_countPieces_21 : Cond.fieldLink RX0 21 "IdleDiscards$Device" "settings" "[I" ∈ wsX0_countPieces := by decide +kernel
theorem uX0_countPieces_X0 : ∀ w ∈ wsX00, w ∈ wsX0_countPieces := by decide +kernel
set_option maxRecDepth 100000 in
set_option maxHeartbeats 4000000 in
theorem kX0_countPieces (l : Launch) (g : zG) (h0 h1 h2 h3 h4 : Nat) (b : Nat → Int32) (pF : Nat → Int32) (pL : Nat → Int32) (st : Nat → Int32) (tm : Int32) (qt : Int32) (cm : Int32) (ds : Int32) (dr : Int32) (a1 : Int32) (a2 : Int32) {r : Int32} (h : fX0_countPieces b pF pL st a1 a2 = some r) : Mr l g yX0_countPieces wsX0_countPieces { frames := 2, cells := 0, slots := 0, locals := 47 } [.ref h0, .int a1, .int a2] (zD g h0 h1 h2 h3 h4 b pF pL st tm qt cm ds dr) (zQi r) := by
  refine zr_in (cc := cX0_countPieces) (maxL := 8) (ret := (some .int)) (by decide) rfl (Nat.le_of_ble_eq_true rfl) ?_
  intro p e s m below meth c hx hb hr hml hts hown hlocks hP hK ls hl
  replace hl : lv_has ls 8 [(0, .ref h0), (1, .int a1), (2, .int a2)] := hl
  have loop_22 : ∀ (n : Nat) (v3 : Int32) (v4 : Int32) (v5 : Int32) (v6 : Int32), fX0_countPieces_22 b pF pL st n v3 v4 v5 v6 = some r → ∀ (ls : Array Slot), lv_has ls 8 [(0, .ref h0), (3, .int v3), (4, .int v4), (5, .int v5), (6, .int v6)] → W p l e ({ frames := 2, cells := 0, slots := 0, locals := 47 } : Room) s m [.ref h0, .int a1, .int a2].toArray below meth c s.heap [] 0 0 (MQ below (zQi r) [.ref h0, .int a1, .int a2].toArray s 0 0 (fun _ => False)) (F0 m 22 ls []) := by
    intro n
    induction n with
    | zero => intro v3 v4 v5 v6 h ls hl; exact zn h
    | succ n ih =>
      intro v3 v4 v5 v6 h ls hl
      rw [fX0_countPieces_22] at h
      refine lv_iload hx hb dX0_countPieces_22 (lv_at hl 4 rfl) ?_
      refine lv_iload hx hb dX0_countPieces_24 (lv_at hl 3 rfl) ?_
      refine lv_icmp_ge (tgt := 60) hx hb dX0_countPieces_26 (by decide) (fun c1 => ?_) (fun c1 => ?_)
      · replace h := zt c1 h
        refine lv_iload_n hx hb dX0_countPieces_60 rfl (lv_at hl 1 rfl) ?_
        cases h
        exact zr_i hx hb hr hlocks dX0_countPieces_61
      · replace h := zf c1 h
        refine lv_aload_n hx hb dX0_countPieces_29 rfl (lv_at hl 0 rfl) ?_
        refine lv_iload hx hb dX0_countPieces_30 (lv_at hl 4 rfl) ?_
        obtain ⟨r2, e2, h⟩ := zb h
        refine zV (As := [.int v6]) (rest := []) (zQi_q _) ⟨hx, hb, hml, hown, hts⟩ (kX0_isFree l g h0 h1 h2 h3 h4 b pF pL st tm qt cm ds dr v6 e2) (cwV 1 hts gX0_countPieces_X0_isFree rfl rfl rfl hdV_X0_isFree ⟨Nat.le_of_ble_eq_true rfl, Nat.le_of_ble_eq_true rfl⟩) hK hP [0, 1, 2, 3, 4] rfl 0 rfl rfl rfl hl.1 rfl (Nat.le_of_ble_eq_true rfl) ⟨Nat.zero_le _, Nat.zero_le _⟩ dX0_countPieces_32 ?_
        refine lv_istore (lv' := [(7, .int r2), (0, .ref h0), (3, .int v3), (4, .int v4), (5, .int v5), (6, .int v6)]) hx hb dX0_countPieces_35 hl (by decide) rfl (fun ls hl => ?_)
        refine lv_iload hx hb dX0_countPieces_37 (lv_at hl 0 rfl) ?_
        refine lv_if_eq (tgt := 50) hx hb dX0_countPieces_39 (by decide) (fun c3 => ?_) (fun c3 => ?_)
        · replace h := zt c3 h
          refine lv_iload hx hb dX0_countPieces_50 (lv_at hl 0 rfl) ?_
          refine lv_istore (lv' := [(4, .int r2), (7, .int r2), (0, .ref h0), (3, .int v3), (5, .int v5), (6, .int v6)]) hx hb dX0_countPieces_52 hl (by decide) rfl (fun ls hl => ?_)
          refine lv_iinc (v := (v6 + 1)) (lv' := [(6, .int (v6 + 1)), (4, .int r2), (7, .int r2), (0, .ref h0), (3, .int v3), (5, .int v5)]) hx hb dX0_countPieces_54 hl (k := 5) rfl rfl (by decide) rfl (fun ls hl => ?_)
          refine lv_goto (tgt := 22) hx hb dX0_countPieces_57 (by decide) ?_
          exact ih v3 r2 v5 (v6 + 1) h ls (lv_sub hl [3, 4, 1, 5, 0] rfl)
        · replace h := zf c3 h
          refine lv_iload hx hb dX0_countPieces_42 (lv_at hl 3 rfl) ?_
          refine lv_if_ne (tgt := 50) hx hb dX0_countPieces_44 (by decide) (fun c4 => ?_) (fun c4 => ?_)
          · replace h := zf c4 h
            refine lv_iload hx hb dX0_countPieces_50 (lv_at hl 0 rfl) ?_
            refine lv_istore (lv' := [(4, .int r2), (7, .int r2), (0, .ref h0), (3, .int v3), (5, .int v5), (6, .int v6)]) hx hb dX0_countPieces_52 hl (by decide) rfl (fun ls hl => ?_)
            refine lv_iinc (v := (v6 + 1)) (lv' := [(6, .int (v6 + 1)), (4, .int r2), (7, .int r2), (0, .ref h0), (3, .int v3), (5, .int v5)]) hx hb dX0_countPieces_54 hl (k := 5) rfl rfl (by decide) rfl (fun ls hl => ?_)
            refine lv_goto (tgt := 22) hx hb dX0_countPieces_57 (by decide) ?_
            exact ih v3 r2 v5 (v6 + 1) h ls (lv_sub hl [3, 4, 1, 5, 0] rfl)
          · replace h := zt c4 h
            refine lv_iinc (v := (v3 + 1)) (lv' := [(3, .int (v3 + 1)), (7, .int r2), (0, .ref h0), (4, .int v4), (5, .int v5), (6, .int v6)]) hx hb dX0_countPieces_47 hl (k := 2) rfl rfl (by decide) rfl (fun ls hl => ?_)
            refine lv_iload hx hb dX0_countPieces_50 (lv_at hl 1 rfl) ?_
            refine lv_istore (lv' := [(4, .int r2), (3, .int (v3 + 1)), (7, .int r2), (0, .ref h0), (5, .int v5), (6, .int v6)]) hx hb dX0_countPieces_52 hl (by decide) rfl (fun ls hl => ?_)
            refine lv_iinc (v := (v6 + 1)) (lv' := [(6, .int (v6 + 1)), (4, .int r2), (3, .int (v3 + 1)), (7, .int r2), (0, .ref h0), (5, .int v5)]) hx hb dX0_countPieces_54 hl (k := 5) rfl rfl (by decide) rfl (fun ls hl => ?_)
            refine lv_goto (tgt := 22) hx hb dX0_countPieces_57 (by decide) ?_
            exact ih (v3 + 1) r2 v5 (v6 + 1) h ls (lv_sub hl [4, 2, 1, 5, 0] rfl)
  unfold fX0_countPieces at h
  refine lv_iconst (v := 0) hx hb dX0_countPieces_0 (by decide) ?_
  refine lv_istore_n (lv' := [(3, .int 0), (0, .ref h0), (1, .int a1), (2, .int a2)]) hx hb dX0_countPieces_1 rfl hl (by decide) rfl (fun ls hl => ?_)
  refine lv_iconst (v := 0) hx hb dX0_countPieces_2 (by decide) ?_
  refine lv_istore (lv' := [(4, .int 0), (3, .int 0), (0, .ref h0), (1, .int a1), (2, .int a2)]) hx hb dX0_countPieces_3 hl (by decide) rfl (fun ls hl => ?_)
  refine lv_iload_n hx hb dX0_countPieces_5 rfl (lv_at hl 4 rfl) ?_
  refine lv_aload_n hx hb dX0_countPieces_6 rfl (lv_at hl 2 rfl) ?_
  refine va_get (ci := 0) (v := .ref h4) (C := RX0) (T := TX0) (N := 9) hx hb hts uX0_countPieces_X0 hown hK hP 0 rfl rfl 3 (by decide) (hts _ mX0_countPieces_21) (fun _ h9 => h9) rfl dX0_countPieces_7 ?_
  refine lv_iconst (v := 0) hx hb dX0_countPieces_10 (by decide) ?_
  refine za_ild hx hb hK hP 4 rfl 0 (by decide) (by decide) dX0_countPieces_11 ?_
  refine lv_ishr hx hb dX0_countPieces_12 ?_
  refine lv_istore (lv' := [(5, .int (a2 >>> ((st 0) &&& 31))), (4, .int 0), (3, .int 0), (0, .ref h0), (1, .int a1), (2, .int a2)]) hx hb dX0_countPieces_13 hl (by decide) rfl (fun ls hl => ?_)
  refine lv_aload_n hx hb dX0_countPieces_15 rfl (lv_at hl 3 rfl) ?_
  refine lv_iload_n hx hb dX0_countPieces_16 rfl (lv_at hl 4 rfl) ?_
  obtain ⟨r5, e5, h⟩ := zb h
  refine zV (As := [.int a1]) (rest := []) (zQi_q _) ⟨hx, hb, hml, hown, hts⟩ (kX0_granuleFrom l g h0 h1 h2 h3 h4 b pF pL st tm qt cm ds dr a1 e5) (cwV 1 hts gX0_countPieces_X0_granuleFrom rfl rfl rfl hdV_X0_granuleFrom ⟨Nat.le_of_ble_eq_true rfl, Nat.le_of_ble_eq_true rfl⟩) hK hP [0, 1, 2, 3, 4] rfl 0 rfl rfl rfl hl.1 rfl (Nat.le_of_ble_eq_true rfl) ⟨Nat.zero_le _, Nat.zero_le _⟩ dX0_countPieces_17 ?_
  refine lv_istore (lv' := [(6, .int r5), (5, .int (a2 >>> ((st 0) &&& 31))), (4, .int 0), (3, .int 0), (0, .ref h0), (1, .int a1), (2, .int a2)]) hx hb dX0_countPieces_20 hl (by decide) rfl (fun ls hl => ?_)
  exact loop_22 1000 0 0 (a2 >>> ((st 0) &&& 31)) r5 h ls (lv_sub hl [4, 3, 2, 1, 0] rfl)
def fX0_countGranules_19 (b : Nat → Int32) (pF : Nat → Int32) (pL : Nat → Int32) (st : Nat → Int32) : Nat → Int32 → Int32 → Int32 → Option (Int32)
  | 0, _, _, _ => none
  | n + 1, v3, v4, v5 =>
    if v4 ≤ v5 then
        some v3
      else
        ob (fX0_isFree b pF pL st v5) fun r2 =>
        if r2 = 0 then
          fX0_countGranules_19 b pF pL st n v3 v4 (v5 + 1)
        else
          fX0_countGranules_19 b pF pL st n (v3 + 1) v4 (v5 + 1)
def fX0_countGranules (b : Nat → Int32) (pF : Nat → Int32) (pL : Nat → Int32) (st : Nat → Int32) (a1 : Int32) (a2 : Int32) : Option (Int32) :=
  ob (fX0_granuleFrom st a1) fun r4 =>
  fX0_countGranules_19 b pF pL st 1000 0 (a2 >>> ((st 0) &&& 31)) r4
theorem mX0_countGranules_21 : Cond.fieldLink RX0 21 "IdleDiscards$Device" "settings" "[I" ∈ wsX0_countGranules := by decide +kernel
theorem uX0_countGranules_X0 : ∀ w ∈ wsX00, w ∈ wsX0_countGranules := by decide +kernel
set_option maxRecDepth 100000 in
set_option maxHeartbeats 4000000 in
theorem kX0_countGranules (l : Launch) (g : zG) (h0 h1 h2 h3 h4 : Nat) (b : Nat → Int32) (pF : Nat → Int32) (pL : Nat → Int32) (st : Nat → Int32) (tm : Int32) (qt : Int32) (cm : Int32) (ds : Int32) (dr : Int32) (a1 : Int32) (a2 : Int32) {r : Int32} (h : fX0_countGranules b pF pL st a1 a2 = some r) : Mr l g yX0_countGranules wsX0_countGranules { frames := 2, cells := 0, slots := 0, locals := 47 } [.ref h0, .int a1, .int a2] (zD g h0 h1 h2 h3 h4 b pF pL st tm qt cm ds dr) (zQi r) := by
  refine zr_in (cc := cX0_countGranules) (maxL := 6) (ret := (some .int)) (by decide) rfl (Nat.le_of_ble_eq_true rfl) ?_
  intro p e s m below meth c hx hb hr hml hts hown hlocks hP hK ls hl
  replace hl : lv_has ls 6 [(0, .ref h0), (1, .int a1), (2, .int a2)] := hl
  have loop_19 : ∀ (n : Nat) (v3 : Int32) (v4 : Int32) (v5 : Int32), fX0_countGranules_19 b pF pL st n v3 v4 v5 = some r → ∀ (ls : Array Slot), lv_has ls 6 [(0, .ref h0), (3, .int v3), (4, .int v4), (5, .int v5)] → W p l e ({ frames := 2, cells := 0, slots := 0, locals := 47 } : Room) s m [.ref h0, .int a1, .int a2].toArray below meth c s.heap [] 0 0 (MQ below (zQi r) [.ref h0, .int a1, .int a2].toArray s 0 0 (fun _ => False)) (F0 m 19 ls []) := by
    intro n
    induction n with
    | zero => intro v3 v4 v5 h ls hl; exact zn h
    | succ n ih =>
      intro v3 v4 v5 h ls hl
      rw [fX0_countGranules_19] at h
      refine lv_iload hx hb dX0_countGranules_19 (lv_at hl 3 rfl) ?_
      refine lv_iload hx hb dX0_countGranules_21 (lv_at hl 2 rfl) ?_
      refine lv_icmp_ge (tgt := 44) hx hb dX0_countGranules_23 (by decide) (fun c1 => ?_) (fun c1 => ?_)
      · replace h := zt c1 h
        refine lv_iload_n hx hb dX0_countGranules_44 rfl (lv_at hl 1 rfl) ?_
        cases h
        exact zr_i hx hb hr hlocks dX0_countGranules_45
      · replace h := zf c1 h
        refine lv_aload_n hx hb dX0_countGranules_26 rfl (lv_at hl 0 rfl) ?_
        refine lv_iload hx hb dX0_countGranules_27 (lv_at hl 3 rfl) ?_
        obtain ⟨r2, e2, h⟩ := zb h
        refine zV (As := [.int v5]) (rest := []) (zQi_q _) ⟨hx, hb, hml, hown, hts⟩ (kX0_isFree l g h0 h1 h2 h3 h4 b pF pL st tm qt cm ds dr v5 e2) (cwV 1 hts gX0_countGranules_X0_isFree rfl rfl rfl hdV_X0_isFree ⟨Nat.le_of_ble_eq_true rfl, Nat.le_of_ble_eq_true rfl⟩) hK hP [0, 1, 2, 3, 4] rfl 0 rfl rfl rfl hl.1 rfl (Nat.le_of_ble_eq_true rfl) ⟨Nat.zero_le _, Nat.zero_le _⟩ dX0_countGranules_29 ?_
        refine lv_if_eq (tgt := 38) hx hb dX0_countGranules_32 (by decide) (fun c3 => ?_) (fun c3 => ?_)
        · replace h := zt c3 h
          refine lv_iinc (v := (v5 + 1)) (lv' := [(5, .int (v5 + 1)), (0, .ref h0), (3, .int v3), (4, .int v4)]) hx hb dX0_countGranules_38 hl (k := 3) rfl rfl (by decide) rfl (fun ls hl => ?_)
          refine lv_goto (tgt := 19) hx hb dX0_countGranules_41 (by decide) ?_
          exact ih v3 v4 (v5 + 1) h ls (lv_sub hl [1, 2, 3, 0] rfl)
        · replace h := zf c3 h
          refine lv_iinc (v := (v3 + 1)) (lv' := [(3, .int (v3 + 1)), (0, .ref h0), (4, .int v4), (5, .int v5)]) hx hb dX0_countGranules_35 hl (k := 1) rfl rfl (by decide) rfl (fun ls hl => ?_)
          refine lv_iinc (v := (v5 + 1)) (lv' := [(5, .int (v5 + 1)), (3, .int (v3 + 1)), (0, .ref h0), (4, .int v4)]) hx hb dX0_countGranules_38 hl (k := 3) rfl rfl (by decide) rfl (fun ls hl => ?_)
          refine lv_goto (tgt := 19) hx hb dX0_countGranules_41 (by decide) ?_
          exact ih (v3 + 1) v4 (v5 + 1) h ls (lv_sub hl [2, 1, 3, 0] rfl)
  unfold fX0_countGranules at h
  refine lv_iconst (v := 0) hx hb dX0_countGranules_0 (by decide) ?_
  refine lv_istore_n (lv' := [(3, .int 0), (0, .ref h0), (1, .int a1), (2, .int a2)]) hx hb dX0_countGranules_1 rfl hl (by decide) rfl (fun ls hl => ?_)
  refine lv_iload_n hx hb dX0_countGranules_2 rfl (lv_at hl 3 rfl) ?_
  refine lv_aload_n hx hb dX0_countGranules_3 rfl (lv_at hl 1 rfl) ?_
  refine va_get (ci := 0) (v := .ref h4) (C := RX0) (T := TX0) (N := 9) hx hb hts uX0_countGranules_X0 hown hK hP 0 rfl rfl 3 (by decide) (hts _ mX0_countGranules_21) (fun _ h9 => h9) rfl dX0_countGranules_4 ?_
  refine lv_iconst (v := 0) hx hb dX0_countGranules_7 (by decide) ?_
  refine za_ild hx hb hK hP 4 rfl 0 (by decide) (by decide) dX0_countGranules_8 ?_
  refine lv_ishr hx hb dX0_countGranules_9 ?_
  refine lv_istore (lv' := [(4, .int (a2 >>> ((st 0) &&& 31))), (3, .int 0), (0, .ref h0), (1, .int a1), (2, .int a2)]) hx hb dX0_countGranules_10 hl (by decide) rfl (fun ls hl => ?_)
  refine lv_aload_n hx hb dX0_countGranules_12 rfl (lv_at hl 2 rfl) ?_
  refine lv_iload_n hx hb dX0_countGranules_13 rfl (lv_at hl 3 rfl) ?_
  obtain ⟨r4, e4, h⟩ := zb h
  refine zV (As := [.int a1]) (rest := []) (zQi_q _) ⟨hx, hb, hml, hown, hts⟩ (kX0_granuleFrom l g h0 h1 h2 h3 h4 b pF pL st tm qt cm ds dr a1 e4) (cwV 1 hts gX0_countGranules_X0_granuleFrom rfl rfl rfl hdV_X0_granuleFrom ⟨Nat.le_of_ble_eq_true rfl, Nat.le_of_ble_eq_true rfl⟩) hK hP [0, 1, 2, 3, 4] rfl 0 rfl rfl rfl hl.1 rfl (Nat.le_of_ble_eq_true rfl) ⟨Nat.zero_le _, Nat.zero_le _⟩ dX0_countGranules_14 ?_
  refine lv_istore (lv' := [(5, .int r4), (4, .int (a2 >>> ((st 0) &&& 31))), (3, .int 0), (0, .ref h0), (1, .int a1), (2, .int a2)]) hx hb dX0_countGranules_17 hl (by decide) rfl (fun ls hl => ?_)
  exact loop_19 1000 0 (a2 >>> ((st 0) &&& 31)) r4 h ls (lv_sub hl [3, 2, 1, 0] rfl)
def fX0_granulesFrom_2 (b : Nat → Int32) (pF : Nat → Int32) (pL : Nat → Int32) (st : Nat → Int32) : Nat → Int32 → Int32 → Int32 → Option (Int32)
  | 0, _, _, _ => none
  | n + 1, v1, v2, v3 =>
    if v2 ≤ v3 then
        some v3
      else
        ob (fX0_isFree b pF pL st (v1 + v3)) fun r2 =>
        if r2 = 0 then
          some v3
        else
          fX0_granulesFrom_2 b pF pL st n v1 v2 (v3 + 1)
def fX0_granulesFrom (b : Nat → Int32) (pF : Nat → Int32) (pL : Nat → Int32) (st : Nat → Int32) (a1 : Int32) (a2 : Int32) : Option (Int32) :=
  fX0_granulesFrom_2 b pF pL st 1000 a1 a2 0
set_option maxRecDepth 100000 in
set_option maxHeartbeats 4000000 in
theorem kX0_granulesFrom (l : Launch) (g : zG) (h0 h1 h2 h3 h4 : Nat) (b : Nat → Int32) (pF : Nat → Int32) (pL : Nat → Int32) (st : Nat → Int32) (tm : Int32) (qt : Int32) (cm : Int32) (ds : Int32) (dr : Int32) (a1 : Int32) (a2 : Int32) {r : Int32} (h : fX0_granulesFrom b pF pL st a1 a2 = some r) : Mr l g yX0_granulesFrom wsX0_granulesFrom { frames := 2, cells := 0, slots := 0, locals := 47 } [.ref h0, .int a1, .int a2] (zD g h0 h1 h2 h3 h4 b pF pL st tm qt cm ds dr) (zQi r) := by
  refine zr_in (cc := cX0_granulesFrom) (maxL := 4) (ret := (some .int)) (by decide) rfl (Nat.le_of_ble_eq_true rfl) ?_
  intro p e s m below meth c hx hb hr hml hts hown hlocks hP hK ls hl
  replace hl : lv_has ls 4 [(0, .ref h0), (1, .int a1), (2, .int a2)] := hl
  have loop_2 : ∀ (n : Nat) (v1 : Int32) (v2 : Int32) (v3 : Int32), fX0_granulesFrom_2 b pF pL st n v1 v2 v3 = some r → ∀ (ls : Array Slot), lv_has ls 4 [(0, .ref h0), (1, .int v1), (2, .int v2), (3, .int v3)] → W p l e ({ frames := 2, cells := 0, slots := 0, locals := 47 } : Room) s m [.ref h0, .int a1, .int a2].toArray below meth c s.heap [] 0 0 (MQ below (zQi r) [.ref h0, .int a1, .int a2].toArray s 0 0 (fun _ => False)) (F0 m 2 ls []) := by
    intro n
    induction n with
    | zero => intro v1 v2 v3 h ls hl; exact zn h
    | succ n ih =>
      intro v1 v2 v3 h ls hl
      rw [fX0_granulesFrom_2] at h
      refine lv_iload_n hx hb dX0_granulesFrom_2 rfl (lv_at hl 3 rfl) ?_
      refine lv_iload_n hx hb dX0_granulesFrom_3 rfl (lv_at hl 2 rfl) ?_
      refine lv_icmp_ge (tgt := 23) hx hb dX0_granulesFrom_4 (by decide) (fun c1 => ?_) (fun c1 => ?_)
      · replace h := zt c1 h
        refine lv_iload_n hx hb dX0_granulesFrom_23 rfl (lv_at hl 3 rfl) ?_
        cases h
        exact zr_i hx hb hr hlocks dX0_granulesFrom_24
      · replace h := zf c1 h
        refine lv_aload_n hx hb dX0_granulesFrom_7 rfl (lv_at hl 0 rfl) ?_
        refine lv_iload_n hx hb dX0_granulesFrom_8 rfl (lv_at hl 1 rfl) ?_
        refine lv_iload_n hx hb dX0_granulesFrom_9 rfl (lv_at hl 3 rfl) ?_
        refine lv_iadd hx hb dX0_granulesFrom_10 ?_
        obtain ⟨r2, e2, h⟩ := zb h
        refine zV (As := [.int (v1 + v3)]) (rest := []) (zQi_q _) ⟨hx, hb, hml, hown, hts⟩ (kX0_isFree l g h0 h1 h2 h3 h4 b pF pL st tm qt cm ds dr (v1 + v3) e2) (cwV 1 hts gX0_granulesFrom_X0_isFree rfl rfl rfl hdV_X0_isFree ⟨Nat.le_of_ble_eq_true rfl, Nat.le_of_ble_eq_true rfl⟩) hK hP [0, 1, 2, 3, 4] rfl 0 rfl rfl rfl hl.1 rfl (Nat.le_of_ble_eq_true rfl) ⟨Nat.zero_le _, Nat.zero_le _⟩ dX0_granulesFrom_11 ?_
        refine lv_if_eq (tgt := 23) hx hb dX0_granulesFrom_14 (by decide) (fun c3 => ?_) (fun c3 => ?_)
        · replace h := zt c3 h
          refine lv_iload_n hx hb dX0_granulesFrom_23 rfl (lv_at hl 3 rfl) ?_
          cases h
          exact zr_i hx hb hr hlocks dX0_granulesFrom_24
        · replace h := zf c3 h
          refine lv_iinc (v := (v3 + 1)) (lv' := [(3, .int (v3 + 1)), (0, .ref h0), (1, .int v1), (2, .int v2)]) hx hb dX0_granulesFrom_17 hl (k := 3) rfl rfl (by decide) rfl (fun ls hl => ?_)
          refine lv_goto (tgt := 2) hx hb dX0_granulesFrom_20 (by decide) ?_
          exact ih v1 v2 (v3 + 1) h ls (lv_sub hl [1, 2, 3, 0] rfl)
  unfold fX0_granulesFrom at h
  refine lv_iconst (v := 0) hx hb dX0_granulesFrom_0 (by decide) ?_
  refine lv_istore_n (lv' := [(3, .int 0), (0, .ref h0), (1, .int a1), (2, .int a2)]) hx hb dX0_granulesFrom_1 rfl hl (by decide) rfl (fun ls hl => ?_)
  exact loop_2 1000 a1 a2 0 h ls (lv_sub hl [1, 2, 3, 0] rfl)
theorem hdV_X0_isDue : yX0_isDue.cls = RX0 ∧ yX0_isDue.cls ≠ "java/lang/invoke/MethodHandle" ∧ yX0_isDue.cls ≠ "java/lang/invoke/VarHandle" ∧ (parseMethodDescriptor yX0_isDue.desc).map (fun d => d.parameters.length) = some 1 := by decide +kernel
def fX0_choosePiece_26 (b : Nat → Int32) (pF : Nat → Int32) (pL : Nat → Int32) (st : Nat → Int32) (tm : Int32) : Nat → Int32 → Int32 → Int32 → Int32 → Int32 → Int32 → Int32 → Int32 → Option (Int32)
  | 0, _, _, _, _, _, _, _, _ => none
  | n + 1, v1, v2, v3, v4, v5, v6, v7, v8 =>
    if v7 ≤ v8 then
        some v3
      else
        if (v8 <<< ((st 0) &&& 31)) < 0 ∨ 256 ≤ (v8 <<< ((st 0) &&& 31)).toNatClampNeg then none else
        if (b (v8 <<< ((st 0) &&& 31)).toNatClampNeg) < 0 then
          fX0_choosePiece_26 b pF pL st tm n v1 v2 v3 v4 v5 0 v7 (v8 + 1)
        else
          if v1 = 0 then
            ob (fX0_isFree b pF pL st v8) fun r5 =>
            if r5 = 0 then
              fX0_choosePiece_26 b pF pL st tm n v1 v2 v3 v4 v5 0 v7 (v8 + 1)
            else
              if v2 = 2 then
                some v8
              else
                if v2 = 1 then
                  if (v6 + 1) ≤ v5 then
                    fX0_choosePiece_26 b pF pL st tm n v1 v2 v3 v4 v5 (v6 + 1) v7 (v8 + 1)
                  else
                    fX0_choosePiece_26 b pF pL st tm n v1 v2 ((v8 - (v6 + 1)) + 1) v4 (v6 + 1) (v6 + 1) v7 (v8 + 1)
                else
                  if v3 = (-1) then
                    if (v8 <<< ((st 0) &&& 31)) < 0 ∨ 256 ≤ (v8 <<< ((st 0) &&& 31)).toNatClampNeg then none else
                    fX0_choosePiece_26 b pF pL st tm n v1 v2 v8 (b (v8 <<< ((st 0) &&& 31)).toNatClampNeg) v5 (v6 + 1) v7 (v8 + 1)
                  else
                    if (v8 <<< ((st 0) &&& 31)) < 0 ∨ 256 ≤ (v8 <<< ((st 0) &&& 31)).toNatClampNeg then none else
                    if v4 ≤ (b (v8 <<< ((st 0) &&& 31)).toNatClampNeg) then
                      fX0_choosePiece_26 b pF pL st tm n v1 v2 v3 v4 v5 (v6 + 1) v7 (v8 + 1)
                    else
                      if (v8 <<< ((st 0) &&& 31)) < 0 ∨ 256 ≤ (v8 <<< ((st 0) &&& 31)).toNatClampNeg then none else
                      fX0_choosePiece_26 b pF pL st tm n v1 v2 v8 (b (v8 <<< ((st 0) &&& 31)).toNatClampNeg) v5 (v6 + 1) v7 (v8 + 1)
          else
            ob (fX0_isDue b st tm (v8 <<< ((st 0) &&& 31))) fun r15 =>
            if r15 = 0 then
              fX0_choosePiece_26 b pF pL st tm n v1 v2 v3 v4 v5 0 v7 (v8 + 1)
            else
              ob (fX0_isFree b pF pL st v8) fun r17 =>
              if r17 = 0 then
                fX0_choosePiece_26 b pF pL st tm n v1 v2 v3 v4 v5 0 v7 (v8 + 1)
              else
                if v2 = 2 then
                  some v8
                else
                  if v2 = 1 then
                    if (v6 + 1) ≤ v5 then
                      fX0_choosePiece_26 b pF pL st tm n v1 v2 v3 v4 v5 (v6 + 1) v7 (v8 + 1)
                    else
                      fX0_choosePiece_26 b pF pL st tm n v1 v2 ((v8 - (v6 + 1)) + 1) v4 (v6 + 1) (v6 + 1) v7 (v8 + 1)
                  else
                    if v3 = (-1) then
                      if (v8 <<< ((st 0) &&& 31)) < 0 ∨ 256 ≤ (v8 <<< ((st 0) &&& 31)).toNatClampNeg then none else
                      fX0_choosePiece_26 b pF pL st tm n v1 v2 v8 (b (v8 <<< ((st 0) &&& 31)).toNatClampNeg) v5 (v6 + 1) v7 (v8 + 1)
                    else
                      if (v8 <<< ((st 0) &&& 31)) < 0 ∨ 256 ≤ (v8 <<< ((st 0) &&& 31)).toNatClampNeg then none else
                      if v4 ≤ (b (v8 <<< ((st 0) &&& 31)).toNatClampNeg) then
                        fX0_choosePiece_26 b pF pL st tm n v1 v2 v3 v4 v5 (v6 + 1) v7 (v8 + 1)
                      else
                        if (v8 <<< ((st 0) &&& 31)) < 0 ∨ 256 ≤ (v8 <<< ((st 0) &&& 31)).toNatClampNeg then none else
                        fX0_choosePiece_26 b pF pL st tm n v1 v2 v8 (b (v8 <<< ((st 0) &&& 31)).toNatClampNeg) v5 (v6 + 1) v7 (v8 + 1)
def fX0_choosePiece (b : Nat → Int32) (pF : Nat → Int32) (pL : Nat → Int32) (st : Nat → Int32) (tm : Int32) (a1 : Int32) (a2 : Int32) : Option (Int32) :=
  fX0_choosePiece_26 b pF pL st tm 1000 a1 a2 (-1) 0 0 0 (256 >>> ((st 0) &&& 31)) 0
theorem mX0_choosePiece_21 : Cond.fieldLink RX0 21 "IdleDiscards$Device" "settings" "[I" ∈ wsX0_choosePiece := by decide +kernel
theorem uX0_choosePiece_X0 : ∀ w ∈ wsX00, w ∈ wsX0_choosePiece := by decide +kernel
theorem mX0_choosePiece_9 : Cond.fieldLink RX0 9 "IdleDiscards$Device" "blocks" "[I" ∈ wsX0_choosePiece := by decide +kernel
set_option maxRecDepth 100000 in
set_option maxHeartbeats 4000000 in
theorem kX0_choosePiece (l : Launch) (g : zG) (h0 h1 h2 h3 h4 : Nat) (b : Nat → Int32) (pF : Nat → Int32) (pL : Nat → Int32) (st : Nat → Int32) (tm : Int32) (qt : Int32) (cm : Int32) (ds : Int32) (dr : Int32) (a1 : Int32) (a2 : Int32) {r : Int32} (h : fX0_choosePiece b pF pL st tm a1 a2 = some r) : Mr l g yX0_choosePiece wsX0_choosePiece { frames := 2, cells := 0, slots := 0, locals := 47 } [.ref h0, .int a1, .int a2] (zD g h0 h1 h2 h3 h4 b pF pL st tm qt cm ds dr) (zQi r) := by
  refine zr_in (cc := cX0_choosePiece) (maxL := 10) (ret := (some .int)) (by decide) rfl (Nat.le_of_ble_eq_true rfl) ?_
  intro p e s m below meth c hx hb hr hml hts hown hlocks hP hK ls hl
  replace hl : lv_has ls 10 [(0, .ref h0), (1, .int a1), (2, .int a2)] := hl
  have loop_26 : ∀ (n : Nat) (v1 : Int32) (v2 : Int32) (v3 : Int32) (v4 : Int32) (v5 : Int32) (v6 : Int32) (v7 : Int32) (v8 : Int32), fX0_choosePiece_26 b pF pL st tm n v1 v2 v3 v4 v5 v6 v7 v8 = some r → ∀ (ls : Array Slot), lv_has ls 10 [(0, .ref h0), (1, .int v1), (2, .int v2), (3, .int v3), (4, .int v4), (5, .int v5), (6, .int v6), (7, .int v7), (8, .int v8)] → W p l e ({ frames := 2, cells := 0, slots := 0, locals := 47 } : Room) s m [.ref h0, .int a1, .int a2].toArray below meth c s.heap [] 0 0 (MQ below (zQi r) [.ref h0, .int a1, .int a2].toArray s 0 0 (fun _ => False)) (F0 m 26 ls []) := by
    intro n
    induction n with
    | zero => intro v1 v2 v3 v4 v5 v6 v7 v8 h ls hl; exact zn h
    | succ n ih =>
      intro v1 v2 v3 v4 v5 v6 v7 v8 h ls hl
      rw [fX0_choosePiece_26] at h
      refine lv_iload hx hb dX0_choosePiece_26 (lv_at hl 8 rfl) ?_
      refine lv_iload hx hb dX0_choosePiece_28 (lv_at hl 7 rfl) ?_
      refine lv_icmp_ge (tgt := 155) hx hb dX0_choosePiece_30 (by decide) (fun c1 => ?_) (fun c1 => ?_)
      · replace h := zt c1 h
        refine lv_iload_n hx hb dX0_choosePiece_155 rfl (lv_at hl 3 rfl) ?_
        cases h
        exact zr_i hx hb hr hlocks dX0_choosePiece_156
      · replace h := zf c1 h
        refine lv_iload hx hb dX0_choosePiece_33 (lv_at hl 8 rfl) ?_
        refine lv_aload_n hx hb dX0_choosePiece_35 rfl (lv_at hl 0 rfl) ?_
        refine va_get (ci := 0) (v := .ref h4) (C := RX0) (T := TX0) (N := 9) hx hb hts uX0_choosePiece_X0 hown hK hP 0 rfl rfl 3 (by decide) (hts _ mX0_choosePiece_21) (fun _ h9 => h9) rfl dX0_choosePiece_36 ?_
        refine lv_iconst (v := 0) hx hb dX0_choosePiece_39 (by decide) ?_
        refine za_ild hx hb hK hP 4 rfl 0 (by decide) (by decide) dX0_choosePiece_40 ?_
        refine lv_ishl hx hb dX0_choosePiece_41 ?_
        refine lv_istore (lv' := [(9, .int (v8 <<< ((st 0) &&& 31))), (0, .ref h0), (1, .int v1), (2, .int v2), (3, .int v3), (4, .int v4), (5, .int v5), (6, .int v6), (7, .int v7), (8, .int v8)]) hx hb dX0_choosePiece_42 hl (by decide) rfl (fun ls hl => ?_)
        refine lv_aload_n hx hb dX0_choosePiece_44 rfl (lv_at hl 1 rfl) ?_
        refine va_get (ci := 0) (v := .ref h1) (C := RX0) (T := TX0) (N := 9) hx hb hts uX0_choosePiece_X0 hown hK hP 0 rfl rfl 0 (by decide) (hts _ mX0_choosePiece_9) (fun _ h9 => h9) rfl dX0_choosePiece_45 ?_
        refine lv_iload hx hb dX0_choosePiece_48 (lv_at hl 0 rfl) ?_
        obtain ⟨i2, h⟩ := zi h
        refine za_ild hx hb hK hP 1 rfl _ rfl i2 dX0_choosePiece_50 ?_
        refine lv_if_lt (tgt := 76) hx hb dX0_choosePiece_51 (by decide) (fun c3 => ?_) (fun c3 => ?_)
        · replace h := zt c3 h
          refine lv_iconst (v := 0) hx hb dX0_choosePiece_76 (by decide) ?_
          refine lv_istore (lv' := [(6, .int 0), (9, .int (v8 <<< ((st 0) &&& 31))), (0, .ref h0), (1, .int v1), (2, .int v2), (3, .int v3), (4, .int v4), (5, .int v5), (7, .int v7), (8, .int v8)]) hx hb dX0_choosePiece_77 hl (by decide) rfl (fun ls hl => ?_)
          refine lv_goto (tgt := 149) hx hb dX0_choosePiece_79 (by decide) ?_
          refine lv_iinc (v := (v8 + 1)) (lv' := [(8, .int (v8 + 1)), (6, .int 0), (9, .int (v8 <<< ((st 0) &&& 31))), (0, .ref h0), (1, .int v1), (2, .int v2), (3, .int v3), (4, .int v4), (5, .int v5), (7, .int v7)]) hx hb dX0_choosePiece_149 hl (k := 9) rfl rfl (by decide) rfl (fun ls hl => ?_)
          refine lv_goto (tgt := 26) hx hb dX0_choosePiece_152 (by decide) ?_
          exact ih v1 v2 v3 v4 v5 0 v7 (v8 + 1) h ls (lv_sub hl [3, 4, 5, 6, 7, 8, 1, 9, 0] rfl)
        · replace h := zf c3 h
          refine lv_iload_n hx hb dX0_choosePiece_54 rfl (lv_at hl 2 rfl) ?_
          refine lv_if_eq (tgt := 67) hx hb dX0_choosePiece_55 (by decide) (fun c4 => ?_) (fun c4 => ?_)
          · replace h := zt c4 h
            refine lv_aload_n hx hb dX0_choosePiece_67 rfl (lv_at hl 1 rfl) ?_
            refine lv_iload hx hb dX0_choosePiece_68 (lv_at hl 9 rfl) ?_
            obtain ⟨r5, e5, h⟩ := zb h
            refine zV (As := [.int v8]) (rest := []) (zQi_q _) ⟨hx, hb, hml, hown, hts⟩ (kX0_isFree l g h0 h1 h2 h3 h4 b pF pL st tm qt cm ds dr v8 e5) (cwV 1 hts gX0_choosePiece_X0_isFree rfl rfl rfl hdV_X0_isFree ⟨Nat.le_of_ble_eq_true rfl, Nat.le_of_ble_eq_true rfl⟩) hK hP [0, 1, 2, 3, 4] rfl 0 rfl rfl rfl hl.1 rfl (Nat.le_of_ble_eq_true rfl) ⟨Nat.zero_le _, Nat.zero_le _⟩ dX0_choosePiece_70 ?_
            refine lv_if_ne (tgt := 82) hx hb dX0_choosePiece_73 (by decide) (fun c6 => ?_) (fun c6 => ?_)
            · replace h := zf c6 h
              refine lv_iinc (v := (v6 + 1)) (lv' := [(6, .int (v6 + 1)), (9, .int (v8 <<< ((st 0) &&& 31))), (0, .ref h0), (1, .int v1), (2, .int v2), (3, .int v3), (4, .int v4), (5, .int v5), (7, .int v7), (8, .int v8)]) hx hb dX0_choosePiece_82 hl (k := 7) rfl rfl (by decide) rfl (fun ls hl => ?_)
              refine lv_iload_n hx hb dX0_choosePiece_85 rfl (lv_at hl 4 rfl) ?_
              refine lv_iconst (v := 2) hx hb dX0_choosePiece_86 (by decide) ?_
              refine lv_icmp_ne (tgt := 93) hx hb dX0_choosePiece_87 (by decide) (fun c7 => ?_) (fun c7 => ?_)
              · replace h := zf c7 h
                refine lv_iload_n hx hb dX0_choosePiece_93 rfl (lv_at hl 4 rfl) ?_
                refine lv_iconst (v := 1) hx hb dX0_choosePiece_94 (by decide) ?_
                refine lv_icmp_ne (tgt := 120) hx hb dX0_choosePiece_95 (by decide) (fun c8 => ?_) (fun c8 => ?_)
                · replace h := zf c8 h
                  refine lv_iload_n hx hb dX0_choosePiece_120 rfl (lv_at hl 5 rfl) ?_
                  refine lv_iconst (v := (-1)) hx hb dX0_choosePiece_121 (by decide) ?_
                  refine lv_icmp_eq (tgt := 137) hx hb dX0_choosePiece_122 (by decide) (fun c9 => ?_) (fun c9 => ?_)
                  · replace h := zt c9 h
                    refine lv_aload_n hx hb dX0_choosePiece_137 rfl (lv_at hl 2 rfl) ?_
                    refine va_get (ci := 0) (v := .ref h1) (C := RX0) (T := TX0) (N := 9) hx hb hts uX0_choosePiece_X0 hown hK hP 0 rfl rfl 0 (by decide) (hts _ mX0_choosePiece_9) (fun _ h9 => h9) rfl dX0_choosePiece_138 ?_
                    refine lv_iload hx hb dX0_choosePiece_141 (lv_at hl 1 rfl) ?_
                    obtain ⟨i10, h⟩ := zi h
                    refine za_ild hx hb hK hP 1 rfl _ rfl i10 dX0_choosePiece_143 ?_
                    refine lv_istore (lv' := [(4, .int (b (v8 <<< ((st 0) &&& 31)).toNatClampNeg)), (6, .int (v6 + 1)), (9, .int (v8 <<< ((st 0) &&& 31))), (0, .ref h0), (1, .int v1), (2, .int v2), (3, .int v3), (5, .int v5), (7, .int v7), (8, .int v8)]) hx hb dX0_choosePiece_144 hl (by decide) rfl (fun ls hl => ?_)
                    refine lv_iload hx hb dX0_choosePiece_146 (lv_at hl 9 rfl) ?_
                    refine lv_istore_n (lv' := [(3, .int v8), (4, .int (b (v8 <<< ((st 0) &&& 31)).toNatClampNeg)), (6, .int (v6 + 1)), (9, .int (v8 <<< ((st 0) &&& 31))), (0, .ref h0), (1, .int v1), (2, .int v2), (5, .int v5), (7, .int v7), (8, .int v8)]) hx hb dX0_choosePiece_148 rfl hl (by decide) rfl (fun ls hl => ?_)
                    refine lv_iinc (v := (v8 + 1)) (lv' := [(8, .int (v8 + 1)), (3, .int v8), (4, .int (b (v8 <<< ((st 0) &&& 31)).toNatClampNeg)), (6, .int (v6 + 1)), (9, .int (v8 <<< ((st 0) &&& 31))), (0, .ref h0), (1, .int v1), (2, .int v2), (5, .int v5), (7, .int v7)]) hx hb dX0_choosePiece_149 hl (k := 9) rfl rfl (by decide) rfl (fun ls hl => ?_)
                    refine lv_goto (tgt := 26) hx hb dX0_choosePiece_152 (by decide) ?_
                    exact ih v1 v2 v8 (b (v8 <<< ((st 0) &&& 31)).toNatClampNeg) v5 (v6 + 1) v7 (v8 + 1) h ls (lv_sub hl [5, 6, 7, 1, 2, 8, 3, 9, 0] rfl)
                  · replace h := zf c9 h
                    refine lv_aload_n hx hb dX0_choosePiece_125 rfl (lv_at hl 2 rfl) ?_
                    refine va_get (ci := 0) (v := .ref h1) (C := RX0) (T := TX0) (N := 9) hx hb hts uX0_choosePiece_X0 hown hK hP 0 rfl rfl 0 (by decide) (hts _ mX0_choosePiece_9) (fun _ h9 => h9) rfl dX0_choosePiece_126 ?_
                    refine lv_iload hx hb dX0_choosePiece_129 (lv_at hl 1 rfl) ?_
                    obtain ⟨i11, h⟩ := zi h
                    refine za_ild hx hb hK hP 1 rfl _ rfl i11 dX0_choosePiece_131 ?_
                    refine lv_iload hx hb dX0_choosePiece_132 (lv_at hl 6 rfl) ?_
                    refine lv_icmp_ge (tgt := 149) hx hb dX0_choosePiece_134 (by decide) (fun c12 => ?_) (fun c12 => ?_)
                    · replace h := zt c12 h
                      refine lv_iinc (v := (v8 + 1)) (lv' := [(8, .int (v8 + 1)), (6, .int (v6 + 1)), (9, .int (v8 <<< ((st 0) &&& 31))), (0, .ref h0), (1, .int v1), (2, .int v2), (3, .int v3), (4, .int v4), (5, .int v5), (7, .int v7)]) hx hb dX0_choosePiece_149 hl (k := 9) rfl rfl (by decide) rfl (fun ls hl => ?_)
                      refine lv_goto (tgt := 26) hx hb dX0_choosePiece_152 (by decide) ?_
                      exact ih v1 v2 v3 v4 v5 (v6 + 1) v7 (v8 + 1) h ls (lv_sub hl [3, 4, 5, 6, 7, 8, 1, 9, 0] rfl)
                    · replace h := zf c12 h
                      refine lv_aload_n hx hb dX0_choosePiece_137 rfl (lv_at hl 2 rfl) ?_
                      refine va_get (ci := 0) (v := .ref h1) (C := RX0) (T := TX0) (N := 9) hx hb hts uX0_choosePiece_X0 hown hK hP 0 rfl rfl 0 (by decide) (hts _ mX0_choosePiece_9) (fun _ h9 => h9) rfl dX0_choosePiece_138 ?_
                      refine lv_iload hx hb dX0_choosePiece_141 (lv_at hl 1 rfl) ?_
                      obtain ⟨i13, h⟩ := zi h
                      refine za_ild hx hb hK hP 1 rfl _ rfl i13 dX0_choosePiece_143 ?_
                      refine lv_istore (lv' := [(4, .int (b (v8 <<< ((st 0) &&& 31)).toNatClampNeg)), (6, .int (v6 + 1)), (9, .int (v8 <<< ((st 0) &&& 31))), (0, .ref h0), (1, .int v1), (2, .int v2), (3, .int v3), (5, .int v5), (7, .int v7), (8, .int v8)]) hx hb dX0_choosePiece_144 hl (by decide) rfl (fun ls hl => ?_)
                      refine lv_iload hx hb dX0_choosePiece_146 (lv_at hl 9 rfl) ?_
                      refine lv_istore_n (lv' := [(3, .int v8), (4, .int (b (v8 <<< ((st 0) &&& 31)).toNatClampNeg)), (6, .int (v6 + 1)), (9, .int (v8 <<< ((st 0) &&& 31))), (0, .ref h0), (1, .int v1), (2, .int v2), (5, .int v5), (7, .int v7), (8, .int v8)]) hx hb dX0_choosePiece_148 rfl hl (by decide) rfl (fun ls hl => ?_)
                      refine lv_iinc (v := (v8 + 1)) (lv' := [(8, .int (v8 + 1)), (3, .int v8), (4, .int (b (v8 <<< ((st 0) &&& 31)).toNatClampNeg)), (6, .int (v6 + 1)), (9, .int (v8 <<< ((st 0) &&& 31))), (0, .ref h0), (1, .int v1), (2, .int v2), (5, .int v5), (7, .int v7)]) hx hb dX0_choosePiece_149 hl (k := 9) rfl rfl (by decide) rfl (fun ls hl => ?_)
                      refine lv_goto (tgt := 26) hx hb dX0_choosePiece_152 (by decide) ?_
                      exact ih v1 v2 v8 (b (v8 <<< ((st 0) &&& 31)).toNatClampNeg) v5 (v6 + 1) v7 (v8 + 1) h ls (lv_sub hl [5, 6, 7, 1, 2, 8, 3, 9, 0] rfl)
                · replace h := zt c8 h
                  refine lv_iload hx hb dX0_choosePiece_98 (lv_at hl 0 rfl) ?_
                  refine lv_iload hx hb dX0_choosePiece_100 (lv_at hl 7 rfl) ?_
                  refine lv_icmp_le (tgt := 149) hx hb dX0_choosePiece_102 (by decide) (fun c14 => ?_) (fun c14 => ?_)
                  · replace h := zt c14 h
                    refine lv_iinc (v := (v8 + 1)) (lv' := [(8, .int (v8 + 1)), (6, .int (v6 + 1)), (9, .int (v8 <<< ((st 0) &&& 31))), (0, .ref h0), (1, .int v1), (2, .int v2), (3, .int v3), (4, .int v4), (5, .int v5), (7, .int v7)]) hx hb dX0_choosePiece_149 hl (k := 9) rfl rfl (by decide) rfl (fun ls hl => ?_)
                    refine lv_goto (tgt := 26) hx hb dX0_choosePiece_152 (by decide) ?_
                    exact ih v1 v2 v3 v4 v5 (v6 + 1) v7 (v8 + 1) h ls (lv_sub hl [3, 4, 5, 6, 7, 8, 1, 9, 0] rfl)
                  · replace h := zf c14 h
                    refine lv_iload hx hb dX0_choosePiece_105 (lv_at hl 0 rfl) ?_
                    refine lv_istore (lv' := [(5, .int (v6 + 1)), (6, .int (v6 + 1)), (9, .int (v8 <<< ((st 0) &&& 31))), (0, .ref h0), (1, .int v1), (2, .int v2), (3, .int v3), (4, .int v4), (7, .int v7), (8, .int v8)]) hx hb dX0_choosePiece_107 hl (by decide) rfl (fun ls hl => ?_)
                    refine lv_iload hx hb dX0_choosePiece_109 (lv_at hl 9 rfl) ?_
                    refine lv_iload hx hb dX0_choosePiece_111 (lv_at hl 1 rfl) ?_
                    refine lv_isub hx hb dX0_choosePiece_113 ?_
                    refine lv_iconst (v := 1) hx hb dX0_choosePiece_114 (by decide) ?_
                    refine lv_iadd hx hb dX0_choosePiece_115 ?_
                    refine lv_istore_n (lv' := [(3, .int ((v8 - (v6 + 1)) + 1)), (5, .int (v6 + 1)), (6, .int (v6 + 1)), (9, .int (v8 <<< ((st 0) &&& 31))), (0, .ref h0), (1, .int v1), (2, .int v2), (4, .int v4), (7, .int v7), (8, .int v8)]) hx hb dX0_choosePiece_116 rfl hl (by decide) rfl (fun ls hl => ?_)
                    refine lv_goto (tgt := 149) hx hb dX0_choosePiece_117 (by decide) ?_
                    refine lv_iinc (v := (v8 + 1)) (lv' := [(8, .int (v8 + 1)), (3, .int ((v8 - (v6 + 1)) + 1)), (5, .int (v6 + 1)), (6, .int (v6 + 1)), (9, .int (v8 <<< ((st 0) &&& 31))), (0, .ref h0), (1, .int v1), (2, .int v2), (4, .int v4), (7, .int v7)]) hx hb dX0_choosePiece_149 hl (k := 9) rfl rfl (by decide) rfl (fun ls hl => ?_)
                    refine lv_goto (tgt := 26) hx hb dX0_choosePiece_152 (by decide) ?_
                    exact ih v1 v2 ((v8 - (v6 + 1)) + 1) v4 (v6 + 1) (v6 + 1) v7 (v8 + 1) h ls (lv_sub hl [5, 6, 7, 1, 8, 2, 3, 9, 0] rfl)
              · replace h := zt c7 h
                refine lv_iload hx hb dX0_choosePiece_90 (lv_at hl 9 rfl) ?_
                cases h
                exact zr_i hx hb hr hlocks dX0_choosePiece_92
            · replace h := zt c6 h
              refine lv_iconst (v := 0) hx hb dX0_choosePiece_76 (by decide) ?_
              refine lv_istore (lv' := [(6, .int 0), (9, .int (v8 <<< ((st 0) &&& 31))), (0, .ref h0), (1, .int v1), (2, .int v2), (3, .int v3), (4, .int v4), (5, .int v5), (7, .int v7), (8, .int v8)]) hx hb dX0_choosePiece_77 hl (by decide) rfl (fun ls hl => ?_)
              refine lv_goto (tgt := 149) hx hb dX0_choosePiece_79 (by decide) ?_
              refine lv_iinc (v := (v8 + 1)) (lv' := [(8, .int (v8 + 1)), (6, .int 0), (9, .int (v8 <<< ((st 0) &&& 31))), (0, .ref h0), (1, .int v1), (2, .int v2), (3, .int v3), (4, .int v4), (5, .int v5), (7, .int v7)]) hx hb dX0_choosePiece_149 hl (k := 9) rfl rfl (by decide) rfl (fun ls hl => ?_)
              refine lv_goto (tgt := 26) hx hb dX0_choosePiece_152 (by decide) ?_
              exact ih v1 v2 v3 v4 v5 0 v7 (v8 + 1) h ls (lv_sub hl [3, 4, 5, 6, 7, 8, 1, 9, 0] rfl)
          · replace h := zf c4 h
            refine lv_aload_n hx hb dX0_choosePiece_58 rfl (lv_at hl 1 rfl) ?_
            refine lv_iload hx hb dX0_choosePiece_59 (lv_at hl 0 rfl) ?_
            obtain ⟨r15, e15, h⟩ := zb h
            refine zV (As := [.int (v8 <<< ((st 0) &&& 31))]) (rest := []) (zQi_q _) ⟨hx, hb, hml, hown, hts⟩ (kX0_isDue l g h0 h1 h2 h3 h4 b pF pL st tm qt cm ds dr (v8 <<< ((st 0) &&& 31)) e15) (cwV 1 hts gX0_choosePiece_X0_isDue rfl rfl rfl hdV_X0_isDue ⟨Nat.le_of_ble_eq_true rfl, Nat.le_of_ble_eq_true rfl⟩) hK hP [0, 1, 2, 3, 4] rfl 0 rfl rfl rfl hl.1 rfl (Nat.le_of_ble_eq_true rfl) ⟨Nat.zero_le _, Nat.zero_le _⟩ dX0_choosePiece_61 ?_
            refine lv_if_eq (tgt := 76) hx hb dX0_choosePiece_64 (by decide) (fun c16 => ?_) (fun c16 => ?_)
            · replace h := zt c16 h
              refine lv_iconst (v := 0) hx hb dX0_choosePiece_76 (by decide) ?_
              refine lv_istore (lv' := [(6, .int 0), (9, .int (v8 <<< ((st 0) &&& 31))), (0, .ref h0), (1, .int v1), (2, .int v2), (3, .int v3), (4, .int v4), (5, .int v5), (7, .int v7), (8, .int v8)]) hx hb dX0_choosePiece_77 hl (by decide) rfl (fun ls hl => ?_)
              refine lv_goto (tgt := 149) hx hb dX0_choosePiece_79 (by decide) ?_
              refine lv_iinc (v := (v8 + 1)) (lv' := [(8, .int (v8 + 1)), (6, .int 0), (9, .int (v8 <<< ((st 0) &&& 31))), (0, .ref h0), (1, .int v1), (2, .int v2), (3, .int v3), (4, .int v4), (5, .int v5), (7, .int v7)]) hx hb dX0_choosePiece_149 hl (k := 9) rfl rfl (by decide) rfl (fun ls hl => ?_)
              refine lv_goto (tgt := 26) hx hb dX0_choosePiece_152 (by decide) ?_
              exact ih v1 v2 v3 v4 v5 0 v7 (v8 + 1) h ls (lv_sub hl [3, 4, 5, 6, 7, 8, 1, 9, 0] rfl)
            · replace h := zf c16 h
              refine lv_aload_n hx hb dX0_choosePiece_67 rfl (lv_at hl 1 rfl) ?_
              refine lv_iload hx hb dX0_choosePiece_68 (lv_at hl 9 rfl) ?_
              obtain ⟨r17, e17, h⟩ := zb h
              refine zV (As := [.int v8]) (rest := []) (zQi_q _) ⟨hx, hb, hml, hown, hts⟩ (kX0_isFree l g h0 h1 h2 h3 h4 b pF pL st tm qt cm ds dr v8 e17) (cwV 1 hts gX0_choosePiece_X0_isFree rfl rfl rfl hdV_X0_isFree ⟨Nat.le_of_ble_eq_true rfl, Nat.le_of_ble_eq_true rfl⟩) hK hP [0, 1, 2, 3, 4] rfl 0 rfl rfl rfl hl.1 rfl (Nat.le_of_ble_eq_true rfl) ⟨Nat.zero_le _, Nat.zero_le _⟩ dX0_choosePiece_70 ?_
              refine lv_if_ne (tgt := 82) hx hb dX0_choosePiece_73 (by decide) (fun c18 => ?_) (fun c18 => ?_)
              · replace h := zf c18 h
                refine lv_iinc (v := (v6 + 1)) (lv' := [(6, .int (v6 + 1)), (9, .int (v8 <<< ((st 0) &&& 31))), (0, .ref h0), (1, .int v1), (2, .int v2), (3, .int v3), (4, .int v4), (5, .int v5), (7, .int v7), (8, .int v8)]) hx hb dX0_choosePiece_82 hl (k := 7) rfl rfl (by decide) rfl (fun ls hl => ?_)
                refine lv_iload_n hx hb dX0_choosePiece_85 rfl (lv_at hl 4 rfl) ?_
                refine lv_iconst (v := 2) hx hb dX0_choosePiece_86 (by decide) ?_
                refine lv_icmp_ne (tgt := 93) hx hb dX0_choosePiece_87 (by decide) (fun c19 => ?_) (fun c19 => ?_)
                · replace h := zf c19 h
                  refine lv_iload_n hx hb dX0_choosePiece_93 rfl (lv_at hl 4 rfl) ?_
                  refine lv_iconst (v := 1) hx hb dX0_choosePiece_94 (by decide) ?_
                  refine lv_icmp_ne (tgt := 120) hx hb dX0_choosePiece_95 (by decide) (fun c20 => ?_) (fun c20 => ?_)
                  · replace h := zf c20 h
                    refine lv_iload_n hx hb dX0_choosePiece_120 rfl (lv_at hl 5 rfl) ?_
                    refine lv_iconst (v := (-1)) hx hb dX0_choosePiece_121 (by decide) ?_
                    refine lv_icmp_eq (tgt := 137) hx hb dX0_choosePiece_122 (by decide) (fun c21 => ?_) (fun c21 => ?_)
                    · replace h := zt c21 h
                      refine lv_aload_n hx hb dX0_choosePiece_137 rfl (lv_at hl 2 rfl) ?_
                      refine va_get (ci := 0) (v := .ref h1) (C := RX0) (T := TX0) (N := 9) hx hb hts uX0_choosePiece_X0 hown hK hP 0 rfl rfl 0 (by decide) (hts _ mX0_choosePiece_9) (fun _ h9 => h9) rfl dX0_choosePiece_138 ?_
                      refine lv_iload hx hb dX0_choosePiece_141 (lv_at hl 1 rfl) ?_
                      obtain ⟨i22, h⟩ := zi h
                      refine za_ild hx hb hK hP 1 rfl _ rfl i22 dX0_choosePiece_143 ?_
                      refine lv_istore (lv' := [(4, .int (b (v8 <<< ((st 0) &&& 31)).toNatClampNeg)), (6, .int (v6 + 1)), (9, .int (v8 <<< ((st 0) &&& 31))), (0, .ref h0), (1, .int v1), (2, .int v2), (3, .int v3), (5, .int v5), (7, .int v7), (8, .int v8)]) hx hb dX0_choosePiece_144 hl (by decide) rfl (fun ls hl => ?_)
                      refine lv_iload hx hb dX0_choosePiece_146 (lv_at hl 9 rfl) ?_
                      refine lv_istore_n (lv' := [(3, .int v8), (4, .int (b (v8 <<< ((st 0) &&& 31)).toNatClampNeg)), (6, .int (v6 + 1)), (9, .int (v8 <<< ((st 0) &&& 31))), (0, .ref h0), (1, .int v1), (2, .int v2), (5, .int v5), (7, .int v7), (8, .int v8)]) hx hb dX0_choosePiece_148 rfl hl (by decide) rfl (fun ls hl => ?_)
                      refine lv_iinc (v := (v8 + 1)) (lv' := [(8, .int (v8 + 1)), (3, .int v8), (4, .int (b (v8 <<< ((st 0) &&& 31)).toNatClampNeg)), (6, .int (v6 + 1)), (9, .int (v8 <<< ((st 0) &&& 31))), (0, .ref h0), (1, .int v1), (2, .int v2), (5, .int v5), (7, .int v7)]) hx hb dX0_choosePiece_149 hl (k := 9) rfl rfl (by decide) rfl (fun ls hl => ?_)
                      refine lv_goto (tgt := 26) hx hb dX0_choosePiece_152 (by decide) ?_
                      exact ih v1 v2 v8 (b (v8 <<< ((st 0) &&& 31)).toNatClampNeg) v5 (v6 + 1) v7 (v8 + 1) h ls (lv_sub hl [5, 6, 7, 1, 2, 8, 3, 9, 0] rfl)
                    · replace h := zf c21 h
                      refine lv_aload_n hx hb dX0_choosePiece_125 rfl (lv_at hl 2 rfl) ?_
                      refine va_get (ci := 0) (v := .ref h1) (C := RX0) (T := TX0) (N := 9) hx hb hts uX0_choosePiece_X0 hown hK hP 0 rfl rfl 0 (by decide) (hts _ mX0_choosePiece_9) (fun _ h9 => h9) rfl dX0_choosePiece_126 ?_
                      refine lv_iload hx hb dX0_choosePiece_129 (lv_at hl 1 rfl) ?_
                      obtain ⟨i23, h⟩ := zi h
                      refine za_ild hx hb hK hP 1 rfl _ rfl i23 dX0_choosePiece_131 ?_
                      refine lv_iload hx hb dX0_choosePiece_132 (lv_at hl 6 rfl) ?_
                      refine lv_icmp_ge (tgt := 149) hx hb dX0_choosePiece_134 (by decide) (fun c24 => ?_) (fun c24 => ?_)
                      · replace h := zt c24 h
                        refine lv_iinc (v := (v8 + 1)) (lv' := [(8, .int (v8 + 1)), (6, .int (v6 + 1)), (9, .int (v8 <<< ((st 0) &&& 31))), (0, .ref h0), (1, .int v1), (2, .int v2), (3, .int v3), (4, .int v4), (5, .int v5), (7, .int v7)]) hx hb dX0_choosePiece_149 hl (k := 9) rfl rfl (by decide) rfl (fun ls hl => ?_)
                        refine lv_goto (tgt := 26) hx hb dX0_choosePiece_152 (by decide) ?_
                        exact ih v1 v2 v3 v4 v5 (v6 + 1) v7 (v8 + 1) h ls (lv_sub hl [3, 4, 5, 6, 7, 8, 1, 9, 0] rfl)
                      · replace h := zf c24 h
                        refine lv_aload_n hx hb dX0_choosePiece_137 rfl (lv_at hl 2 rfl) ?_
                        refine va_get (ci := 0) (v := .ref h1) (C := RX0) (T := TX0) (N := 9) hx hb hts uX0_choosePiece_X0 hown hK hP 0 rfl rfl 0 (by decide) (hts _ mX0_choosePiece_9) (fun _ h9 => h9) rfl dX0_choosePiece_138 ?_
                        refine lv_iload hx hb dX0_choosePiece_141 (lv_at hl 1 rfl) ?_
                        obtain ⟨i25, h⟩ := zi h
                        refine za_ild hx hb hK hP 1 rfl _ rfl i25 dX0_choosePiece_143 ?_
                        refine lv_istore (lv' := [(4, .int (b (v8 <<< ((st 0) &&& 31)).toNatClampNeg)), (6, .int (v6 + 1)), (9, .int (v8 <<< ((st 0) &&& 31))), (0, .ref h0), (1, .int v1), (2, .int v2), (3, .int v3), (5, .int v5), (7, .int v7), (8, .int v8)]) hx hb dX0_choosePiece_144 hl (by decide) rfl (fun ls hl => ?_)
                        refine lv_iload hx hb dX0_choosePiece_146 (lv_at hl 9 rfl) ?_
                        refine lv_istore_n (lv' := [(3, .int v8), (4, .int (b (v8 <<< ((st 0) &&& 31)).toNatClampNeg)), (6, .int (v6 + 1)), (9, .int (v8 <<< ((st 0) &&& 31))), (0, .ref h0), (1, .int v1), (2, .int v2), (5, .int v5), (7, .int v7), (8, .int v8)]) hx hb dX0_choosePiece_148 rfl hl (by decide) rfl (fun ls hl => ?_)
                        refine lv_iinc (v := (v8 + 1)) (lv' := [(8, .int (v8 + 1)), (3, .int v8), (4, .int (b (v8 <<< ((st 0) &&& 31)).toNatClampNeg)), (6, .int (v6 + 1)), (9, .int (v8 <<< ((st 0) &&& 31))), (0, .ref h0), (1, .int v1), (2, .int v2), (5, .int v5), (7, .int v7)]) hx hb dX0_choosePiece_149 hl (k := 9) rfl rfl (by decide) rfl (fun ls hl => ?_)
                        refine lv_goto (tgt := 26) hx hb dX0_choosePiece_152 (by decide) ?_
                        exact ih v1 v2 v8 (b (v8 <<< ((st 0) &&& 31)).toNatClampNeg) v5 (v6 + 1) v7 (v8 + 1) h ls (lv_sub hl [5, 6, 7, 1, 2, 8, 3, 9, 0] rfl)
                  · replace h := zt c20 h
                    refine lv_iload hx hb dX0_choosePiece_98 (lv_at hl 0 rfl) ?_
                    refine lv_iload hx hb dX0_choosePiece_100 (lv_at hl 7 rfl) ?_
                    refine lv_icmp_le (tgt := 149) hx hb dX0_choosePiece_102 (by decide) (fun c26 => ?_) (fun c26 => ?_)
                    · replace h := zt c26 h
                      refine lv_iinc (v := (v8 + 1)) (lv' := [(8, .int (v8 + 1)), (6, .int (v6 + 1)), (9, .int (v8 <<< ((st 0) &&& 31))), (0, .ref h0), (1, .int v1), (2, .int v2), (3, .int v3), (4, .int v4), (5, .int v5), (7, .int v7)]) hx hb dX0_choosePiece_149 hl (k := 9) rfl rfl (by decide) rfl (fun ls hl => ?_)
                      refine lv_goto (tgt := 26) hx hb dX0_choosePiece_152 (by decide) ?_
                      exact ih v1 v2 v3 v4 v5 (v6 + 1) v7 (v8 + 1) h ls (lv_sub hl [3, 4, 5, 6, 7, 8, 1, 9, 0] rfl)
                    · replace h := zf c26 h
                      refine lv_iload hx hb dX0_choosePiece_105 (lv_at hl 0 rfl) ?_
                      refine lv_istore (lv' := [(5, .int (v6 + 1)), (6, .int (v6 + 1)), (9, .int (v8 <<< ((st 0) &&& 31))), (0, .ref h0), (1, .int v1), (2, .int v2), (3, .int v3), (4, .int v4), (7, .int v7), (8, .int v8)]) hx hb dX0_choosePiece_107 hl (by decide) rfl (fun ls hl => ?_)
                      refine lv_iload hx hb dX0_choosePiece_109 (lv_at hl 9 rfl) ?_
                      refine lv_iload hx hb dX0_choosePiece_111 (lv_at hl 1 rfl) ?_
                      refine lv_isub hx hb dX0_choosePiece_113 ?_
                      refine lv_iconst (v := 1) hx hb dX0_choosePiece_114 (by decide) ?_
                      refine lv_iadd hx hb dX0_choosePiece_115 ?_
                      refine lv_istore_n (lv' := [(3, .int ((v8 - (v6 + 1)) + 1)), (5, .int (v6 + 1)), (6, .int (v6 + 1)), (9, .int (v8 <<< ((st 0) &&& 31))), (0, .ref h0), (1, .int v1), (2, .int v2), (4, .int v4), (7, .int v7), (8, .int v8)]) hx hb dX0_choosePiece_116 rfl hl (by decide) rfl (fun ls hl => ?_)
                      refine lv_goto (tgt := 149) hx hb dX0_choosePiece_117 (by decide) ?_
                      refine lv_iinc (v := (v8 + 1)) (lv' := [(8, .int (v8 + 1)), (3, .int ((v8 - (v6 + 1)) + 1)), (5, .int (v6 + 1)), (6, .int (v6 + 1)), (9, .int (v8 <<< ((st 0) &&& 31))), (0, .ref h0), (1, .int v1), (2, .int v2), (4, .int v4), (7, .int v7)]) hx hb dX0_choosePiece_149 hl (k := 9) rfl rfl (by decide) rfl (fun ls hl => ?_)
                      refine lv_goto (tgt := 26) hx hb dX0_choosePiece_152 (by decide) ?_
                      exact ih v1 v2 ((v8 - (v6 + 1)) + 1) v4 (v6 + 1) (v6 + 1) v7 (v8 + 1) h ls (lv_sub hl [5, 6, 7, 1, 8, 2, 3, 9, 0] rfl)
                · replace h := zt c19 h
                  refine lv_iload hx hb dX0_choosePiece_90 (lv_at hl 9 rfl) ?_
                  cases h
                  exact zr_i hx hb hr hlocks dX0_choosePiece_92
              · replace h := zt c18 h
                refine lv_iconst (v := 0) hx hb dX0_choosePiece_76 (by decide) ?_
                refine lv_istore (lv' := [(6, .int 0), (9, .int (v8 <<< ((st 0) &&& 31))), (0, .ref h0), (1, .int v1), (2, .int v2), (3, .int v3), (4, .int v4), (5, .int v5), (7, .int v7), (8, .int v8)]) hx hb dX0_choosePiece_77 hl (by decide) rfl (fun ls hl => ?_)
                refine lv_goto (tgt := 149) hx hb dX0_choosePiece_79 (by decide) ?_
                refine lv_iinc (v := (v8 + 1)) (lv' := [(8, .int (v8 + 1)), (6, .int 0), (9, .int (v8 <<< ((st 0) &&& 31))), (0, .ref h0), (1, .int v1), (2, .int v2), (3, .int v3), (4, .int v4), (5, .int v5), (7, .int v7)]) hx hb dX0_choosePiece_149 hl (k := 9) rfl rfl (by decide) rfl (fun ls hl => ?_)
                refine lv_goto (tgt := 26) hx hb dX0_choosePiece_152 (by decide) ?_
                exact ih v1 v2 v3 v4 v5 0 v7 (v8 + 1) h ls (lv_sub hl [3, 4, 5, 6, 7, 8, 1, 9, 0] rfl)
  unfold fX0_choosePiece at h
  refine lv_iconst (v := (-1)) hx hb dX0_choosePiece_0 (by decide) ?_
  refine lv_istore_n (lv' := [(3, .int (-1)), (0, .ref h0), (1, .int a1), (2, .int a2)]) hx hb dX0_choosePiece_1 rfl hl (by decide) rfl (fun ls hl => ?_)
  refine lv_iconst (v := 0) hx hb dX0_choosePiece_2 (by decide) ?_
  refine lv_istore (lv' := [(4, .int 0), (3, .int (-1)), (0, .ref h0), (1, .int a1), (2, .int a2)]) hx hb dX0_choosePiece_3 hl (by decide) rfl (fun ls hl => ?_)
  refine lv_iconst (v := 0) hx hb dX0_choosePiece_5 (by decide) ?_
  refine lv_istore (lv' := [(5, .int 0), (4, .int 0), (3, .int (-1)), (0, .ref h0), (1, .int a1), (2, .int a2)]) hx hb dX0_choosePiece_6 hl (by decide) rfl (fun ls hl => ?_)
  refine lv_iconst (v := 0) hx hb dX0_choosePiece_8 (by decide) ?_
  refine lv_istore (lv' := [(6, .int 0), (5, .int 0), (4, .int 0), (3, .int (-1)), (0, .ref h0), (1, .int a1), (2, .int a2)]) hx hb dX0_choosePiece_9 hl (by decide) rfl (fun ls hl => ?_)
  refine lv_sipush (v := 256) hx hb dX0_choosePiece_11 (by decide) ?_
  refine lv_aload_n hx hb dX0_choosePiece_14 rfl (lv_at hl 4 rfl) ?_
  refine va_get (ci := 0) (v := .ref h4) (C := RX0) (T := TX0) (N := 9) hx hb hts uX0_choosePiece_X0 hown hK hP 0 rfl rfl 3 (by decide) (hts _ mX0_choosePiece_21) (fun _ h9 => h9) rfl dX0_choosePiece_15 ?_
  refine lv_iconst (v := 0) hx hb dX0_choosePiece_18 (by decide) ?_
  refine za_ild hx hb hK hP 4 rfl 0 (by decide) (by decide) dX0_choosePiece_19 ?_
  refine lv_ishr hx hb dX0_choosePiece_20 ?_
  refine lv_istore (lv' := [(7, .int (256 >>> ((st 0) &&& 31))), (6, .int 0), (5, .int 0), (4, .int 0), (3, .int (-1)), (0, .ref h0), (1, .int a1), (2, .int a2)]) hx hb dX0_choosePiece_21 hl (by decide) rfl (fun ls hl => ?_)
  refine lv_iconst (v := 0) hx hb dX0_choosePiece_23 (by decide) ?_
  refine lv_istore (lv' := [(8, .int 0), (7, .int (256 >>> ((st 0) &&& 31))), (6, .int 0), (5, .int 0), (4, .int 0), (3, .int (-1)), (0, .ref h0), (1, .int a1), (2, .int a2)]) hx hb dX0_choosePiece_24 hl (by decide) rfl (fun ls hl => ?_)
  exact loop_26 1000 a1 a2 (-1) 0 0 0 (256 >>> ((st 0) &&& 31)) 0 h ls (lv_sub hl [6, 7, 8, 5, 4, 3, 2, 1, 0] rfl)
def fX0_budgetOfTick (st : Nat → Int32) (qt : Int32) : Option (Int32) :=
  if qt < (st 1) then
    some 0
  else
    some (st 2)
theorem mX0_budgetOfTick_46 : Cond.fieldLink RX0 46 "IdleDiscards$Device" "quiet" "I" ∈ wsX0_budgetOfTick := by decide +kernel
theorem uX0_budgetOfTick_X0 : ∀ w ∈ wsX00, w ∈ wsX0_budgetOfTick := by decide +kernel
theorem mX0_budgetOfTick_21 : Cond.fieldLink RX0 21 "IdleDiscards$Device" "settings" "[I" ∈ wsX0_budgetOfTick := by decide +kernel
set_option maxRecDepth 100000 in
set_option maxHeartbeats 4000000 in
theorem kX0_budgetOfTick (l : Launch) (g : zG) (h0 h1 h2 h3 h4 : Nat) (b : Nat → Int32) (pF : Nat → Int32) (pL : Nat → Int32) (st : Nat → Int32) (tm : Int32) (qt : Int32) (cm : Int32) (ds : Int32) (dr : Int32) {r : Int32} (h : fX0_budgetOfTick st qt = some r) : Mr l g yX0_budgetOfTick wsX0_budgetOfTick { frames := 0, cells := 0, slots := 0, locals := 0 } [.ref h0] (zD g h0 h1 h2 h3 h4 b pF pL st tm qt cm ds dr) (zQi r) := by
  refine zr_in (cc := cX0_budgetOfTick) (maxL := 1) (ret := (some .int)) (by decide) rfl (Nat.le_of_ble_eq_true rfl) ?_
  intro p e s m below meth c hx hb hr hml hts hown hlocks hP hK ls hl
  replace hl : lv_has ls 1 [(0, .ref h0)] := hl
  unfold fX0_budgetOfTick at h
  refine lv_aload_n hx hb dX0_budgetOfTick_0 rfl (lv_at hl 0 rfl) ?_
  refine va_get (ci := 0) (v := .int qt) (C := RX0) (T := TX0) (N := 9) hx hb hts uX0_budgetOfTick_X0 hown hK hP 0 rfl rfl 5 (by decide) (hts _ mX0_budgetOfTick_46) (fun _ h9 => h9) rfl dX0_budgetOfTick_1 ?_
  refine lv_aload_n hx hb dX0_budgetOfTick_4 rfl (lv_at hl 0 rfl) ?_
  refine va_get (ci := 0) (v := .ref h4) (C := RX0) (T := TX0) (N := 9) hx hb hts uX0_budgetOfTick_X0 hown hK hP 0 rfl rfl 3 (by decide) (hts _ mX0_budgetOfTick_21) (fun _ h9 => h9) rfl dX0_budgetOfTick_5 ?_
  refine lv_iconst (v := 1) hx hb dX0_budgetOfTick_8 (by decide) ?_
  refine za_ild hx hb hK hP 4 rfl 1 (by decide) (by decide) dX0_budgetOfTick_9 ?_
  refine lv_icmp_lt (tgt := 22) hx hb dX0_budgetOfTick_10 (by decide) (fun c1 => ?_) (fun c1 => ?_)
  · replace h := zt c1 h
    refine lv_iconst (v := 0) hx hb dX0_budgetOfTick_22 (by decide) ?_
    cases h
    exact zr_i hx hb hr hlocks dX0_budgetOfTick_23
  · replace h := zf c1 h
    refine lv_aload_n hx hb dX0_budgetOfTick_13 rfl (lv_at hl 0 rfl) ?_
    refine va_get (ci := 0) (v := .ref h4) (C := RX0) (T := TX0) (N := 9) hx hb hts uX0_budgetOfTick_X0 hown hK hP 0 rfl rfl 3 (by decide) (hts _ mX0_budgetOfTick_21) (fun _ h9 => h9) rfl dX0_budgetOfTick_14 ?_
    refine lv_iconst (v := 2) hx hb dX0_budgetOfTick_17 (by decide) ?_
    refine za_ild hx hb hK hP 4 rfl 2 (by decide) (by decide) dX0_budgetOfTick_18 ?_
    refine lv_goto (tgt := 23) hx hb dX0_budgetOfTick_19 (by decide) ?_
    cases h
    exact zr_i hx hb hr hlocks dX0_budgetOfTick_23
def fX0_mostGranules (st : Nat → Int32) (a1 : Int32) : Option (Int32) :=
  some (if (a1 - (st 4)) < 16 then (a1 - (st 4)) else 16)
theorem mX0_mostGranules_21 : Cond.fieldLink RX0 21 "IdleDiscards$Device" "settings" "[I" ∈ wsX0_mostGranules := by decide +kernel
theorem uX0_mostGranules_X0 : ∀ w ∈ wsX00, w ∈ wsX0_mostGranules := by decide +kernel
theorem mX0_mostGranules_111 : Cond.methodLink RX0 111 Lib.Math.min.name ∈ wsX0_mostGranules := by decide +kernel
theorem mX0_mostGranules_mst : Cond.static Lib.Math.min.name ∈ wsX0_mostGranules := by decide +kernel
theorem mX0_mostGranules_min : Cond.initialized "java/lang/Math" ∈ wsX0_mostGranules := by decide +kernel
theorem mX0_mostGranules_mco : Cond.code Lib.Math.min.name Lib.Math.min.code 2 (some .int) ∈ wsX0_mostGranules := by decide +kernel
set_option maxRecDepth 100000 in
set_option maxHeartbeats 4000000 in
theorem kX0_mostGranules (l : Launch) (g : zG) (h0 h1 h2 h3 h4 : Nat) (b : Nat → Int32) (pF : Nat → Int32) (pL : Nat → Int32) (st : Nat → Int32) (tm : Int32) (qt : Int32) (cm : Int32) (ds : Int32) (dr : Int32) (a1 : Int32) {r : Int32} (h : fX0_mostGranules st a1 = some r) : Mr l g yX0_mostGranules wsX0_mostGranules { frames := 1, cells := 0, slots := 0, locals := 21 } [.ref h0, .int a1] (zD g h0 h1 h2 h3 h4 b pF pL st tm qt cm ds dr) (zQi r) := by
  refine zr_in (cc := cX0_mostGranules) (maxL := 2) (ret := (some .int)) (by decide) rfl (Nat.le_of_ble_eq_true rfl) ?_
  intro p e s m below meth c hx hb hr hml hts hown hlocks hP hK ls hl
  replace hl : lv_has ls 2 [(0, .ref h0), (1, .int a1)] := hl
  unfold fX0_mostGranules at h
  refine lv_bipush (v := 16) hx hb dX0_mostGranules_0 (by decide) ?_
  refine lv_iload_n hx hb dX0_mostGranules_2 rfl (lv_at hl 1 rfl) ?_
  refine lv_aload_n hx hb dX0_mostGranules_3 rfl (lv_at hl 0 rfl) ?_
  refine va_get (ci := 0) (v := .ref h4) (C := RX0) (T := TX0) (N := 9) hx hb hts uX0_mostGranules_X0 hown hK hP 0 rfl rfl 3 (by decide) (hts _ mX0_mostGranules_21) (fun _ h9 => h9) rfl dX0_mostGranules_4 ?_
  refine lv_iconst (v := 4) hx hb dX0_mostGranules_7 (by decide) ?_
  refine za_ild hx hb hK hP 4 rfl 4 (by decide) (by decide) dX0_mostGranules_8 ?_
  refine lv_isub hx hb dX0_mostGranules_9 ?_
  refine va_mmin hx hb (hml.trans hl.1.symm) hown (hts _ mX0_mostGranules_111) (hts _ mX0_mostGranules_mst) (hts _ mX0_mostGranules_min) (hts _ mX0_mostGranules_mco) (Nat.le_of_ble_eq_true rfl) (Nat.le_of_ble_eq_true rfl) (Nat.zero_le _) (Nat.zero_le _) dX0_mostGranules_10 ?_
  cases h
  exact zr_i hx hb hr hlocks dX0_mostGranules_13
def fX0_discard_22  : Nat → Int32 → Int32 → Int32 → (Nat → Int32) → (Int32) → (Int32) → (Int32) → Option ((Nat → Int32) × (Int32) × (Int32) × (Int32))
  | 0, _, _, _, _, _, _, _ => none
  | n + 1, v3, v4, v5, b, cm, ds, dr =>
    if (v3 + v4) ≤ v5 then
        ob2 (fX0_dropSurplus b dr) fun b2 dr2 =>
        some (b2, (cm + 1), (ds + v4), dr2)
      else
        if v5 < 0 ∨ 256 ≤ v5.toNatClampNeg then none else
        fX0_discard_22 n v3 v4 (v5 + 1) (upd b v5.toNatClampNeg (-1)) cm ds dr
def fX0_discard (b : Nat → Int32) (st : Nat → Int32) (cm : Int32) (ds : Int32) (dr : Int32) (a1 : Int32) (a2 : Int32) : Option ((Nat → Int32) × (Int32) × (Int32) × (Int32)) :=
  fX0_discard_22 1000 (a1 <<< ((st 0) &&& 31)) (a2 <<< ((st 0) &&& 31)) (a1 <<< ((st 0) &&& 31)) b cm ds dr
theorem mX0_discard_49 : Cond.fieldLink RX0 49 "IdleDiscards$Device" "commands" "I" ∈ wsX0_discard := by decide +kernel
theorem uX0_discard_X0 : ∀ w ∈ wsX00, w ∈ wsX0_discard := by decide +kernel
theorem mX0_discard_52 : Cond.fieldLink RX0 52 "IdleDiscards$Device" "discarded" "I" ∈ wsX0_discard := by decide +kernel
theorem mX0_discard_9 : Cond.fieldLink RX0 9 "IdleDiscards$Device" "blocks" "[I" ∈ wsX0_discard := by decide +kernel
theorem mX0_discard_21 : Cond.fieldLink RX0 21 "IdleDiscards$Device" "settings" "[I" ∈ wsX0_discard := by decide +kernel
set_option maxRecDepth 100000 in
set_option maxHeartbeats 4000000 in
theorem kX0_discard (l : Launch) (g : zG) (h0 h1 h2 h3 h4 : Nat) (b : Nat → Int32) (pF : Nat → Int32) (pL : Nat → Int32) (st : Nat → Int32) (tm : Int32) (qt : Int32) (cm : Int32) (ds : Int32) (dr : Int32) (a1 : Int32) (a2 : Int32) {b' : Nat → Int32} {cm' : Int32} {ds' : Int32} {dr' : Int32} (h : fX0_discard b st cm ds dr a1 a2 = some (b', cm', ds', dr')) : Mw l g yX0_discard wsX0_discard { frames := 2, cells := 0, slots := 0, locals := 48 } [.ref h0, .int a1, .int a2] (zD g h0 h1 h2 h3 h4 b pF pL st tm qt cm ds dr) (zWv g (zD g h0 h1 h2 h3 h4 b' pF pL st tm qt cm' ds' dr')) := by
  refine zw_in (cc := cX0_discard) (maxL := 6) (ret := none) (by decide) rfl (Nat.le_of_ble_eq_true rfl) ?_
  intro p e s m below meth c hx hb hr hml hts hown hlocks hK A hA hP hD hS ls hl
  replace hl : lv_has ls 6 [(0, .ref h0), (1, .int a1), (2, .int a2)] := hl
  have loop_22 : ∀ (n : Nat) (v3 : Int32) (v4 : Int32) (v5 : Int32) (b : (Nat → Int32)) (cm : (Int32)) (ds : (Int32)) (dr : (Int32)), fX0_discard_22 n v3 v4 v5 b cm ds dr = some (b', cm', ds', dr') → ∀ (H : Heap) (locs : List Loc), zP g (zD g h0 h1 h2 h3 h4 b pF pL st tm qt cm ds dr) H → va_D A (zD g h0 h1 h2 h3 h4 b pF pL st tm qt cm ds dr) → va_S A s.heap H locs → ∀ (ls : Array Slot), lv_has ls 6 [(0, .ref h0), (3, .int v3), (4, .int v4), (5, .int v5)] → W p l e ({ frames := 2, cells := 0, slots := 0, locals := 48 } : Room) s m [.ref h0, .int a1, .int a2].toArray below meth c H locs 0 0 (MQ below (zWv g (zD g h0 h1 h2 h3 h4 b' pF pL st tm qt cm' ds' dr') A) [.ref h0, .int a1, .int a2].toArray s 0 0 A) (F0 m 22 ls []) := by
    intro n
    induction n with
    | zero => intro v3 v4 v5 b cm ds dr h H locs hP hD hS ls hl; exact zn h
    | succ n ih =>
      intro v3 v4 v5 b cm ds dr h H locs hP hD hS ls hl
      rw [fX0_discard_22] at h
      refine lv_iload hx hb dX0_discard_22 (lv_at hl 3 rfl) ?_
      refine lv_iload_n hx hb dX0_discard_24 rfl (lv_at hl 1 rfl) ?_
      refine lv_iload hx hb dX0_discard_25 (lv_at hl 2 rfl) ?_
      refine lv_iadd hx hb dX0_discard_27 ?_
      refine lv_icmp_ge (tgt := 45) hx hb dX0_discard_28 (by decide) (fun c1 => ?_) (fun c1 => ?_)
      · replace h := zt c1 h
        refine lv_aload_n hx hb dX0_discard_45 rfl (lv_at hl 0 rfl) ?_
        refine lv_dup hx hb dX0_discard_46 rfl ?_
        refine va_get (ci := 0) (v := .int cm) (C := RX0) (T := TX0) (N := 9) hx hb hts uX0_discard_X0 hown hK hP 0 rfl rfl 6 (by decide) (hts _ mX0_discard_49) (fun _ h9 => h9) rfl dX0_discard_47 ?_
        refine lv_iconst (v := 1) hx hb dX0_discard_50 (by decide) ?_
        refine lv_iadd hx hb dX0_discard_51 ?_
        refine va_put (ci := 0) (v := .int (cm + 1)) (ty := .int) (C := RX0) (T := TX0) (N := 9) hx hb hts uX0_discard_X0 tyX0 tyX0_ok nmX0 hown hK hP hD hS 0 rfl rfl 6 (by decide) (hts _ mX0_discard_49) (fun _ h9 => h9) rfl (by decide +kernel) rfl rfl (Nat.le_of_ble_eq_true rfl) dX0_discard_52 (fun H locs hP hD hS => ?_)
        replace hP : zP g (zD g h0 h1 h2 h3 h4 b pF pL st tm qt (cm + 1) ds dr) H := hP
        replace hD : va_D A (zD g h0 h1 h2 h3 h4 b pF pL st tm qt (cm + 1) ds dr) := hD
        refine lv_aload_n hx hb dX0_discard_55 rfl (lv_at hl 0 rfl) ?_
        refine lv_dup hx hb dX0_discard_56 rfl ?_
        refine va_get (ci := 0) (v := .int ds) (C := RX0) (T := TX0) (N := 9) hx hb hts uX0_discard_X0 hown hK hP 0 rfl rfl 7 (by decide) (hts _ mX0_discard_52) (fun _ h9 => h9) rfl dX0_discard_57 ?_
        refine lv_iload hx hb dX0_discard_60 (lv_at hl 2 rfl) ?_
        refine lv_iadd hx hb dX0_discard_62 ?_
        refine va_put (ci := 0) (v := .int (ds + v4)) (ty := .int) (C := RX0) (T := TX0) (N := 9) hx hb hts uX0_discard_X0 tyX0 tyX0_ok nmX0 hown hK hP hD hS 0 rfl rfl 7 (by decide) (hts _ mX0_discard_52) (fun _ h9 => h9) rfl (by decide +kernel) rfl rfl (Nat.le_of_ble_eq_true rfl) dX0_discard_63 (fun H locs hP hD hS => ?_)
        replace hP : zP g (zD g h0 h1 h2 h3 h4 b pF pL st tm qt (cm + 1) (ds + v4) dr) H := hP
        replace hD : va_D A (zD g h0 h1 h2 h3 h4 b pF pL st tm qt (cm + 1) (ds + v4) dr) := hD
        refine lv_aload_n hx hb dX0_discard_66 rfl (lv_at hl 0 rfl) ?_
        obtain ⟨b2, dr2, e2, h⟩ := zb2 h
        refine zVw (As := []) (rest := []) (zWv_q g _) ⟨hx, hb, hml, hown, hts⟩ (kX0_dropSurplus l g h0 h1 h2 h3 h4 b pF pL st tm qt (cm + 1) (ds + v4) dr e2) (cwV 0 hts gX0_discard_X0_dropSurplus rfl rfl rfl hdV_X0_dropSurplus ⟨Nat.le_of_ble_eq_true rfl, Nat.le_of_ble_eq_true rfl⟩) hK hP hD hS hA [0, 1, 2, 3, 4] (by decide) rfl rfl 0 rfl rfl rfl hl.1 rfl (Nat.le_of_ble_eq_true rfl) ⟨Nat.zero_le _, Nat.zero_le _⟩ dX0_discard_67 (fun H locs hP hD hS => ?_)
        replace hP : zP g (zD g h0 h1 h2 h3 h4 b2 pF pL st tm qt (cm + 1) (ds + v4) dr2) H := hP
        replace hD : va_D A (zD g h0 h1 h2 h3 h4 b2 pF pL st tm qt (cm + 1) (ds + v4) dr2) := hD
        cases h
        exact zw_v hx hb hr hlocks hP hS dX0_discard_70
      · replace h := zf c1 h
        refine lv_aload_n hx hb dX0_discard_31 rfl (lv_at hl 0 rfl) ?_
        refine va_get (ci := 0) (v := .ref h1) (C := RX0) (T := TX0) (N := 9) hx hb hts uX0_discard_X0 hown hK hP 0 rfl rfl 0 (by decide) (hts _ mX0_discard_9) (fun _ h9 => h9) rfl dX0_discard_32 ?_
        refine lv_iload hx hb dX0_discard_35 (lv_at hl 3 rfl) ?_
        refine lv_iconst (v := (-1)) hx hb dX0_discard_37 (by decide) ?_
        obtain ⟨i3, h⟩ := zi h
        refine za_ist hx hb hK hP hD hS 1 rfl _ rfl i3 dX0_discard_38 (fun H locs hP hD hS => ?_)
        replace hP : zP g (zD g h0 h1 h2 h3 h4 (upd b v5.toNatClampNeg (-1)) pF pL st tm qt cm ds dr) H := hP
        replace hD : va_D A (zD g h0 h1 h2 h3 h4 (upd b v5.toNatClampNeg (-1)) pF pL st tm qt cm ds dr) := hD
        refine lv_iinc (v := (v5 + 1)) (lv' := [(5, .int (v5 + 1)), (0, .ref h0), (3, .int v3), (4, .int v4)]) hx hb dX0_discard_39 hl (k := 3) rfl rfl (by decide) rfl (fun ls hl => ?_)
        refine lv_goto (tgt := 22) hx hb dX0_discard_42 (by decide) ?_
        exact ih v3 v4 (v5 + 1) (upd b v5.toNatClampNeg (-1)) cm ds dr h H locs hP hD hS ls (lv_sub hl [1, 2, 3, 0] rfl)
  unfold fX0_discard at h
  refine lv_iload_n hx hb dX0_discard_0 rfl (lv_at hl 1 rfl) ?_
  refine lv_aload_n hx hb dX0_discard_1 rfl (lv_at hl 0 rfl) ?_
  refine va_get (ci := 0) (v := .ref h4) (C := RX0) (T := TX0) (N := 9) hx hb hts uX0_discard_X0 hown hK hP 0 rfl rfl 3 (by decide) (hts _ mX0_discard_21) (fun _ h9 => h9) rfl dX0_discard_2 ?_
  refine lv_iconst (v := 0) hx hb dX0_discard_5 (by decide) ?_
  refine za_ild hx hb hK hP 4 rfl 0 (by decide) (by decide) dX0_discard_6 ?_
  refine lv_ishl hx hb dX0_discard_7 ?_
  refine lv_istore_n (lv' := [(3, .int (a1 <<< ((st 0) &&& 31))), (0, .ref h0), (1, .int a1), (2, .int a2)]) hx hb dX0_discard_8 rfl hl (by decide) rfl (fun ls hl => ?_)
  refine lv_iload_n hx hb dX0_discard_9 rfl (lv_at hl 3 rfl) ?_
  refine lv_aload_n hx hb dX0_discard_10 rfl (lv_at hl 1 rfl) ?_
  refine va_get (ci := 0) (v := .ref h4) (C := RX0) (T := TX0) (N := 9) hx hb hts uX0_discard_X0 hown hK hP 0 rfl rfl 3 (by decide) (hts _ mX0_discard_21) (fun _ h9 => h9) rfl dX0_discard_11 ?_
  refine lv_iconst (v := 0) hx hb dX0_discard_14 (by decide) ?_
  refine za_ild hx hb hK hP 4 rfl 0 (by decide) (by decide) dX0_discard_15 ?_
  refine lv_ishl hx hb dX0_discard_16 ?_
  refine lv_istore (lv' := [(4, .int (a2 <<< ((st 0) &&& 31))), (3, .int (a1 <<< ((st 0) &&& 31))), (0, .ref h0), (1, .int a1), (2, .int a2)]) hx hb dX0_discard_17 hl (by decide) rfl (fun ls hl => ?_)
  refine lv_iload_n hx hb dX0_discard_19 rfl (lv_at hl 1 rfl) ?_
  refine lv_istore (lv' := [(5, .int (a1 <<< ((st 0) &&& 31))), (4, .int (a2 <<< ((st 0) &&& 31))), (3, .int (a1 <<< ((st 0) &&& 31))), (0, .ref h0), (1, .int a1), (2, .int a2)]) hx hb dX0_discard_20 hl (by decide) rfl (fun ls hl => ?_)
  exact loop_22 1000 (a1 <<< ((st 0) &&& 31)) (a2 <<< ((st 0) &&& 31)) (a1 <<< ((st 0) &&& 31)) b cm ds dr h s.heap [] hP hD hS ls (lv_sub hl [3, 2, 1, 0] rfl)
theorem hdV_X0_budgetOfTick : yX0_budgetOfTick.cls = RX0 ∧ yX0_budgetOfTick.cls ≠ "java/lang/invoke/MethodHandle" ∧ yX0_budgetOfTick.cls ≠ "java/lang/invoke/VarHandle" ∧ (parseMethodDescriptor yX0_budgetOfTick.desc).map (fun d => d.parameters.length) = some 0 := by decide +kernel
theorem hdV_X0_choosePiece : yX0_choosePiece.cls = RX0 ∧ yX0_choosePiece.cls ≠ "java/lang/invoke/MethodHandle" ∧ yX0_choosePiece.cls ≠ "java/lang/invoke/VarHandle" ∧ (parseMethodDescriptor yX0_choosePiece.desc).map (fun d => d.parameters.length) = some 2 := by decide +kernel
theorem hdV_X0_discard : yX0_discard.cls = RX0 ∧ yX0_discard.cls ≠ "java/lang/invoke/MethodHandle" ∧ yX0_discard.cls ≠ "java/lang/invoke/VarHandle" ∧ (parseMethodDescriptor yX0_discard.desc).map (fun d => d.parameters.length) = some 2 := by decide +kernel
theorem hdV_X0_granulesFrom : yX0_granulesFrom.cls = RX0 ∧ yX0_granulesFrom.cls ≠ "java/lang/invoke/MethodHandle" ∧ yX0_granulesFrom.cls ≠ "java/lang/invoke/VarHandle" ∧ (parseMethodDescriptor yX0_granulesFrom.desc).map (fun d => d.parameters.length) = some 2 := by decide +kernel
theorem hdV_X0_mostGranules : yX0_mostGranules.cls = RX0 ∧ yX0_mostGranules.cls ≠ "java/lang/invoke/MethodHandle" ∧ yX0_mostGranules.cls ≠ "java/lang/invoke/VarHandle" ∧ (parseMethodDescriptor yX0_mostGranules.desc).map (fun d => d.parameters.length) = some 1 := by decide +kernel
def fX0_tick_7 (pF : Nat → Int32) (pL : Nat → Int32) (st : Nat → Int32) : Nat → Int32 → Int32 → (Nat → Int32) → (Int32) → (Int32) → (Int32) → (Int32) → (Int32) → Option ((Nat → Int32) × (Int32) × (Int32) × (Int32) × (Int32) × (Int32))
  | 0, _, _, _, _, _, _, _, _ => none
  | n + 1, v1, v2, b, tm, qt, cm, ds, dr =>
    if 256 ≤ v2 then
        some (b, (tm + 1), (qt + 1), cm, ds, dr)
      else
        if v1 ≤ (st 4) then
          some (b, (tm + 1), (qt + 1), cm, ds, dr)
        else
          ob (fX0_choosePiece b pF pL st tm 1 (st 5)) fun r3 =>
          if r3 = (-1) then
            some (b, (tm + 1), (qt + 1), cm, ds, dr)
          else
            ob (fX0_mostGranules st v1) fun r5 =>
            ob (fX0_granulesFrom b pF pL st r3 r5) fun r6 =>
            ob4 (fX0_discard b st cm ds dr r3 r6) fun b7 cm7 ds7 dr7 =>
            fX0_tick_7 pF pL st n (v1 - ((st 4) + r6)) (v2 + 1) b7 tm qt cm7 ds7 dr7
def fX0_tick (b : Nat → Int32) (pF : Nat → Int32) (pL : Nat → Int32) (st : Nat → Int32) (tm : Int32) (qt : Int32) (cm : Int32) (ds : Int32) (dr : Int32) : Option ((Nat → Int32) × (Int32) × (Int32) × (Int32) × (Int32) × (Int32)) :=
  ob (fX0_budgetOfTick st qt) fun r8 =>
  fX0_tick_7 pF pL st 1000 r8 0 b tm qt cm ds dr
theorem mX0_tick_42 : Cond.fieldLink RX0 42 "IdleDiscards$Device" "time" "I" ∈ wsX0_tick := by decide +kernel
theorem uX0_tick_X0 : ∀ w ∈ wsX00, w ∈ wsX0_tick := by decide +kernel
theorem mX0_tick_46 : Cond.fieldLink RX0 46 "IdleDiscards$Device" "quiet" "I" ∈ wsX0_tick := by decide +kernel
theorem mX0_tick_21 : Cond.fieldLink RX0 21 "IdleDiscards$Device" "settings" "[I" ∈ wsX0_tick := by decide +kernel
set_option maxRecDepth 100000 in
set_option maxHeartbeats 4000000 in
theorem kX0_tick (l : Launch) (g : zG) (h0 h1 h2 h3 h4 : Nat) (b : Nat → Int32) (pF : Nat → Int32) (pL : Nat → Int32) (st : Nat → Int32) (tm : Int32) (qt : Int32) (cm : Int32) (ds : Int32) (dr : Int32) {b' : Nat → Int32} {tm' : Int32} {qt' : Int32} {cm' : Int32} {ds' : Int32} {dr' : Int32} (h : fX0_tick b pF pL st tm qt cm ds dr = some (b', tm', qt', cm', ds', dr')) : Mw l g yX0_tick wsX0_tick { frames := 3, cells := 0, slots := 0, locals := 76 } [.ref h0] (zD g h0 h1 h2 h3 h4 b pF pL st tm qt cm ds dr) (zWv g (zD g h0 h1 h2 h3 h4 b' pF pL st tm' qt' cm' ds' dr')) := by
  refine zw_in (cc := cX0_tick) (maxL := 5) (ret := none) (by decide) rfl (Nat.le_of_ble_eq_true rfl) ?_
  intro p e s m below meth c hx hb hr hml hts hown hlocks hK A hA hP hD hS ls hl
  replace hl : lv_has ls 5 [(0, .ref h0)] := hl
  have loop_7 : ∀ (n : Nat) (v1 : Int32) (v2 : Int32) (b : (Nat → Int32)) (tm : (Int32)) (qt : (Int32)) (cm : (Int32)) (ds : (Int32)) (dr : (Int32)), fX0_tick_7 pF pL st n v1 v2 b tm qt cm ds dr = some (b', tm', qt', cm', ds', dr') → ∀ (H : Heap) (locs : List Loc), zP g (zD g h0 h1 h2 h3 h4 b pF pL st tm qt cm ds dr) H → va_D A (zD g h0 h1 h2 h3 h4 b pF pL st tm qt cm ds dr) → va_S A s.heap H locs → ∀ (ls : Array Slot), lv_has ls 5 [(0, .ref h0), (1, .int v1), (2, .int v2)] → W p l e ({ frames := 3, cells := 0, slots := 0, locals := 76 } : Room) s m [.ref h0].toArray below meth c H locs 0 0 (MQ below (zWv g (zD g h0 h1 h2 h3 h4 b' pF pL st tm' qt' cm' ds' dr') A) [.ref h0].toArray s 0 0 A) (F0 m 7 ls []) := by
    intro n
    induction n with
    | zero => intro v1 v2 b tm qt cm ds dr h H locs hP hD hS ls hl; exact zn h
    | succ n ih =>
      intro v1 v2 b tm qt cm ds dr h H locs hP hD hS ls hl
      rw [fX0_tick_7] at h
      refine lv_iload_n hx hb dX0_tick_7 rfl (lv_at hl 2 rfl) ?_
      refine lv_sipush (v := 256) hx hb dX0_tick_8 (by decide) ?_
      refine lv_icmp_ge (tgt := 81) hx hb dX0_tick_11 (by decide) (fun c1 => ?_) (fun c1 => ?_)
      · replace h := zt c1 h
        refine lv_aload_n hx hb dX0_tick_81 rfl (lv_at hl 0 rfl) ?_
        refine lv_dup hx hb dX0_tick_82 rfl ?_
        refine va_get (ci := 0) (v := .int tm) (C := RX0) (T := TX0) (N := 9) hx hb hts uX0_tick_X0 hown hK hP 0 rfl rfl 4 (by decide) (hts _ mX0_tick_42) (fun _ h9 => h9) rfl dX0_tick_83 ?_
        refine lv_iconst (v := 1) hx hb dX0_tick_86 (by decide) ?_
        refine lv_iadd hx hb dX0_tick_87 ?_
        refine va_put (ci := 0) (v := .int (tm + 1)) (ty := .int) (C := RX0) (T := TX0) (N := 9) hx hb hts uX0_tick_X0 tyX0 tyX0_ok nmX0 hown hK hP hD hS 0 rfl rfl 4 (by decide) (hts _ mX0_tick_42) (fun _ h9 => h9) rfl (by decide +kernel) rfl rfl (Nat.le_of_ble_eq_true rfl) dX0_tick_88 (fun H locs hP hD hS => ?_)
        replace hP : zP g (zD g h0 h1 h2 h3 h4 b pF pL st (tm + 1) qt cm ds dr) H := hP
        replace hD : va_D A (zD g h0 h1 h2 h3 h4 b pF pL st (tm + 1) qt cm ds dr) := hD
        refine lv_aload_n hx hb dX0_tick_91 rfl (lv_at hl 0 rfl) ?_
        refine lv_dup hx hb dX0_tick_92 rfl ?_
        refine va_get (ci := 0) (v := .int qt) (C := RX0) (T := TX0) (N := 9) hx hb hts uX0_tick_X0 hown hK hP 0 rfl rfl 5 (by decide) (hts _ mX0_tick_46) (fun _ h9 => h9) rfl dX0_tick_93 ?_
        refine lv_iconst (v := 1) hx hb dX0_tick_96 (by decide) ?_
        refine lv_iadd hx hb dX0_tick_97 ?_
        refine va_put (ci := 0) (v := .int (qt + 1)) (ty := .int) (C := RX0) (T := TX0) (N := 9) hx hb hts uX0_tick_X0 tyX0 tyX0_ok nmX0 hown hK hP hD hS 0 rfl rfl 5 (by decide) (hts _ mX0_tick_46) (fun _ h9 => h9) rfl (by decide +kernel) rfl rfl (Nat.le_of_ble_eq_true rfl) dX0_tick_98 (fun H locs hP hD hS => ?_)
        replace hP : zP g (zD g h0 h1 h2 h3 h4 b pF pL st (tm + 1) (qt + 1) cm ds dr) H := hP
        replace hD : va_D A (zD g h0 h1 h2 h3 h4 b pF pL st (tm + 1) (qt + 1) cm ds dr) := hD
        cases h
        exact zw_v hx hb hr hlocks hP hS dX0_tick_101
      · replace h := zf c1 h
        refine lv_iload_n hx hb dX0_tick_14 rfl (lv_at hl 1 rfl) ?_
        refine lv_aload_n hx hb dX0_tick_15 rfl (lv_at hl 0 rfl) ?_
        refine va_get (ci := 0) (v := .ref h4) (C := RX0) (T := TX0) (N := 9) hx hb hts uX0_tick_X0 hown hK hP 0 rfl rfl 3 (by decide) (hts _ mX0_tick_21) (fun _ h9 => h9) rfl dX0_tick_16 ?_
        refine lv_iconst (v := 4) hx hb dX0_tick_19 (by decide) ?_
        refine za_ild hx hb hK hP 4 rfl 4 (by decide) (by decide) dX0_tick_20 ?_
        refine lv_icmp_le (tgt := 81) hx hb dX0_tick_21 (by decide) (fun c2 => ?_) (fun c2 => ?_)
        · replace h := zt c2 h
          refine lv_aload_n hx hb dX0_tick_81 rfl (lv_at hl 0 rfl) ?_
          refine lv_dup hx hb dX0_tick_82 rfl ?_
          refine va_get (ci := 0) (v := .int tm) (C := RX0) (T := TX0) (N := 9) hx hb hts uX0_tick_X0 hown hK hP 0 rfl rfl 4 (by decide) (hts _ mX0_tick_42) (fun _ h9 => h9) rfl dX0_tick_83 ?_
          refine lv_iconst (v := 1) hx hb dX0_tick_86 (by decide) ?_
          refine lv_iadd hx hb dX0_tick_87 ?_
          refine va_put (ci := 0) (v := .int (tm + 1)) (ty := .int) (C := RX0) (T := TX0) (N := 9) hx hb hts uX0_tick_X0 tyX0 tyX0_ok nmX0 hown hK hP hD hS 0 rfl rfl 4 (by decide) (hts _ mX0_tick_42) (fun _ h9 => h9) rfl (by decide +kernel) rfl rfl (Nat.le_of_ble_eq_true rfl) dX0_tick_88 (fun H locs hP hD hS => ?_)
          replace hP : zP g (zD g h0 h1 h2 h3 h4 b pF pL st (tm + 1) qt cm ds dr) H := hP
          replace hD : va_D A (zD g h0 h1 h2 h3 h4 b pF pL st (tm + 1) qt cm ds dr) := hD
          refine lv_aload_n hx hb dX0_tick_91 rfl (lv_at hl 0 rfl) ?_
          refine lv_dup hx hb dX0_tick_92 rfl ?_
          refine va_get (ci := 0) (v := .int qt) (C := RX0) (T := TX0) (N := 9) hx hb hts uX0_tick_X0 hown hK hP 0 rfl rfl 5 (by decide) (hts _ mX0_tick_46) (fun _ h9 => h9) rfl dX0_tick_93 ?_
          refine lv_iconst (v := 1) hx hb dX0_tick_96 (by decide) ?_
          refine lv_iadd hx hb dX0_tick_97 ?_
          refine va_put (ci := 0) (v := .int (qt + 1)) (ty := .int) (C := RX0) (T := TX0) (N := 9) hx hb hts uX0_tick_X0 tyX0 tyX0_ok nmX0 hown hK hP hD hS 0 rfl rfl 5 (by decide) (hts _ mX0_tick_46) (fun _ h9 => h9) rfl (by decide +kernel) rfl rfl (Nat.le_of_ble_eq_true rfl) dX0_tick_98 (fun H locs hP hD hS => ?_)
          replace hP : zP g (zD g h0 h1 h2 h3 h4 b pF pL st (tm + 1) (qt + 1) cm ds dr) H := hP
          replace hD : va_D A (zD g h0 h1 h2 h3 h4 b pF pL st (tm + 1) (qt + 1) cm ds dr) := hD
          cases h
          exact zw_v hx hb hr hlocks hP hS dX0_tick_101
        · replace h := zf c2 h
          refine lv_aload_n hx hb dX0_tick_24 rfl (lv_at hl 0 rfl) ?_
          refine lv_iconst (v := 1) hx hb dX0_tick_25 (by decide) ?_
          refine lv_aload_n hx hb dX0_tick_26 rfl (lv_at hl 0 rfl) ?_
          refine va_get (ci := 0) (v := .ref h4) (C := RX0) (T := TX0) (N := 9) hx hb hts uX0_tick_X0 hown hK hP 0 rfl rfl 3 (by decide) (hts _ mX0_tick_21) (fun _ h9 => h9) rfl dX0_tick_27 ?_
          refine lv_iconst (v := 5) hx hb dX0_tick_30 (by decide) ?_
          refine za_ild hx hb hK hP 4 rfl 5 (by decide) (by decide) dX0_tick_31 ?_
          obtain ⟨r3, e3, h⟩ := zb h
          refine zV (As := [.int 1, .int (st 5)]) (rest := []) (zQi_q _) ⟨hx, hb, hml, hown, hts⟩ (kX0_choosePiece l g h0 h1 h2 h3 h4 b pF pL st tm qt cm ds dr 1 (st 5) e3) (cwV 2 hts gX0_tick_X0_choosePiece rfl rfl rfl hdV_X0_choosePiece ⟨Nat.le_of_ble_eq_true rfl, Nat.le_of_ble_eq_true rfl⟩) hK hP [0, 1, 2, 3, 4] rfl 0 rfl rfl rfl hl.1 rfl (Nat.le_of_ble_eq_true rfl) ⟨Nat.zero_le _, Nat.zero_le _⟩ dX0_tick_32 ?_
          refine lv_istore_n (lv' := [(3, .int r3), (0, .ref h0), (1, .int v1), (2, .int v2)]) hx hb dX0_tick_35 rfl hl (by decide) rfl (fun ls hl => ?_)
          refine lv_iload_n hx hb dX0_tick_36 rfl (lv_at hl 0 rfl) ?_
          refine lv_iconst (v := (-1)) hx hb dX0_tick_37 (by decide) ?_
          refine lv_icmp_ne (tgt := 44) hx hb dX0_tick_38 (by decide) (fun c4 => ?_) (fun c4 => ?_)
          · replace h := zf c4 h
            refine lv_aload_n hx hb dX0_tick_44 rfl (lv_at hl 1 rfl) ?_
            refine lv_iload_n hx hb dX0_tick_45 rfl (lv_at hl 0 rfl) ?_
            refine lv_aload_n hx hb dX0_tick_46 rfl (lv_at hl 1 rfl) ?_
            refine lv_iload_n hx hb dX0_tick_47 rfl (lv_at hl 2 rfl) ?_
            obtain ⟨r5, e5, h⟩ := zb h
            refine zV (As := [.int v1]) (rest := [.int r3, .ref h0]) (zQi_q _) ⟨hx, hb, hml, hown, hts⟩ (kX0_mostGranules l g h0 h1 h2 h3 h4 b pF pL st tm qt cm ds dr v1 e5) (cwV 1 hts gX0_tick_X0_mostGranules rfl rfl rfl hdV_X0_mostGranules ⟨Nat.le_of_ble_eq_true rfl, Nat.le_of_ble_eq_true rfl⟩) hK hP [0, 1, 2, 3, 4] rfl 0 rfl rfl rfl hl.1 rfl (Nat.le_of_ble_eq_true rfl) ⟨Nat.zero_le _, Nat.zero_le _⟩ dX0_tick_48 ?_
            obtain ⟨r6, e6, h⟩ := zb h
            refine zV (As := [.int r3, .int r5]) (rest := []) (zQi_q _) ⟨hx, hb, hml, hown, hts⟩ (kX0_granulesFrom l g h0 h1 h2 h3 h4 b pF pL st tm qt cm ds dr r3 r5 e6) (cwV 2 hts gX0_tick_X0_granulesFrom rfl rfl rfl hdV_X0_granulesFrom ⟨Nat.le_of_ble_eq_true rfl, Nat.le_of_ble_eq_true rfl⟩) hK hP [0, 1, 2, 3, 4] rfl 0 rfl rfl rfl hl.1 rfl (Nat.le_of_ble_eq_true rfl) ⟨Nat.zero_le _, Nat.zero_le _⟩ dX0_tick_51 ?_
            refine lv_istore (lv' := [(4, .int r6), (3, .int r3), (0, .ref h0), (1, .int v1), (2, .int v2)]) hx hb dX0_tick_54 hl (by decide) rfl (fun ls hl => ?_)
            refine lv_aload_n hx hb dX0_tick_56 rfl (lv_at hl 2 rfl) ?_
            refine lv_iload_n hx hb dX0_tick_57 rfl (lv_at hl 1 rfl) ?_
            refine lv_iload hx hb dX0_tick_58 (lv_at hl 0 rfl) ?_
            obtain ⟨b7, cm7, ds7, dr7, e7, h⟩ := zb4 h
            refine zVw (As := [.int r3, .int r6]) (rest := []) (zWv_q g _) ⟨hx, hb, hml, hown, hts⟩ (kX0_discard l g h0 h1 h2 h3 h4 b pF pL st tm qt cm ds dr r3 r6 e7) (cwV 2 hts gX0_tick_X0_discard rfl rfl rfl hdV_X0_discard ⟨Nat.le_of_ble_eq_true rfl, Nat.le_of_ble_eq_true rfl⟩) hK hP hD hS hA [0, 1, 2, 3, 4] (by decide) rfl rfl 0 rfl rfl rfl hl.1 rfl (Nat.le_of_ble_eq_true rfl) ⟨Nat.zero_le _, Nat.zero_le _⟩ dX0_tick_60 (fun H locs hP hD hS => ?_)
            replace hP : zP g (zD g h0 h1 h2 h3 h4 b7 pF pL st tm qt cm7 ds7 dr7) H := hP
            replace hD : va_D A (zD g h0 h1 h2 h3 h4 b7 pF pL st tm qt cm7 ds7 dr7) := hD
            refine lv_iload_n hx hb dX0_tick_63 rfl (lv_at hl 3 rfl) ?_
            refine lv_aload_n hx hb dX0_tick_64 rfl (lv_at hl 2 rfl) ?_
            refine va_get (ci := 0) (v := .ref h4) (C := RX0) (T := TX0) (N := 9) hx hb hts uX0_tick_X0 hown hK hP 0 rfl rfl 3 (by decide) (hts _ mX0_tick_21) (fun _ h9 => h9) rfl dX0_tick_65 ?_
            refine lv_iconst (v := 4) hx hb dX0_tick_68 (by decide) ?_
            refine za_ild hx hb hK hP 4 rfl 4 (by decide) (by decide) dX0_tick_69 ?_
            refine lv_iload hx hb dX0_tick_70 (lv_at hl 0 rfl) ?_
            refine lv_iadd hx hb dX0_tick_72 ?_
            refine lv_isub hx hb dX0_tick_73 ?_
            refine lv_istore_n (lv' := [(1, .int (v1 - ((st 4) + r6))), (4, .int r6), (3, .int r3), (0, .ref h0), (2, .int v2)]) hx hb dX0_tick_74 rfl hl (by decide) rfl (fun ls hl => ?_)
            refine lv_iinc (v := (v2 + 1)) (lv' := [(2, .int (v2 + 1)), (1, .int (v1 - ((st 4) + r6))), (4, .int r6), (3, .int r3), (0, .ref h0)]) hx hb dX0_tick_75 hl (k := 4) rfl rfl (by decide) rfl (fun ls hl => ?_)
            refine lv_goto (tgt := 7) hx hb dX0_tick_78 (by decide) ?_
            exact ih (v1 - ((st 4) + r6)) (v2 + 1) b7 tm qt cm7 ds7 dr7 h H locs hP hD hS ls (lv_sub hl [4, 1, 0] rfl)
          · replace h := zt c4 h
            refine lv_goto (tgt := 81) hx hb dX0_tick_41 (by decide) ?_
            refine lv_aload_n hx hb dX0_tick_81 rfl (lv_at hl 1 rfl) ?_
            refine lv_dup hx hb dX0_tick_82 rfl ?_
            refine va_get (ci := 0) (v := .int tm) (C := RX0) (T := TX0) (N := 9) hx hb hts uX0_tick_X0 hown hK hP 0 rfl rfl 4 (by decide) (hts _ mX0_tick_42) (fun _ h9 => h9) rfl dX0_tick_83 ?_
            refine lv_iconst (v := 1) hx hb dX0_tick_86 (by decide) ?_
            refine lv_iadd hx hb dX0_tick_87 ?_
            refine va_put (ci := 0) (v := .int (tm + 1)) (ty := .int) (C := RX0) (T := TX0) (N := 9) hx hb hts uX0_tick_X0 tyX0 tyX0_ok nmX0 hown hK hP hD hS 0 rfl rfl 4 (by decide) (hts _ mX0_tick_42) (fun _ h9 => h9) rfl (by decide +kernel) rfl rfl (Nat.le_of_ble_eq_true rfl) dX0_tick_88 (fun H locs hP hD hS => ?_)
            replace hP : zP g (zD g h0 h1 h2 h3 h4 b pF pL st (tm + 1) qt cm ds dr) H := hP
            replace hD : va_D A (zD g h0 h1 h2 h3 h4 b pF pL st (tm + 1) qt cm ds dr) := hD
            refine lv_aload_n hx hb dX0_tick_91 rfl (lv_at hl 1 rfl) ?_
            refine lv_dup hx hb dX0_tick_92 rfl ?_
            refine va_get (ci := 0) (v := .int qt) (C := RX0) (T := TX0) (N := 9) hx hb hts uX0_tick_X0 hown hK hP 0 rfl rfl 5 (by decide) (hts _ mX0_tick_46) (fun _ h9 => h9) rfl dX0_tick_93 ?_
            refine lv_iconst (v := 1) hx hb dX0_tick_96 (by decide) ?_
            refine lv_iadd hx hb dX0_tick_97 ?_
            refine va_put (ci := 0) (v := .int (qt + 1)) (ty := .int) (C := RX0) (T := TX0) (N := 9) hx hb hts uX0_tick_X0 tyX0 tyX0_ok nmX0 hown hK hP hD hS 0 rfl rfl 5 (by decide) (hts _ mX0_tick_46) (fun _ h9 => h9) rfl (by decide +kernel) rfl rfl (Nat.le_of_ble_eq_true rfl) dX0_tick_98 (fun H locs hP hD hS => ?_)
            replace hP : zP g (zD g h0 h1 h2 h3 h4 b pF pL st (tm + 1) (qt + 1) cm ds dr) H := hP
            replace hD : va_D A (zD g h0 h1 h2 h3 h4 b pF pL st (tm + 1) (qt + 1) cm ds dr) := hD
            cases h
            exact zw_v hx hb hr hlocks hP hS dX0_tick_101
  unfold fX0_tick at h
  refine lv_aload_n hx hb dX0_tick_0 rfl (lv_at hl 0 rfl) ?_
  obtain ⟨r8, e8, h⟩ := zb h
  refine zV (As := []) (rest := []) (zQi_q _) ⟨hx, hb, hml, hown, hts⟩ (kX0_budgetOfTick l g h0 h1 h2 h3 h4 b pF pL st tm qt cm ds dr e8) (cwV 0 hts gX0_tick_X0_budgetOfTick rfl rfl rfl hdV_X0_budgetOfTick ⟨Nat.le_of_ble_eq_true rfl, Nat.le_of_ble_eq_true rfl⟩) hK hP [0, 1, 2, 3, 4] rfl 0 rfl rfl rfl hl.1 rfl (Nat.le_of_ble_eq_true rfl) ⟨Nat.zero_le _, Nat.zero_le _⟩ dX0_tick_1 ?_
  refine lv_istore_n (lv' := [(1, .int r8), (0, .ref h0)]) hx hb dX0_tick_4 rfl hl (by decide) rfl (fun ls hl => ?_)
  refine lv_iconst (v := 0) hx hb dX0_tick_5 (by decide) ?_
  refine lv_istore_n (lv' := [(2, .int 0), (1, .int r8), (0, .ref h0)]) hx hb dX0_tick_6 rfl hl (by decide) rfl (fun ls hl => ?_)
  exact loop_7 1000 r8 0 b tm qt cm ds dr h s.heap [] hP hD hS ls (lv_sub hl [2, 1, 0] rfl)
theorem hdV_X0_tick : yX0_tick.cls = RX0 ∧ yX0_tick.cls ≠ "java/lang/invoke/MethodHandle" ∧ yX0_tick.cls ≠ "java/lang/invoke/VarHandle" ∧ (parseMethodDescriptor yX0_tick.desc).map (fun d => d.parameters.length) = some 0 := by decide +kernel
def fX0_passTicks_7 (pF : Nat → Int32) (pL : Nat → Int32) (st : Nat → Int32) : Nat → Int32 → Int32 → Int32 → (Nat → Int32) → (Int32) → (Int32) → (Int32) → (Int32) → (Int32) → Option (Int32 × (Nat → Int32) × (Int32) × (Int32) × (Int32) × (Int32) × (Int32))
  | 0, _, _, _, _, _, _, _, _, _ => none
  | n + 1, v1, v2, v3, b, tm, qt, cm, ds, dr =>
    if v1 ≤ v3 then
        some ((ds - v2), b, tm, qt, cm, ds, dr)
      else
        ob6 (fX0_tick b pF pL st tm qt cm ds dr) fun b2 tm2 qt2 cm2 ds2 dr2 =>
        fX0_passTicks_7 pF pL st n v1 v2 (v3 + 1) b2 tm2 qt2 cm2 ds2 dr2
def fX0_passTicks (b : Nat → Int32) (pF : Nat → Int32) (pL : Nat → Int32) (st : Nat → Int32) (tm : Int32) (qt : Int32) (cm : Int32) (ds : Int32) (dr : Int32) (a1 : Int32) : Option (Int32 × (Nat → Int32) × (Int32) × (Int32) × (Int32) × (Int32) × (Int32)) :=
  fX0_passTicks_7 pF pL st 1000 a1 ds 0 b tm qt cm ds dr
theorem mX0_passTicks_52 : Cond.fieldLink RX0 52 "IdleDiscards$Device" "discarded" "I" ∈ wsX0_passTicks := by decide +kernel
theorem uX0_passTicks_X0 : ∀ w ∈ wsX00, w ∈ wsX0_passTicks := by decide +kernel
set_option maxRecDepth 100000 in
set_option maxHeartbeats 4000000 in
theorem kX0_passTicks (l : Launch) (g : zG) (h0 h1 h2 h3 h4 : Nat) (b : Nat → Int32) (pF : Nat → Int32) (pL : Nat → Int32) (st : Nat → Int32) (tm : Int32) (qt : Int32) (cm : Int32) (ds : Int32) (dr : Int32) (a1 : Int32) {r : Int32} {b' : Nat → Int32} {tm' : Int32} {qt' : Int32} {cm' : Int32} {ds' : Int32} {dr' : Int32} (h : fX0_passTicks b pF pL st tm qt cm ds dr a1 = some (r, b', tm', qt', cm', ds', dr')) : Mw l g yX0_passTicks wsX0_passTicks { frames := 4, cells := 0, slots := 0, locals := 100 } [.ref h0, .int a1] (zD g h0 h1 h2 h3 h4 b pF pL st tm qt cm ds dr) (zWi g (zD g h0 h1 h2 h3 h4 b' pF pL st tm' qt' cm' ds' dr') r) := by
  refine zw_in (cc := cX0_passTicks) (maxL := 4) (ret := (some .int)) (by decide) rfl (Nat.le_of_ble_eq_true rfl) ?_
  intro p e s m below meth c hx hb hr hml hts hown hlocks hK A hA hP hD hS ls hl
  replace hl : lv_has ls 4 [(0, .ref h0), (1, .int a1)] := hl
  have loop_7 : ∀ (n : Nat) (v1 : Int32) (v2 : Int32) (v3 : Int32) (b : (Nat → Int32)) (tm : (Int32)) (qt : (Int32)) (cm : (Int32)) (ds : (Int32)) (dr : (Int32)), fX0_passTicks_7 pF pL st n v1 v2 v3 b tm qt cm ds dr = some (r, b', tm', qt', cm', ds', dr') → ∀ (H : Heap) (locs : List Loc), zP g (zD g h0 h1 h2 h3 h4 b pF pL st tm qt cm ds dr) H → va_D A (zD g h0 h1 h2 h3 h4 b pF pL st tm qt cm ds dr) → va_S A s.heap H locs → ∀ (ls : Array Slot), lv_has ls 4 [(0, .ref h0), (1, .int v1), (2, .int v2), (3, .int v3)] → W p l e ({ frames := 4, cells := 0, slots := 0, locals := 100 } : Room) s m [.ref h0, .int a1].toArray below meth c H locs 0 0 (MQ below (zWi g (zD g h0 h1 h2 h3 h4 b' pF pL st tm' qt' cm' ds' dr') r A) [.ref h0, .int a1].toArray s 0 0 A) (F0 m 7 ls []) := by
    intro n
    induction n with
    | zero => intro v1 v2 v3 b tm qt cm ds dr h H locs hP hD hS ls hl; exact zn h
    | succ n ih =>
      intro v1 v2 v3 b tm qt cm ds dr h H locs hP hD hS ls hl
      rw [fX0_passTicks_7] at h
      refine lv_iload_n hx hb dX0_passTicks_7 rfl (lv_at hl 3 rfl) ?_
      refine lv_iload_n hx hb dX0_passTicks_8 rfl (lv_at hl 1 rfl) ?_
      refine lv_icmp_ge (tgt := 22) hx hb dX0_passTicks_9 (by decide) (fun c1 => ?_) (fun c1 => ?_)
      · replace h := zt c1 h
        refine lv_aload_n hx hb dX0_passTicks_22 rfl (lv_at hl 0 rfl) ?_
        refine va_get (ci := 0) (v := .int ds) (C := RX0) (T := TX0) (N := 9) hx hb hts uX0_passTicks_X0 hown hK hP 0 rfl rfl 7 (by decide) (hts _ mX0_passTicks_52) (fun _ h9 => h9) rfl dX0_passTicks_23 ?_
        refine lv_iload_n hx hb dX0_passTicks_26 rfl (lv_at hl 2 rfl) ?_
        refine lv_isub hx hb dX0_passTicks_27 ?_
        cases h
        exact zw_i hx hb hr hlocks hP hS dX0_passTicks_28
      · replace h := zf c1 h
        refine lv_aload_n hx hb dX0_passTicks_12 rfl (lv_at hl 0 rfl) ?_
        obtain ⟨b2, tm2, qt2, cm2, ds2, dr2, e2, h⟩ := zb6 h
        refine zVw (As := []) (rest := []) (zWv_q g _) ⟨hx, hb, hml, hown, hts⟩ (kX0_tick l g h0 h1 h2 h3 h4 b pF pL st tm qt cm ds dr e2) (cwV 0 hts gX0_passTicks_X0_tick rfl rfl rfl hdV_X0_tick ⟨Nat.le_of_ble_eq_true rfl, Nat.le_of_ble_eq_true rfl⟩) hK hP hD hS hA [0, 1, 2, 3, 4] (by decide) rfl rfl 0 rfl rfl rfl hl.1 rfl (Nat.le_of_ble_eq_true rfl) ⟨Nat.zero_le _, Nat.zero_le _⟩ dX0_passTicks_13 (fun H locs hP hD hS => ?_)
        replace hP : zP g (zD g h0 h1 h2 h3 h4 b2 pF pL st tm2 qt2 cm2 ds2 dr2) H := hP
        replace hD : va_D A (zD g h0 h1 h2 h3 h4 b2 pF pL st tm2 qt2 cm2 ds2 dr2) := hD
        refine lv_iinc (v := (v3 + 1)) (lv' := [(3, .int (v3 + 1)), (0, .ref h0), (1, .int v1), (2, .int v2)]) hx hb dX0_passTicks_16 hl (k := 3) rfl rfl (by decide) rfl (fun ls hl => ?_)
        refine lv_goto (tgt := 7) hx hb dX0_passTicks_19 (by decide) ?_
        exact ih v1 v2 (v3 + 1) b2 tm2 qt2 cm2 ds2 dr2 h H locs hP hD hS ls (lv_sub hl [1, 2, 3, 0] rfl)
  unfold fX0_passTicks at h
  refine lv_aload_n hx hb dX0_passTicks_0 rfl (lv_at hl 0 rfl) ?_
  refine va_get (ci := 0) (v := .int ds) (C := RX0) (T := TX0) (N := 9) hx hb hts uX0_passTicks_X0 hown hK hP 0 rfl rfl 7 (by decide) (hts _ mX0_passTicks_52) (fun _ h9 => h9) rfl dX0_passTicks_1 ?_
  refine lv_istore_n (lv' := [(2, .int ds), (0, .ref h0), (1, .int a1)]) hx hb dX0_passTicks_4 rfl hl (by decide) rfl (fun ls hl => ?_)
  refine lv_iconst (v := 0) hx hb dX0_passTicks_5 (by decide) ?_
  refine lv_istore_n (lv' := [(3, .int 0), (2, .int ds), (0, .ref h0), (1, .int a1)]) hx hb dX0_passTicks_6 rfl hl (by decide) rfl (fun ls hl => ?_)
  exact loop_7 1000 a1 ds 0 b tm qt cm ds dr h s.heap [] hP hD hS ls (lv_sub hl [2, 3, 1, 0] rfl)
def fX0_pieceOfTick (b : Nat → Int32) (pF : Nat → Int32) (pL : Nat → Int32) (st : Nat → Int32) (tm : Int32) (qt : Int32) : Option (Int32) :=
  ob (fX0_budgetOfTick st qt) fun r1 =>
  if r1 ≤ (st 4) then
    some (-1)
  else
    ob (fX0_choosePiece b pF pL st tm 1 (st 5)) fun r3 =>
    some r3
theorem mX0_pieceOfTick_21 : Cond.fieldLink RX0 21 "IdleDiscards$Device" "settings" "[I" ∈ wsX0_pieceOfTick := by decide +kernel
theorem uX0_pieceOfTick_X0 : ∀ w ∈ wsX00, w ∈ wsX0_pieceOfTick := by decide +kernel
set_option maxRecDepth 100000 in
set_option maxHeartbeats 4000000 in
theorem kX0_pieceOfTick (l : Launch) (g : zG) (h0 h1 h2 h3 h4 : Nat) (b : Nat → Int32) (pF : Nat → Int32) (pL : Nat → Int32) (st : Nat → Int32) (tm : Int32) (qt : Int32) (cm : Int32) (ds : Int32) (dr : Int32) {r : Int32} (h : fX0_pieceOfTick b pF pL st tm qt = some r) : Mr l g yX0_pieceOfTick wsX0_pieceOfTick { frames := 3, cells := 0, slots := 0, locals := 76 } [.ref h0] (zD g h0 h1 h2 h3 h4 b pF pL st tm qt cm ds dr) (zQi r) := by
  refine zr_in (cc := cX0_pieceOfTick) (maxL := 1) (ret := (some .int)) (by decide) rfl (Nat.le_of_ble_eq_true rfl) ?_
  intro p e s m below meth c hx hb hr hml hts hown hlocks hP hK ls hl
  replace hl : lv_has ls 1 [(0, .ref h0)] := hl
  unfold fX0_pieceOfTick at h
  refine lv_aload_n hx hb dX0_pieceOfTick_0 rfl (lv_at hl 0 rfl) ?_
  obtain ⟨r1, e1, h⟩ := zb h
  refine zV (As := []) (rest := []) (zQi_q _) ⟨hx, hb, hml, hown, hts⟩ (kX0_budgetOfTick l g h0 h1 h2 h3 h4 b pF pL st tm qt cm ds dr e1) (cwV 0 hts gX0_pieceOfTick_X0_budgetOfTick rfl rfl rfl hdV_X0_budgetOfTick ⟨Nat.le_of_ble_eq_true rfl, Nat.le_of_ble_eq_true rfl⟩) hK hP [0, 1, 2, 3, 4] rfl 0 rfl rfl rfl hl.1 rfl (Nat.le_of_ble_eq_true rfl) ⟨Nat.zero_le _, Nat.zero_le _⟩ dX0_pieceOfTick_1 ?_
  refine lv_aload_n hx hb dX0_pieceOfTick_4 rfl (lv_at hl 0 rfl) ?_
  refine va_get (ci := 0) (v := .ref h4) (C := RX0) (T := TX0) (N := 9) hx hb hts uX0_pieceOfTick_X0 hown hK hP 0 rfl rfl 3 (by decide) (hts _ mX0_pieceOfTick_21) (fun _ h9 => h9) rfl dX0_pieceOfTick_5 ?_
  refine lv_iconst (v := 4) hx hb dX0_pieceOfTick_8 (by decide) ?_
  refine za_ild hx hb hK hP 4 rfl 4 (by decide) (by decide) dX0_pieceOfTick_9 ?_
  refine lv_icmp_le (tgt := 27) hx hb dX0_pieceOfTick_10 (by decide) (fun c2 => ?_) (fun c2 => ?_)
  · replace h := zt c2 h
    refine lv_iconst (v := (-1)) hx hb dX0_pieceOfTick_27 (by decide) ?_
    cases h
    exact zr_i hx hb hr hlocks dX0_pieceOfTick_28
  · replace h := zf c2 h
    refine lv_aload_n hx hb dX0_pieceOfTick_13 rfl (lv_at hl 0 rfl) ?_
    refine lv_iconst (v := 1) hx hb dX0_pieceOfTick_14 (by decide) ?_
    refine lv_aload_n hx hb dX0_pieceOfTick_15 rfl (lv_at hl 0 rfl) ?_
    refine va_get (ci := 0) (v := .ref h4) (C := RX0) (T := TX0) (N := 9) hx hb hts uX0_pieceOfTick_X0 hown hK hP 0 rfl rfl 3 (by decide) (hts _ mX0_pieceOfTick_21) (fun _ h9 => h9) rfl dX0_pieceOfTick_16 ?_
    refine lv_iconst (v := 5) hx hb dX0_pieceOfTick_19 (by decide) ?_
    refine za_ild hx hb hK hP 4 rfl 5 (by decide) (by decide) dX0_pieceOfTick_20 ?_
    obtain ⟨r3, e3, h⟩ := zb h
    refine zV (As := [.int 1, .int (st 5)]) (rest := []) (zQi_q _) ⟨hx, hb, hml, hown, hts⟩ (kX0_choosePiece l g h0 h1 h2 h3 h4 b pF pL st tm qt cm ds dr 1 (st 5) e3) (cwV 2 hts gX0_pieceOfTick_X0_choosePiece rfl rfl rfl hdV_X0_choosePiece ⟨Nat.le_of_ble_eq_true rfl, Nat.le_of_ble_eq_true rfl⟩) hK hP [0, 1, 2, 3, 4] rfl 0 rfl rfl rfl hl.1 rfl (Nat.le_of_ble_eq_true rfl) ⟨Nat.zero_le _, Nat.zero_le _⟩ dX0_pieceOfTick_21 ?_
    refine lv_goto (tgt := 28) hx hb dX0_pieceOfTick_24 (by decide) ?_
    cases h
    exact zr_i hx hb hr hlocks dX0_pieceOfTick_28
def fX0_granulesOfTick (b : Nat → Int32) (pF : Nat → Int32) (pL : Nat → Int32) (st : Nat → Int32) (qt : Int32) (a1 : Int32) : Option (Int32) :=
  ob (fX0_budgetOfTick st qt) fun r1 =>
  ob (fX0_mostGranules st r1) fun r2 =>
  ob (fX0_granulesFrom b pF pL st a1 r2) fun r3 =>
  some r3
set_option maxRecDepth 100000 in
set_option maxHeartbeats 4000000 in
theorem kX0_granulesOfTick (l : Launch) (g : zG) (h0 h1 h2 h3 h4 : Nat) (b : Nat → Int32) (pF : Nat → Int32) (pL : Nat → Int32) (st : Nat → Int32) (tm : Int32) (qt : Int32) (cm : Int32) (ds : Int32) (dr : Int32) (a1 : Int32) {r : Int32} (h : fX0_granulesOfTick b pF pL st qt a1 = some r) : Mr l g yX0_granulesOfTick wsX0_granulesOfTick { frames := 3, cells := 0, slots := 0, locals := 70 } [.ref h0, .int a1] (zD g h0 h1 h2 h3 h4 b pF pL st tm qt cm ds dr) (zQi r) := by
  refine zr_in (cc := cX0_granulesOfTick) (maxL := 2) (ret := (some .int)) (by decide) rfl (Nat.le_of_ble_eq_true rfl) ?_
  intro p e s m below meth c hx hb hr hml hts hown hlocks hP hK ls hl
  replace hl : lv_has ls 2 [(0, .ref h0), (1, .int a1)] := hl
  unfold fX0_granulesOfTick at h
  refine lv_aload_n hx hb dX0_granulesOfTick_0 rfl (lv_at hl 0 rfl) ?_
  refine lv_iload_n hx hb dX0_granulesOfTick_1 rfl (lv_at hl 1 rfl) ?_
  refine lv_aload_n hx hb dX0_granulesOfTick_2 rfl (lv_at hl 0 rfl) ?_
  refine lv_aload_n hx hb dX0_granulesOfTick_3 rfl (lv_at hl 0 rfl) ?_
  obtain ⟨r1, e1, h⟩ := zb h
  refine zV (As := []) (rest := [.ref h0, .int a1, .ref h0]) (zQi_q _) ⟨hx, hb, hml, hown, hts⟩ (kX0_budgetOfTick l g h0 h1 h2 h3 h4 b pF pL st tm qt cm ds dr e1) (cwV 0 hts gX0_granulesOfTick_X0_budgetOfTick rfl rfl rfl hdV_X0_budgetOfTick ⟨Nat.le_of_ble_eq_true rfl, Nat.le_of_ble_eq_true rfl⟩) hK hP [0, 1, 2, 3, 4] rfl 0 rfl rfl rfl hl.1 rfl (Nat.le_of_ble_eq_true rfl) ⟨Nat.zero_le _, Nat.zero_le _⟩ dX0_granulesOfTick_4 ?_
  obtain ⟨r2, e2, h⟩ := zb h
  refine zV (As := [.int r1]) (rest := [.int a1, .ref h0]) (zQi_q _) ⟨hx, hb, hml, hown, hts⟩ (kX0_mostGranules l g h0 h1 h2 h3 h4 b pF pL st tm qt cm ds dr r1 e2) (cwV 1 hts gX0_granulesOfTick_X0_mostGranules rfl rfl rfl hdV_X0_mostGranules ⟨Nat.le_of_ble_eq_true rfl, Nat.le_of_ble_eq_true rfl⟩) hK hP [0, 1, 2, 3, 4] rfl 0 rfl rfl rfl hl.1 rfl (Nat.le_of_ble_eq_true rfl) ⟨Nat.zero_le _, Nat.zero_le _⟩ dX0_granulesOfTick_7 ?_
  obtain ⟨r3, e3, h⟩ := zb h
  refine zV (As := [.int a1, .int r2]) (rest := []) (zQi_q _) ⟨hx, hb, hml, hown, hts⟩ (kX0_granulesFrom l g h0 h1 h2 h3 h4 b pF pL st tm qt cm ds dr a1 r2 e3) (cwV 2 hts gX0_granulesOfTick_X0_granulesFrom rfl rfl rfl hdV_X0_granulesFrom ⟨Nat.le_of_ble_eq_true rfl, Nat.le_of_ble_eq_true rfl⟩) hK hP [0, 1, 2, 3, 4] rfl 0 rfl rfl rfl hl.1 rfl (Nat.le_of_ble_eq_true rfl) ⟨Nat.zero_le _, Nat.zero_le _⟩ dX0_granulesOfTick_10 ?_
  cases h
  exact zr_i hx hb hr hlocks dX0_granulesOfTick_13
def fX0_sendAll_7 (pF : Nat → Int32) (pL : Nat → Int32) (st : Nat → Int32) (tm : Int32) : Nat → Int32 → Int32 → (Nat → Int32) → (Int32) → (Int32) → (Int32) → Option (Int32 × (Nat → Int32) × (Int32) × (Int32) × (Int32))
  | 0, _, _, _, _, _, _ => none
  | n + 1, v1, v2, b, cm, ds, dr =>
    if 256 ≤ v2 then
        some ((cm - v1), b, cm, ds, dr)
      else
        ob (fX0_choosePiece b pF pL st tm 0 2) fun r2 =>
        if r2 = (-1) then
          some ((cm - v1), b, cm, ds, dr)
        else
          ob (fX0_granulesFrom b pF pL st r2 16) fun r4 =>
          ob4 (fX0_discard b st cm ds dr r2 r4) fun b5 cm5 ds5 dr5 =>
          fX0_sendAll_7 pF pL st tm n v1 (v2 + 1) b5 cm5 ds5 dr5
def fX0_sendAll (b : Nat → Int32) (pF : Nat → Int32) (pL : Nat → Int32) (st : Nat → Int32) (tm : Int32) (cm : Int32) (ds : Int32) (dr : Int32) : Option (Int32 × (Nat → Int32) × (Int32) × (Int32) × (Int32)) :=
  fX0_sendAll_7 pF pL st tm 1000 cm 0 b cm ds dr
theorem mX0_sendAll_49 : Cond.fieldLink RX0 49 "IdleDiscards$Device" "commands" "I" ∈ wsX0_sendAll := by decide +kernel
theorem uX0_sendAll_X0 : ∀ w ∈ wsX00, w ∈ wsX0_sendAll := by decide +kernel
set_option maxRecDepth 100000 in
set_option maxHeartbeats 4000000 in
theorem kX0_sendAll (l : Launch) (g : zG) (h0 h1 h2 h3 h4 : Nat) (b : Nat → Int32) (pF : Nat → Int32) (pL : Nat → Int32) (st : Nat → Int32) (tm : Int32) (qt : Int32) (cm : Int32) (ds : Int32) (dr : Int32) {r : Int32} {b' : Nat → Int32} {cm' : Int32} {ds' : Int32} {dr' : Int32} (h : fX0_sendAll b pF pL st tm cm ds dr = some (r, b', cm', ds', dr')) : Mw l g yX0_sendAll wsX0_sendAll { frames := 3, cells := 0, slots := 0, locals := 76 } [.ref h0] (zD g h0 h1 h2 h3 h4 b pF pL st tm qt cm ds dr) (zWi g (zD g h0 h1 h2 h3 h4 b' pF pL st tm qt cm' ds' dr') r) := by
  refine zw_in (cc := cX0_sendAll) (maxL := 4) (ret := (some .int)) (by decide) rfl (Nat.le_of_ble_eq_true rfl) ?_
  intro p e s m below meth c hx hb hr hml hts hown hlocks hK A hA hP hD hS ls hl
  replace hl : lv_has ls 4 [(0, .ref h0)] := hl
  have loop_7 : ∀ (n : Nat) (v1 : Int32) (v2 : Int32) (b : (Nat → Int32)) (cm : (Int32)) (ds : (Int32)) (dr : (Int32)), fX0_sendAll_7 pF pL st tm n v1 v2 b cm ds dr = some (r, b', cm', ds', dr') → ∀ (H : Heap) (locs : List Loc), zP g (zD g h0 h1 h2 h3 h4 b pF pL st tm qt cm ds dr) H → va_D A (zD g h0 h1 h2 h3 h4 b pF pL st tm qt cm ds dr) → va_S A s.heap H locs → ∀ (ls : Array Slot), lv_has ls 4 [(0, .ref h0), (1, .int v1), (2, .int v2)] → W p l e ({ frames := 3, cells := 0, slots := 0, locals := 76 } : Room) s m [.ref h0].toArray below meth c H locs 0 0 (MQ below (zWi g (zD g h0 h1 h2 h3 h4 b' pF pL st tm qt cm' ds' dr') r A) [.ref h0].toArray s 0 0 A) (F0 m 7 ls []) := by
    intro n
    induction n with
    | zero => intro v1 v2 b cm ds dr h H locs hP hD hS ls hl; exact zn h
    | succ n ih =>
      intro v1 v2 b cm ds dr h H locs hP hD hS ls hl
      rw [fX0_sendAll_7] at h
      refine lv_iload_n hx hb dX0_sendAll_7 rfl (lv_at hl 2 rfl) ?_
      refine lv_sipush (v := 256) hx hb dX0_sendAll_8 (by decide) ?_
      refine lv_icmp_ge (tgt := 47) hx hb dX0_sendAll_11 (by decide) (fun c1 => ?_) (fun c1 => ?_)
      · replace h := zt c1 h
        refine lv_aload_n hx hb dX0_sendAll_47 rfl (lv_at hl 0 rfl) ?_
        refine va_get (ci := 0) (v := .int cm) (C := RX0) (T := TX0) (N := 9) hx hb hts uX0_sendAll_X0 hown hK hP 0 rfl rfl 6 (by decide) (hts _ mX0_sendAll_49) (fun _ h9 => h9) rfl dX0_sendAll_48 ?_
        refine lv_iload_n hx hb dX0_sendAll_51 rfl (lv_at hl 1 rfl) ?_
        refine lv_isub hx hb dX0_sendAll_52 ?_
        cases h
        exact zw_i hx hb hr hlocks hP hS dX0_sendAll_53
      · replace h := zf c1 h
        refine lv_aload_n hx hb dX0_sendAll_14 rfl (lv_at hl 0 rfl) ?_
        refine lv_iconst (v := 0) hx hb dX0_sendAll_15 (by decide) ?_
        refine lv_iconst (v := 2) hx hb dX0_sendAll_16 (by decide) ?_
        obtain ⟨r2, e2, h⟩ := zb h
        refine zV (As := [.int 0, .int 2]) (rest := []) (zQi_q _) ⟨hx, hb, hml, hown, hts⟩ (kX0_choosePiece l g h0 h1 h2 h3 h4 b pF pL st tm qt cm ds dr 0 2 e2) (cwV 2 hts gX0_sendAll_X0_choosePiece rfl rfl rfl hdV_X0_choosePiece ⟨Nat.le_of_ble_eq_true rfl, Nat.le_of_ble_eq_true rfl⟩) hK hP [0, 1, 2, 3, 4] rfl 0 rfl rfl rfl hl.1 rfl (Nat.le_of_ble_eq_true rfl) ⟨Nat.zero_le _, Nat.zero_le _⟩ dX0_sendAll_17 ?_
        refine lv_istore_n (lv' := [(3, .int r2), (0, .ref h0), (1, .int v1), (2, .int v2)]) hx hb dX0_sendAll_20 rfl hl (by decide) rfl (fun ls hl => ?_)
        refine lv_iload_n hx hb dX0_sendAll_21 rfl (lv_at hl 0 rfl) ?_
        refine lv_iconst (v := (-1)) hx hb dX0_sendAll_22 (by decide) ?_
        refine lv_icmp_ne (tgt := 29) hx hb dX0_sendAll_23 (by decide) (fun c3 => ?_) (fun c3 => ?_)
        · replace h := zf c3 h
          refine lv_aload_n hx hb dX0_sendAll_29 rfl (lv_at hl 1 rfl) ?_
          refine lv_iload_n hx hb dX0_sendAll_30 rfl (lv_at hl 0 rfl) ?_
          refine lv_aload_n hx hb dX0_sendAll_31 rfl (lv_at hl 1 rfl) ?_
          refine lv_iload_n hx hb dX0_sendAll_32 rfl (lv_at hl 0 rfl) ?_
          refine lv_bipush (v := 16) hx hb dX0_sendAll_33 (by decide) ?_
          obtain ⟨r4, e4, h⟩ := zb h
          refine zV (As := [.int r2, .int 16]) (rest := [.int r2, .ref h0]) (zQi_q _) ⟨hx, hb, hml, hown, hts⟩ (kX0_granulesFrom l g h0 h1 h2 h3 h4 b pF pL st tm qt cm ds dr r2 16 e4) (cwV 2 hts gX0_sendAll_X0_granulesFrom rfl rfl rfl hdV_X0_granulesFrom ⟨Nat.le_of_ble_eq_true rfl, Nat.le_of_ble_eq_true rfl⟩) hK hP [0, 1, 2, 3, 4] rfl 0 rfl rfl rfl hl.1 rfl (Nat.le_of_ble_eq_true rfl) ⟨Nat.zero_le _, Nat.zero_le _⟩ dX0_sendAll_35 ?_
          obtain ⟨b5, cm5, ds5, dr5, e5, h⟩ := zb4 h
          refine zVw (As := [.int r2, .int r4]) (rest := []) (zWv_q g _) ⟨hx, hb, hml, hown, hts⟩ (kX0_discard l g h0 h1 h2 h3 h4 b pF pL st tm qt cm ds dr r2 r4 e5) (cwV 2 hts gX0_sendAll_X0_discard rfl rfl rfl hdV_X0_discard ⟨Nat.le_of_ble_eq_true rfl, Nat.le_of_ble_eq_true rfl⟩) hK hP hD hS hA [0, 1, 2, 3, 4] (by decide) rfl rfl 0 rfl rfl rfl hl.1 rfl (Nat.le_of_ble_eq_true rfl) ⟨Nat.zero_le _, Nat.zero_le _⟩ dX0_sendAll_38 (fun H locs hP hD hS => ?_)
          replace hP : zP g (zD g h0 h1 h2 h3 h4 b5 pF pL st tm qt cm5 ds5 dr5) H := hP
          replace hD : va_D A (zD g h0 h1 h2 h3 h4 b5 pF pL st tm qt cm5 ds5 dr5) := hD
          refine lv_iinc (v := (v2 + 1)) (lv' := [(2, .int (v2 + 1)), (3, .int r2), (0, .ref h0), (1, .int v1)]) hx hb dX0_sendAll_41 hl (k := 3) rfl rfl (by decide) rfl (fun ls hl => ?_)
          refine lv_goto (tgt := 7) hx hb dX0_sendAll_44 (by decide) ?_
          exact ih v1 (v2 + 1) b5 cm5 ds5 dr5 h H locs hP hD hS ls (lv_sub hl [2, 3, 0] rfl)
        · replace h := zt c3 h
          refine lv_goto (tgt := 47) hx hb dX0_sendAll_26 (by decide) ?_
          refine lv_aload_n hx hb dX0_sendAll_47 rfl (lv_at hl 1 rfl) ?_
          refine va_get (ci := 0) (v := .int cm) (C := RX0) (T := TX0) (N := 9) hx hb hts uX0_sendAll_X0 hown hK hP 0 rfl rfl 6 (by decide) (hts _ mX0_sendAll_49) (fun _ h9 => h9) rfl dX0_sendAll_48 ?_
          refine lv_iload_n hx hb dX0_sendAll_51 rfl (lv_at hl 2 rfl) ?_
          refine lv_isub hx hb dX0_sendAll_52 ?_
          cases h
          exact zw_i hx hb hr hlocks hP hS dX0_sendAll_53
  unfold fX0_sendAll at h
  refine lv_aload_n hx hb dX0_sendAll_0 rfl (lv_at hl 0 rfl) ?_
  refine va_get (ci := 0) (v := .int cm) (C := RX0) (T := TX0) (N := 9) hx hb hts uX0_sendAll_X0 hown hK hP 0 rfl rfl 6 (by decide) (hts _ mX0_sendAll_49) (fun _ h9 => h9) rfl dX0_sendAll_1 ?_
  refine lv_istore_n (lv' := [(1, .int cm), (0, .ref h0)]) hx hb dX0_sendAll_4 rfl hl (by decide) rfl (fun ls hl => ?_)
  refine lv_iconst (v := 0) hx hb dX0_sendAll_5 (by decide) ?_
  refine lv_istore_n (lv' := [(2, .int 0), (1, .int cm), (0, .ref h0)]) hx hb dX0_sendAll_6 rfl hl (by decide) rfl (fun ls hl => ?_)
  exact loop_7 1000 cm 0 b cm ds dr h s.heap [] hP hD hS ls (lv_sub hl [2, 1, 0] rfl)
end
