/-! the law's body: what holds at its places -/
abbrev zLW (g : zG) (hm : Nat) (um : Nat → Nat) (ho h0 : Nat) (u : zAd) (x : zXS) (v : zMS) (f : Nat → Int64) : va_W := zMW g hm um v ++ (ho, .inl (g.2.2.2.2.2, 1, .inr (.inl f))) :: zXW g h0 u x
abbrev zLl (sa h0 hm ho i : Nat) : List (Nat × Value) := [(0, .ref sa), (1, .ref h0), (2, .ref hm), (3, .ref ho), (4, .int (Int32.ofNat i))]
abbrev zGo (p : Program) (l : Launch) (e : Env) (s : State) (m : MethodId) (sa : Nat) (below : List Frame) (meth : Method) (c : Code) (g : zG) (hm : Nat) (um : Nat → Nat) (ho h0 : Nat) (u : zAd) (A : Nat → Prop) (Q : State → Prop) (B cells slots i pc : Nat) : Prop :=
  ∀ (x : zXS) (v : zMS) (f : Nat → Int64) (H : Heap) (locs : List Loc) (ls : Array Slot), ZS x v B → zP g (zLW g hm um ho h0 u x v f) H → va_D A (zLW g hm um ho h0 u x v f) → va_S A s.heap H locs → lv_has ls 7 (zLl sa h0 hm ho i) →
    W p l e room_1 s m #[.ref sa] below meth c H locs cells slots Q (F0 m pc ls [])
def zLc (p : Program) (l : Launch) (s : State) (m : MethodId) (sa : Nat) (c : Code) (g : zG) (A : Nat → Prop) (L : Nat) (xs : Nat → Int32) : Prop :=
  p.tables.exec = Jvm.exec ∧ c.code = cL_law ∧ c.maxLocals = 7 ∧ s.vm.findClass RL = some m.cls ∧ (∀ w ∈ wsL_law, w.before #[.ref sa] s = true) ∧ zK g s ∧ zNc s ∧ (∀ q, s.heap.size ≤ q → A q) ∧ zAm A s s.heap ∧ va_X sa L xs s s.heap ∧ sa < s.heap.size ∧ ¬ A sa ∧ l.stackTraces = false ∧ L ≤ 2048
theorem lg_cmp_self (x : Int64) : lg_cmp x x = 0 := by
  unfold lg_cmp
  rw [if_neg (fun q => by rw [gt_iff_lt, Int64.lt_iff_toInt_lt] at q; omega), if_pos rfl]
theorem hdL4_thrown : yX4_thrown.cls = RX4 ∧ yX4_thrown.cls ≠ "java/lang/invoke/MethodHandle" ∧ yX4_thrown.cls ≠ "java/lang/invoke/VarHandle" ∧ (parseMethodDescriptor yX4_thrown.desc).map (fun d => d.parameters.length) = some 0 := by decide +kernel
section ZLA
variable {p : Program} {l : Launch} {e : Env} {R : Room} {s : State} {m : MethodId} {args : Array Value} {below : List Frame} {meth : Method} {c : Code} {H : Heap} {locs : List Loc} {cells slots : Nat} {Q : State → Prop} {g : zG} {cc : ByteArray} {pc : Nat} {ls : Array Slot} {rest st : List Value} {A : Nat → Prop}
/-- a number of the script -/
theorem zL_arg {sa L : Nat} {xs : Nat → Int32} {i k : Nat} {kz : Int} (hx : p.tables.exec = Jvm.exec) (hb : c.code = cc) (hX : va_X sa L xs s s.heap) (hbl : sa < s.heap.size) (hbA : ¬ A sa) (hS : va_S A s.heap H locs) (h0 : ls[0]? = some (.val (.ref sa))) (h4 : ls[4]? = some (.val (.int (Int32.ofNat i)))) (hi : i + k < L) (hL : L ≤ 2048) (hv : Int32.ofInt kz = Int32.ofNat k)
    (d0 : decode cc pc = .ok (.aload_n 0, 1)) (d1 : decode cc (pc + 1) = .ok (.iload 4, 2)) (d2 : decode cc (pc + 3) = .ok (.iconst kz, 1)) (d3 : decode cc (pc + 4) = .ok (.iadd, 1)) (d4 : decode cc (pc + 5) = .ok (.iaload, 1))
    (kk : W p l e R s m args below meth c H locs cells slots Q (F0 m (pc + 6) ls (.int (xs (i + k)) :: rest))) : W p l e R s m args below meth c H locs cells slots Q (F0 m pc ls rest) := by
  refine lv_aload_n hx hb d0 rfl h0 ?_
  refine lv_iload hx hb d1 h4 ?_
  refine lv_iconst (v := Int32.ofNat k) hx hb d2 hv ?_
  refine lv_iadd hx hb d3 ?_
  rw [zN_add]
  refine va_sld hx hb hX hbl hbA hS (zN_in hi (by omega)) d4 ?_
  rw [zN_cl (by omega)]
  exact kk
/-- behind the reference's call: what was thrown, and the answers, are alike -/
theorem zL_tail {sa L : Nat} {xs : Nat → Int32} {hm : Nat} {um : Nat → Nat} {ho h0 i : Nat} {u : zAd} {x : zXS} {v : zMS} {f : Nat → Int64} {ex b2 : Int32} {off : Int} (C : zLc p l s m sa c g A L xs) (hP : zP g (zLW g hm um ho h0 u x v f) H) (hl : lv_has ls 7 ((5, .int ex) :: zLl sa h0 hm ho i)) (hc : cells ≤ 601024) (hs : slots ≤ 7293034) (hex : v.1 = ex) (hout : ex = 0 → f 0 = b2.toInt64)
    (d0 : decode cL_law pc = .ok (.istore 6, 2)) (d1 : decode cL_law (pc + 2) = .ok (.aload_n 2, 1)) (d2 : decode cL_law (pc + 3) = .ok (.invokevirtual 100, 3)) (d3 : decode cL_law (pc + 6) = .ok (.iload 5, 2)) (d4 : decode cL_law (pc + 8) = .ok (.if_icmp .eq 5, 3)) (d5 : decode cL_law (pc + 13) = .ok (.iload 5, 2)) (d6 : decode cL_law (pc + 15) = .ok (.ifCond .ne 15, 3)) (d7 : decode cL_law (pc + 18) = .ok (.aload_n 3, 1)) (d8 : decode cL_law (pc + 19) = .ok (.iconst 0, 1)) (d9 : decode cL_law (pc + 20) = .ok (.laload, 1)) (d10 : decode cL_law (pc + 21) = .ok (.iload 6, 2)) (d11 : decode cL_law (pc + 23) = .ok (.i2l, 1)) (d12 : decode cL_law (pc + 24) = .ok (.lcmp, 1)) (d13 : decode cL_law (pc + 25) = .ok (.ifCond .eq 5, 3)) (d14 : decode cL_law (pc + 30) = .ok (.goto off, 3)) (ht : ((pc + 30 : Nat) : Int) + off = ((1684 : Nat) : Int))
    (kk : ∀ ls : Array Slot, lv_has ls 7 (zLl sa h0 hm ho i) → W p l e room_1 s m #[.ref sa] below meth c H locs cells slots Q (F0 m 1684 ls [])) : W p l e room_1 s m #[.ref sa] below meth c H locs cells slots Q (F0 m pc ls [.int b2]) := by
  obtain ⟨hx, hb, hml, hown, hts, hK, -⟩ := C
  refine lv_istore hx hb d0 hl (by decide) rfl (fun ls hl => ?_)
  replace hl : lv_has ls 7 [(6, .int b2), (5, .int ex), (0, .ref sa), (1, .ref h0), (2, .ref hm), (3, .ref ho), (4, .int (Int32.ofNat i))] := hl
  refine lv_aload_n hx hb d1 rfl (lv_at hl 4 rfl) ?_
  refine zV (As := []) (rest := []) (zQi_q _) ⟨hx, hb, hml, hown, hts⟩ (kX4_thrown l g hm (um 1) (.ref (um 2)) (.ref (um 3)) (.ref (um 4)) (.ref (um 5)) (.ref (um 6)) v.1 v.2.1 v.2.2.1 v.2.2.2.1 v.2.2.2.2.1 v.2.2.2.2.2.1 v.2.2.2.2.2.2.1 v.2.2.2.2.2.2.2.1 rfl) (cwV 0 hts gL_law_X4_thrown rfl rfl rfl hdL4_thrown ⟨Nat.le_of_ble_eq_true rfl, Nat.le_of_ble_eq_true rfl⟩) hK hP [0, 1] rfl 0 rfl rfl rfl hl.1 rfl (Nat.le_of_ble_eq_true rfl) ⟨hc, hs⟩ d2 ?_
  refine lv_iload hx hb d3 (lv_at hl 1 rfl) ?_
  refine lv_icmp_eq (tgt := pc + 13) hx hb d4 (by omega) (fun _ => ?_) (fun q => absurd hex q)
  have hl2 : lv_has ls 7 (zLl sa h0 hm ho i) := lv_sub hl [2, 3, 4, 5, 6] rfl
  refine lv_iload hx hb d5 (lv_at hl 1 rfl) ?_
  refine lv_if_ne (tgt := pc + 30) hx hb d6 (by omega) (fun _ => ?_) (fun q => ?_)
  · exact lv_goto (tgt := 1684) hx hb d14 ht (kk ls hl2)
  · refine lv_aload_n hx hb d7 rfl (lv_at hl 5 rfl) ?_
    refine lv_iconst (v := 0) hx hb d8 (by decide) ?_
    refine va_lald hx hb hK hP 7 4 rfl rfl (i := 0) (by unfold vp_in; decide) d9 ?_
    refine lv_iload hx hb d10 (lv_at hl 0 rfl) ?_
    refine lv_i2l hx hb d11 rfl ?_
    refine W.lcmp hx hb d12 ?_
    have e : f (0 : Int32).toNatClampNeg = b2.toInt64 := hout q
    rw [e, lg_cmp_self]
    refine lv_if_eq (tgt := pc + 30) hx hb d13 (by omega) (fun _ => ?_) (fun q => absurd rfl q)
    exact lv_goto (tgt := 1684) hx hb d14 ht (kk ls hl2)
end ZLA
