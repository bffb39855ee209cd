/-! own base, third part: a copy out of a static table; a device as one value; the row of remembered devices behind a world's listed cells -/
section ZCT
variable {p : Program} {l : Launch} {e : Env} {R : Room} {s : State} {m : MethodId} {args : Array Value} {below : List Frame} {meth : Method} {c : Code} {H : Heap} {locs : List Loc} {cells slots : Nat} {Q : State → Prop} {g : zG} {cc : ByteArray} {pc : Nat} {ls : Array Slot} {rest st : List Value} {A : Nat → Prop} {a : Nat} {w : va_W}
theorem zclamp (z : Int32) (hz : ¬ z < 0) : z.toInt = (z.toNatClampNeg : Int) := by
  have h0 : (0 : Int) ≤ z.toInt := by
    have h1 := Int32.le_iff_toInt_le.mp (Int32.not_lt.mp hz)
    simpa using h1
  exact (Int.toNat_of_nonneg h0).symm
/-- System.arraycopy out of a static table of ints -/
theorem za_cpyT (hx : p.tables.exec = Jvm.exec) (hb : c.code = cc) (hml : c.maxLocals = ls.size) {own : String} {index : Nat} (hown : s.vm.findClass own = some m.cls) (hlink : (Cond.methodLink own index arraycopyName).before args s = true) (hnat : (Cond.native arraycopyName).before args s = true) (hstat : (Cond.static arraycopyName).before args s = true) (hini : (Cond.initialized "java/lang/System").before args s = true)
    (hK : zK g s) (hP : zP g w H) (hD : va_D A w) (hS : va_S A s.heap H locs) {t0 n0 n1 : Nat} {f f1 : Nat → Int32} (hX : va_T .int t0 n0 (fun j => .int (f j)) A s s.heap) (q1 : Nat) (ha1 : w[q1]? = some (a, .inl (g.2.1, n1, .inl f1)))
    {n : Int32} (n' : Nat) (hn : ¬ n < 0) (en : n.toNatClampNeg = n') (h4 : n' ≤ n0) (h5 : n' ≤ n1)
    (hframes : 1 ≤ R.frames) (hlocals : (rest.map fun v => v.category).sum + (nativeFrameWords "java/lang/System" "arraycopy" 5 + 11) ≤ R.locals) (hdg : decode cc pc = .ok (.invokestatic index, 3))
    (kk : ∀ (H1 : Heap) (locs1 : List Loc), zP g (w.set q1 (a, .inl (g.2.1, n1, .inl (va_cpy f f1 0 0 n')))) H1 → va_D A (w.set q1 (a, .inl (g.2.1, n1, .inl (va_cpy f f1 0 0 n')))) → va_S A s.heap H1 locs1 → W p l e R s m args below meth c H1 locs1 cells slots Q (F0 m (pc + 3) ls rest)) : W p l e R s m args below meth c H locs cells slots Q (F0 m pc ls (.int n :: .int 0 :: .ref a :: .int 0 :: .ref t0 :: rest)) := by
  subst en
  have z0 : ((0 : Int32)).toNatClampNeg = 0 := by decide
  have n0' : ¬ (0 : Int32) < 0 := by decide
  intro T hT X
  obtain ⟨tab, t1, t2, t3, t4, -, t5, t6⟩ := hX
  obtain ⟨u0, kT, u1, compT, u2⟩ := t2
  have hcT : H[t0]? = some tab := (hS.2.1 t0 (Array.getElem?_eq_some_iff.mp t1).1 t6).trans t1
  have hcA : H[a]? = some (vp_cell g.2.1 (n1, .inl f1)) := hP q1 _ ha1
  obtain ⟨-, kA, v1, compA, v2⟩ := (hK.2 0 _ rfl).1 n1 (fun j => .int (f1 j))
  have c0 := zclamp 0 n0'
  have cn := zclamp n hn
  obtain ⟨vm', X', step⟩ := X.arraycopy hx hown hlink hnat hstat hini (src := t0) (dst := a) (cs := tab) (cd := vp_cell g.2.1 (n1, .inl f1)) (srcPos := 0) (destPos := 0) (n := n) (by rw [hT]; exact hcT) (by rw [hT]; exact hcA)
    u0 (fun _ h => by cases h) t3 (fun h => by cases h) u1 v1 u2 v2 (by simp [refKind]) n0' n0' hn
    (by rw [c0, cn, z0]; omega)
    (by rw [c0, cn, z0]; show ¬ _ > ((arrV g.2.1 n1 (fun j => .int (f1 j))).slots.size : Int); rw [arrV_size]; omega)
    (fun vm₁ _ i hi => by
      have e : tab.slots.getD ((0 : Int32).toNatClampNeg + i) .null = .int (f ((0 : Int32).toNatClampNeg + i)) := by
        rw [Array.getD_eq_getD_getElem?, t5 _ (by rw [z0]; omega)]
        rfl
      exact ⟨by rw [e]; rfl, by rw [e]; exact trivial⟩)
    (g := F0 m pc ls (.int n :: .int 0 :: .ref a :: .int 0 :: .ref t0 :: rest)) rfl (by rw [hml]) (rest := rest) rfl (by rw [hb]; exact hdg) hframes (by show 2 * 0 + _ + _ ≤ _; omega)
  have e1 : copied tab (vp_cell g.2.1 (n1, .inl f1)) 0 0 n = vp_cell g.2.1 (n1, .inl (va_cpy f f1 0 0 n.toNatClampNeg)) := va_copiedX (fun z => .int z) tab g.2.1 f f1 t5 (by rw [z0]; omega)
  rw [e1] at X' step
  have hl : a < H.size := (Array.getElem?_eq_some_iff.mp hcA).1
  have hheap : ((T.setVm vm').setCell a (vp_cell g.2.1 (n1, .inl (va_cpy f f1 0 0 n.toNatClampNeg)))).heap = H.setIfInBounds a (vp_cell g.2.1 (n1, .inl (va_cpy f f1 0 0 n.toNatClampNeg))) := by rw [← hT]; rfl
  have oq : ∀ q : Nat, q ≠ a → (H.setIfInBounds a (vp_cell g.2.1 (n1, .inl (va_cpy f f1 0 0 n.toNatClampNeg))))[q]? = H[q]? := fun q hq => by simp [Array.getElem?_setIfInBounds, Ne.symm hq]
  have hsz : (H.setIfInBounds a (vp_cell g.2.1 (n1, .inl (va_cpy f f1 0 0 n.toNatClampNeg)))).size = H.size := by simp
  have hAa := hD.2 q1 _ ha1
  obtain ⟨t, a1, b1⟩ := kk _ _ (hP.set hD ha1 (show (H.setIfInBounds a _)[a]? = some _ by simp [Array.getElem?_setIfInBounds, hl]) oq) (hD.set ha1) ⟨by rw [hsz]; exact hS.1, fun q g1 g2 => (oq q (fun e => g2 (by rw [e]; exact hAa))).trans (hS.2.1 q g1 g2), fun q hq => by
      rcases List.mem_append.mp hq with h | h
      · exact hS.2.2 q h
      · obtain ⟨z, -, hz⟩ := List.mem_map.mp h
        rw [← hz]
        exact hAa⟩ _ hheap X'
  exact ⟨t, step t a1, b1⟩
end ZCT
/-- a device's contents as one value: blocks, pinFirst, pinLength, settings, time, quiet, commands, discarded, dropped -/
abbrev zDv : Type := (Nat → Int32) × (Nat → Int32) × (Nat → Int32) × (Nat → Int32) × Int32 × Int32 × Int32 × Int32 × Int32
abbrev zDw (g : zG) (a : Nat → Nat) (d : zDv) : va_W := zD g (a 0) (a 1) (a 2) (a 3) (a 4) d.1 d.2.1 d.2.2.1 d.2.2.2.1 d.2.2.2.2.1 d.2.2.2.2.2.1 d.2.2.2.2.2.2.1 d.2.2.2.2.2.2.2.1 d.2.2.2.2.2.2.2.2
/-- n devices, one behind another -/
def zpool (g : zG) (ad : Nat → Nat → Nat) (ds : Nat → zDv) : Nat → va_W
  | 0 => []
  | n + 1 => zpool g ad ds n ++ zDw g (ad n) (ds n)
theorem zpool_len (g : zG) (ad : Nat → Nat → Nat) (ds : Nat → zDv) : ∀ n, (zpool g ad ds n).length = 5 * n
  | 0 => rfl
  | n + 1 => by rw [zpool, List.length_append, zpool_len g ad ds n]; show 5 * n + 5 = _; omega
theorem zpool_at (g : zG) (ad : Nat → Nat → Nat) (ds : Nat → zDv) : ∀ (n i k : Nat), i < n → k < 5 → (zpool g ad ds n)[5 * i + k]? = (zDw g (ad i) (ds i))[k]?
  | 0, i, k, h, _ => absurd h (Nat.not_lt_zero i)
  | n + 1, i, k, h, hk => by
    have hl := zpool_len g ad ds n
    rw [zpool]
    by_cases hi : i < n
    · rw [List.getElem?_append_left (by omega), zpool_at g ad ds n i k hi hk]
    · have : i = n := by omega
      subst this
      rw [List.getElem?_append_right (by omega), hl, show 5 * i + k - 5 * i = k by omega]
theorem zpool_fst (g : zG) (ad : Nat → Nat → Nat) (ds ds2 : Nat → zDv) : ∀ n, (zpool g ad ds2 n).map Prod.fst = (zpool g ad ds n).map Prod.fst
  | 0 => rfl
  | n + 1 => by rw [zpool, zpool, List.map_append, List.map_append, zpool_fst g ad ds ds2 n]; rfl
theorem zpool_congr (g : zG) (ad : Nat → Nat → Nat) (ds ds2 : Nat → zDv) : ∀ n, (∀ i, i < n → ds2 i = ds i) → zpool g ad ds2 n = zpool g ad ds n
  | 0, _ => rfl
  | n + 1, h => by rw [zpool, zpool, zpool_congr g ad ds ds2 n (fun i hi => h i (by omega)), h n (by omega)]
section ZWT
variable {p : Program} {l : Launch} {e : Env} {R : Room} {s : State} {m : MethodId} {args : Array Value} {below : List Frame} {meth : Method} {c : Code} {H : Heap} {locs : List Loc} {cells slots : Nat} {Q : State → Prop} {g : zG} {cc : ByteArray} {pc : Nat} {ls : Array Slot} {rest st : List Value} {A : Nat → Prop} {a : Nat}
  {y : MethodName} {bytes : ByteArray} {maxL nL n index : Nat} {ret : Option FieldType} {ws : List Cond} {rm : Room} {Ts : List Cond} {own C : String} {b : Addr} {As : List Value}
/-- behind a writing call that takes some listed cells and the whole tail -/
theorem zjoinT {pre prec preq tl tlq : va_W} {H1 : Heap} (hP : zP g (pre ++ tl) H) (hD : va_D A (pre ++ tl)) (is : List Nat) (hC : is.map (fun i => pre[i]?) = prec.map some) (hq : preq.map Prod.fst = prec.map Prod.fst) (ht : tlq.map Prod.fst = tl.map Prod.fst)
    (hk : ∀ q : Nat, q < H.size → ¬ va_A (prec ++ tl) H.size q → H1[q]? = H[q]?) (hP1 : zP g (preq ++ tlq) H1) : zP g (zput pre is preq ++ tlq) H1 ∧ va_D A (zput pre is preq ++ tlq) := by
  have hln : is.length = preq.length := by
    have h1 := congrArg List.length hC
    have h2 := congrArg List.length hq
    simp only [List.length_map] at h1 h2
    omega
  have hf : (zput pre is preq).map Prod.fst = pre.map Prod.fst := by
    refine zput_fst is pre preq ?_
    have h1 : is.map (fun i => (pre[i]?).map Prod.fst) = (is.map (fun i => pre[i]?)).map (Option.map Prod.fst) := by rw [List.map_map]; rfl
    have h2 : prec.map (fun q => some q.1) = (prec.map Prod.fst).map some := by rw [List.map_map]; rfl
    have h3 : preq.map (fun q => some q.1) = (preq.map Prod.fst).map some := by rw [List.map_map]; rfl
    rw [h1, hC, h3, hq, ← h2, List.map_map]; rfl
  refine ⟨va_P.app (fun k q h => ?_) (fun k q h => ?_), zD_fst hD (by rw [List.map_append, List.map_append, hf, ht])⟩
  · by_cases hm : k ∈ is
    · obtain ⟨j, hj⟩ := List.getElem?_of_mem (zput_in is pre preq k q hm hln h)
      have hlt := (List.getElem?_eq_some_iff.mp hj).1
      exact hP1 j q (by rw [List.getElem?_append_left hlt]; exact hj)
    · rw [zput_out is pre preq k hm] at h
      have hkl := (List.getElem?_eq_some_iff.mp h).1
      have h' : (pre ++ tl)[k]? = some q := by rw [List.getElem?_append_left hkl]; exact h
      have hlt := (hP k q h').lt
      refine (hP k q h').kept (hk q.1 hlt (fun z => ?_))
      rcases z with ⟨k2, e, z⟩ | z
      · by_cases h2 : k2 < prec.length
        · rw [List.getElem?_append_left h2] at z
          have h1 : (is.map (fun i => pre[i]?))[k2]? = some (some (q.1, e)) := by rw [hC, List.getElem?_map, z]; rfl
          rw [List.getElem?_map] at h1
          cases hi : is[k2]? with
          | none => rw [hi] at h1; cases h1
          | some i =>
            rw [hi] at h1
            have h4 : pre[i]? = some (q.1, e) := Option.some.inj h1
            have hil := (List.getElem?_eq_some_iff.mp h4).1
            have hij := hD.1 k i q (q.1, e) h' (by rw [List.getElem?_append_left hil]; exact h4) rfl
            subst hij
            exact hm (List.mem_of_getElem? hi)
        · rw [List.getElem?_append_right (by omega)] at z
          have hz : (pre ++ tl)[pre.length + (k2 - prec.length)]? = some (q.1, e) := by rw [List.getElem?_append_right (by omega), show pre.length + (k2 - prec.length) - pre.length = k2 - prec.length by omega]; exact z
          have hij := hD.1 k _ q (q.1, e) h' hz rfl
          omega
      · omega
  · exact hP1 (preq.length + k) q (by rw [List.getElem?_append_right (by omega), show preq.length + k - preq.length = k by omega]; exact h)
theorem zsubT {pre prec tl : va_W} (is : List Nat) (hC : is.map (fun i => pre[i]?) = prec.map some) : ∀ (k : Nat) (q : Nat × va_E), (prec ++ tl)[k]? = some q → ∃ i, (pre ++ tl)[i]? = some q ∧ ((k < prec.length ∧ is[k]? = some i ∧ i < pre.length) ∨ (prec.length ≤ k ∧ i = pre.length + (k - prec.length))) := by
  intro k q hk
  by_cases h2 : k < prec.length
  · rw [List.getElem?_append_left h2] at hk
    have h1 : (is.map (fun i => pre[i]?))[k]? = some (some q) := by rw [hC, List.getElem?_map, hk]; rfl
    rw [List.getElem?_map] at h1
    cases hi : is[k]? with
    | none => rw [hi] at h1; cases h1
    | some i =>
      rw [hi] at h1
      have h4 : pre[i]? = some q := Option.some.inj h1
      have hil := (List.getElem?_eq_some_iff.mp h4).1
      exact ⟨i, by rw [List.getElem?_append_left hil]; exact h4, Or.inl ⟨h2, rfl, hil⟩⟩
  · rw [List.getElem?_append_right (by omega)] at hk
    exact ⟨pre.length + (k - prec.length), by rw [List.getElem?_append_right (by omega), show pre.length + (k - prec.length) - pre.length = k - prec.length by omega]; exact hk, Or.inr ⟨by omega, rfl⟩⟩
theorem zDreT {pre prec tl : va_W} (hD : va_D A (pre ++ tl)) (is : List Nat) (hn : va_nd is = true) (hC : is.map (fun i => pre[i]?) = prec.map some) : va_D A (prec ++ tl) := by
  refine ⟨fun i j x y hi hj hxy => ?_, fun k q hk => ?_⟩
  · obtain ⟨i2, a1, a2⟩ := zsubT is hC i x hi
    obtain ⟨j2, b1, b2⟩ := zsubT is hC j y hj
    have hij := hD.1 i2 j2 x y a1 b1 hxy
    subst hij
    rcases a2 with ⟨c1, c2, c3⟩ | ⟨c1, c2⟩ <;> rcases b2 with ⟨d1, d2, d3⟩ | ⟨d1, d2⟩
    · exact va_nd_inj is hn i j _ c2 d2
    · omega
    · omega
    · omega
  · obtain ⟨i2, a1, -⟩ := zsubT is hC k q hk
    exact hD.2 i2 q a1
theorem zfreeT {pre prec tl : va_W} (hD : va_D A (pre ++ tl)) (hS : va_S A s.heap H locs) (hA : ∀ q, s.heap.size ≤ q → A q) (is : List Nat) (hC : is.map (fun i => pre[i]?) = prec.map some) : ∀ q, va_A (prec ++ tl) H.size q → A q := by
  intro q h
  rcases h with ⟨k, e, h⟩ | h
  · obtain ⟨i2, a1, -⟩ := zsubT is hC k (q, e) h
    exact hD.2 i2 _ a1
  · exact hA q (Nat.le_trans hS.1 h)
theorem zVwT {Qy : (Nat → Prop) → Array Value → State → Outcome → State → Prop} {v0 : Option Value} {pre prec preq tl tlq : va_W} (hQ : ∀ A a st₀ o t, Qy A a st₀ o t → o = .returned v0 ∧ zP g (preq ++ tlq) t.heap ∧ va_F A st₀ t) (S : CallFix p m c cc nL s args Ts own) (hM : Mw l g y ws rm (.ref b :: As) (prec ++ tl) Qy) (cw : CallW R s args own C index y bytes maxL ret ws rm 0 0 n) (hK : zK g s) (hP : zP g (pre ++ tl) H) (hD : va_D A (pre ++ tl)) (hS : va_S A s.heap H locs) (hA : ∀ q, s.heap.size ≤ q → A q) (is : List Nat) (hnd : va_nd is = true) (hC : is.map (fun i => pre[i]?) = prec.map some) (he1 : preq.map Prod.fst = prec.map Prod.fst) (he2 : tlq.map Prod.fst = tl.map Prod.fst) (q0 : Nat) {ci : Nat} {fs : List Value} {T : u_T} {N : Nat} (he : (pre ++ tl)[q0]? = some (b, .inr (ci, fs))) (hc : vwCl[ci]? = some (C, T, N)) (hn : As.length = n) (hsize : ls.size = nL) (hst : st = As.reverse ++ .ref b :: rest) (hW : (rest.map fun v => v.category).sum ≤ 8) (hf : cells ≤ R.cells ∧ slots ≤ R.slots) (hdg : decode cc pc = .ok (.invokevirtual index, 3))
    (kk : ∀ (H1 : Heap) (locs1 : List Loc), zP g (zput pre is preq ++ tlq) H1 → va_D A (zput pre is preq ++ tlq) → va_S A s.heap H1 locs1 → W p l e R s m args below meth c H1 locs1 cells slots Q (F0 m (pc + 3) ls (v0.toList ++ rest))) : W p l e R s m args below meth c H locs cells slots Q (F0 m pc ls st) := by
  have hfree := zfreeT hD hS hA is hC
  have hr : va_Run p l e R s m args below meth c H locs cells slots 0 0 (F0 m pc ls st) rest (Qy (va_A (prec ++ tl) H.size) (Value.ref b :: As).toArray) (va_A (prec ++ tl) H.size) :=
    va_runV (As := As) (rest := rest) S (hM H.size) cw ⟨zblindW g _ _ H.size, va_recv hK hP (ci := ci) (q0 := q0) hc he, fun U hU hW' => ⟨rfl, by rw [hU], fun k q hk => by
      obtain ⟨i2, a1, -⟩ := zsubT is hC k q hk
      rw [hU]; exact hP i2 q a1, va_K.moved hW'.alike hK, (zDreT hD is hnd hC).weaken (fun _ _ _ _ => trivial)⟩⟩ rfl hn hsize hst (lv_room hW) hdg hf
  intro T hT X
  obtain ⟨v, st₀, t, T', L, h0, X', hL, e1, e2, hqa, st⟩ := hr T hT X
  obtain ⟨hv, hPq, hz, hk⟩ := hQ _ _ _ _ _ hqa
  cases hv
  rw [h0] at hz hk
  obtain ⟨hP2, hD2⟩ := zjoinT hP hD is hC he1 he2 hk hPq
  have hS2 : va_S A s.heap T'.heap (locs ++ L) := ⟨Nat.le_trans hS.1 (by rw [e1]; exact hz), fun q h1 h2 => by rw [e1, hk q (Nat.lt_of_lt_of_le h1 hS.1) (fun z => h2 (hfree q z))]; exact hS.2.1 q h1 h2, fun q hq => by
      rcases List.mem_append.mp hq with h | h
      · exact hS.2.2 q h
      · exact hfree _ (hL q h)⟩
  obtain ⟨t2, a1, b1⟩ := kk T'.heap (locs ++ L) (by rw [e1]; exact hP2) hD2 hS2 T' rfl X'
  exact ⟨t2, st t2 a1, b1⟩
end ZWT
/-- the three exceptions that are thrown, as the tables have them -/
theorem zEx_1 : zE 1 ∈ zExc := by decide +kernel
theorem zEx_2 : zE 2 ∈ zExc := by decide +kernel
theorem zEx_3 : zE 3 ∈ zExc := by decide +kernel
theorem zEn : ∀ n ∈ ["java/lang/RuntimeException", "java/lang/Exception"], Bundle.fit n = true := by decide +kernel
theorem zEf_1 : Bundle.fit (zE 1) = true := by decide +kernel
theorem zEf_2 : Bundle.fit (zE 2) = true := by decide +kernel
theorem zEf_3 : Bundle.fit (zE 3) = true := by decide +kernel
theorem zEb_1 : ∀ w ∈ (vx_atS RX3 162 (zE 1) ["java/lang/RuntimeException", "java/lang/Exception"]).filter (fun w => !goodWord w), w ∈ Cond.castable (zE 1) (zE 1) :: zDec.map Cond.declares := by decide +kernel
theorem zEg_1_158 : ∀ w ∈ Cond.classLink RX3 158 (zE 1) :: Cond.initialized (zE 1) :: vx_atS RX3 162 (zE 1) ["java/lang/RuntimeException", "java/lang/Exception"], vx_ot w = true := by decide +kernel
theorem zEb_2 : ∀ w ∈ (vx_atS RX3 45 (zE 2) ["java/lang/RuntimeException", "java/lang/Exception"]).filter (fun w => !goodWord w), w ∈ Cond.castable (zE 2) (zE 2) :: zDec.map Cond.declares := by decide +kernel
theorem zEg_2_41 : ∀ w ∈ Cond.classLink RX3 41 (zE 2) :: Cond.initialized (zE 2) :: vx_atS RX3 45 (zE 2) ["java/lang/RuntimeException", "java/lang/Exception"], vx_ot w = true := by decide +kernel
theorem zEb_3 : ∀ w ∈ (vx_atS RX3 56 (zE 3) ["java/lang/RuntimeException", "java/lang/Exception"]).filter (fun w => !goodWord w), w ∈ Cond.castable (zE 3) (zE 3) :: zDec.map Cond.declares := by decide +kernel
theorem zEg_3_52 : ∀ w ∈ Cond.classLink RX3 52 (zE 3) :: Cond.initialized (zE 3) :: vx_atS RX3 56 (zE 3) ["java/lang/RuntimeException", "java/lang/Exception"], vx_ot w = true := by decide +kernel
