/-! CONTRACTS over the abstract heap, calls, returns, throws. -/
def zB (g : zG) (h : Hp) (t : State) : Prop := ∃ ws : va_W, zw h ws ∧ va_P g.2.1 zcl ws t.heap ∧ va_D (zA g) ws
def zQ (g : zG) (PR : Option Value → Hp → Prop) : Array Value → State → Outcome → State → Prop := fun _ st oc t => (∃ (v : Option Value) (h : Hp), oc = .returned v ∧ PR v h ∧ zB g h t) ∧ va_F (zA g) st t
def zX (g : zG) (PX : String → Hp → Prop) : String → State → State → Prop := fun E st t => (∃ h : Hp, PX E h ∧ zB g h t) ∧ va_F (zA g) st t
/-- method y (its code word w), of rank r, which makes at most mc cells of ms slots: from the arguments av and the heap h it returns so that PR, or throws so that PX -/
def Ct (g : zG) (y : MethodName) (w : Cond) (r mc ms : Nat) (av : List Value) (h : Hp) (PR : Option Value → Hp → Prop) (PX : String → Hp → Prop) : Prop :=
  vx_Met g.1 y (w :: zT) (zR r mc ms) (va_Pc av (fun U => zB g h U ∧ Kz g U U.heap ∧ g.bs ≤ U.heap.size)) (zQ g PR) (zX g PX) mc ms (zA g)
/-- a value on the stack, or none -/
def zps (v : Option Value) (st : List Value) : List Value := match v with
  | none => st
  | some x => x :: st
theorem zps_eq (v : Option Value) (st : List Value) : v.toList ++ st = zps v st := by cases v <;> rfl
theorem zargs {av : List Value} (hav : ∀ v ∈ av, v.category = 1) : ∀ (k i : Nat) (v : Value), av[i]? = some v → (k + i, v) ∈ lv_args k av := by
  induction av with
  | nil => intro k i v h; simp at h
  | cons a l ih =>
    intro k i v h
    have ha : ¬ a.category = 2 := by rw [hav a List.mem_cons_self]; decide
    unfold lv_args
    rw [if_neg ha]
    cases i with
    | zero =>
      simp at h
      subst h
      exact List.mem_cons_self
    | succ j =>
      rw [List.getElem?_cons_succ] at h
      have := ih (fun v hv => hav v (List.mem_cons_of_mem _ hv)) (k + 1) j v h
      refine List.mem_cons_of_mem _ ?_
      rw [show k + (j + 1) = k + 1 + j by omega]
      exact this
theorem zentry {av : List Value} {n : Nat} {ls : List (Option Value)} (hn : (lg_sl av).length ≤ n) (hav : av.all (fun v => v.category == 1) = true) (hls : av.map some ++ List.replicate (n - av.length) none = ls) : zLv ((lg_sl av ++ List.replicate (n - (lg_sl av).length) Slot.unset).toArray) n ls := by
  have hav' : ∀ v ∈ av, v.category = 1 := fun v hv => by
    have := List.all_eq_true.mp hav v hv
    simpa using this
  have key : ∀ (i : Nat) (v : Value), ls[i]? = some (some v) → av[i]? = some v := by
    intro i v h
    rw [← hls] at h
    by_cases hl : i < av.length
    · rw [List.getElem?_append_left (by simpa using hl), List.getElem?_map] at h
      cases hv : av[i]? with
      | none => rw [hv] at h; simp at h
      | some w => rw [hv] at h; simp at h; rw [h]
    · rw [List.getElem?_append_right (by simpa using hl), List.getElem?_replicate] at h
      split at h <;> simp at h
  have hl := lv_entry av (n := n) hn
  refine ⟨⟨hl.1, hl.2.1, fun q hq => ?_⟩, fun i v h => hav' v (List.mem_of_getElem? (key i v h))⟩
  obtain ⟨i, v⟩ := q
  have h1 := zargs hav' 0 i v (key i v (zl_mem.mp hq))
  rw [Nat.zero_add] at h1
  exact hl.2.2 _ h1
section ZC
variable {g : zG} {own : String} {cc : ByteArray} {nL r mc ms : Nat} {ret : Option FieldType} {p : Program} {e : Env} {R : Room} {s : State} {m : MethodId} {args : Array Value} {below : List Frame} {meth : Method} {c : Code} {Q : State → Prop} {rc rs pc : Nat} {ls : List (Option Value)} {st : List Value} {h : Hp}
variable {PR : Option Value → Hp → Prop} {PX : String → Hp → Prop}
theorem Ct_intro {y : MethodName} {av : List Value} (hy : plainName y.cls = true) (hn : (lg_sl av).length ≤ nL) (hav : av.all (fun v => v.category == 1) = true) (hls : av.map some ++ List.replicate (nL - av.length) none = ls)
    (body : ∀ (p : Program) (e : Env) (R : Room) (s : State) (m : MethodId) (args : Array Value) (below : List Frame) (meth : Method) (c : Code), zC g y.cls cc nL ret r mc ms p e R s m args below meth c → (∀ x ∈ c.exceptionTable.toList, False) → meth.name = y.name →
      Z g nL mc ms p e R s m args below meth c (vx_MQ below (zQ g PR) (zX g PX) args s mc ms (zA g)) mc ms 0 ls [] h) : Ct g y (.code y cc nL ret) r mc ms av h PR PX := by
  refine vx_ofW (cc := cc) (maxL := nL) (ret := ret) hy rfl ?_
  intro p e s m args below meth c s₁ B hml ht hv
  obtain ⟨rfl, ⟨ws, b1, b2, b3⟩, hK, hbs⟩ := hv
  have hts := atoms_spec (ws := Cond.code y cc nL ret :: zT) B.pre
  have C : zC g y.cls cc nL ret r mc ms p e (headSpec (Cond.code y cc nL ret :: zT) (zR r mc ms)).room s m av.toArray below meth c :=
    ⟨B.exec, B.bytes, hml, findClass_of_methodNamed B.named, fun w hw => hts w (List.mem_cons_of_mem _ hw), B.notSynchronized, hK, hbs, B.returns, Nat.le_refl _, Nat.le_refl _, Nat.le_refl _, Nat.le_refl _⟩
  rw [lg_entry_eq]
  exact body p e _ s m av.toArray below meth c C ht (name_of_methodNamed B.named B.method).1 ws s.heap [] _ 0 0 b1 b2 b3 va_S.rf (zentry hn hav hls) (by omega) (by omega)
theorem Ct_introW {y : MethodName} {av : List Value} {hh : List (Nat × Nat × Nat × Nat)} (hy : plainName y.cls = true) (hn : (lg_sl av).length ≤ nL) (hav : av.all (fun v => v.category == 1) = true) (hls : av.map some ++ List.replicate (nL - av.length) none = ls)
    (body : ∀ (p : Program) (e : Env) (R : Room) (s : State) (m : MethodId) (args : Array Value) (below : List Frame) (meth : Method) (c : Code), zC g y.cls cc nL ret r mc ms p e R s m args below meth c → c.exceptionTable.toList = tableOf hh →
      Z g nL mc ms p e R s m args below meth c (vx_MQ below (zQ g PR) (zX g PX) args s mc ms (zA g)) mc ms 0 ls [] h) : Ct g y (.codeWith y cc nL ret hh) r mc ms av h PR PX := by
  refine vx_ofWH (cc := cc) (maxL := nL) (ret := ret) (hh := hh) hy rfl ?_
  intro p e s m args below meth c s₁ B hml hv
  obtain ⟨rfl, ⟨ws, b1, b2, b3⟩, hK, hbs⟩ := hv
  have hts := atoms_spec (ws := Cond.codeWith y cc nL ret hh :: zT) B.pre
  have ht := vx_table (x := y) B (hts _ List.mem_cons_self)
  have C : zC g y.cls cc nL ret r mc ms p e (headSpec (Cond.codeWith y cc nL ret hh :: zT) (zR r mc ms)).room s m av.toArray below meth c :=
    ⟨B.exec, B.bytes, hml, findClass_of_methodNamed B.named, fun w hw => hts w (List.mem_cons_of_mem _ hw), B.notSynchronized, hK, hbs, B.returns, Nat.le_refl _, Nat.le_refl _, Nat.le_refl _, Nat.le_refl _⟩
  rw [lg_entry_eq]
  exact body p e _ s m av.toArray below meth c C ht ws s.heap [] _ 0 0 b1 b2 b3 va_S.rf (zentry hn hav hls) (by omega) (by omega)
/-! ends -/
theorem z_end {t : State} {H : Heap} {locs : List Loc} {ws : va_W} (ht : t.heap = H) (a1 : zw h ws) (a2 : va_P g.2.1 zcl ws H) (a3 : va_D (zA g) ws) : zB g h t := ⟨ws, a1, by rw [ht]; exact a2, a3⟩
theorem z_iret {v : Int32} (C : zC g own cc nL (some .int) r mc ms p e R s m args below meth c) (d : decode cc pc = .ok (.ireturn, 1)) (k : PR (some (.int v)) h) : Z g nL mc ms p e R s m args below meth c (vx_MQ below (zQ g PR) (zX g PX) args s mc ms (zA g)) rc rs (pc) (ls) ([.int v]) (h) := by
  intro ws H locs lsA cells slots a1 a2 a3 a4 a5 a6 a7
  refine vx_ret (W.widen (k := mc) (n := ms) (by omega) (by omega) ?_)
  exact W.iret C.1 C.2.1 C.2.2.2.2.2.2.2.2.1 (fun t ht _ => ⟨⟨some (.int v), h, rfl, k, z_end (locs := locs) ht a1 a2 a3⟩, a4.F ht⟩) a4.2.2 d C.2.2.2.2.2.1
theorem z_zret {v : Int32} (C : zC g own cc nL (some .boolean) r mc ms p e R s m args below meth c) (d : decode cc pc = .ok (.ireturn, 1)) (hn : narrow .boolean (.int v) = .int v) (k : PR (some (.int v)) h) : Z g nL mc ms p e R s m args below meth c (vx_MQ below (zQ g PR) (zX g PX) args s mc ms (zA g)) rc rs (pc) (ls) ([.int v]) (h) := by
  intro ws H locs lsA cells slots a1 a2 a3 a4 a5 a6 a7
  refine vx_ret (W.widen (k := mc) (n := ms) (by omega) (by omega) ?_)
  exact W.zret C.1 C.2.1 C.2.2.2.2.2.2.2.2.1 hn (fun t ht _ => ⟨⟨some (.int v), h, rfl, k, z_end (locs := locs) ht a1 a2 a3⟩, a4.F ht⟩) a4.2.2 d C.2.2.2.2.2.1
theorem z_vret (C : zC g own cc nL none r mc ms p e R s m args below meth c) (d : decode cc pc = .ok (.return_, 1)) (k : PR none h) : Z g nL mc ms p e R s m args below meth c (vx_MQ below (zQ g PR) (zX g PX) args s mc ms (zA g)) rc rs (pc) (ls) ([]) (h) := by
  intro ws H locs lsA cells slots a1 a2 a3 a4 a5 a6 a7
  refine vx_ret (W.widen (k := mc) (n := ms) (by omega) (by omega) ?_)
  exact W.vret C.1 C.2.1 C.2.2.2.2.2.2.2.2.1 (fun t ht _ => ⟨⟨none, h, rfl, k, z_end (locs := locs) ht a1 a2 a3⟩, a4.F ht⟩) a4.2.2 d C.2.2.2.2.2.1
theorem z_aret {v : Nat} {rt : FieldType} (C : zC g own cc nL (some rt) r mc ms p e R s m args below meth c) (d : decode cc pc = .ok (.areturn, 1)) (hrt : (∃ n, rt = .object n) ∨ ∃ t, rt = .array t) (k : PR (some (.ref v)) h) : Z g nL mc ms p e R s m args below meth c (vx_MQ below (zQ g PR) (zX g PX) args s mc ms (zA g)) rc rs (pc) (ls) ([.ref v]) (h) := by
  intro ws H locs lsA cells slots a1 a2 a3 a4 a5 a6 a7
  refine vx_ret (W.widen (k := mc) (n := ms) (by omega) (by omega) ?_)
  exact W.aret C.1 C.2.1 C.2.2.2.2.2.2.2.2.1 hrt (Or.inr ⟨v, rfl⟩) (fun t ht _ => ⟨⟨some (.ref v), h, rfl, k, z_end (locs := locs) ht a1 a2 a3⟩, a4.F ht⟩) a4.2.2 d C.2.2.2.2.2.1
/-- not caught here -/
theorem zx_out {E : String} (C : zC g own cc nL ret r mc ms p e R s m args below meth c) (ht : ∀ x ∈ c.exceptionTable.toList, False) (k : PX E h) : ZX g nL mc ms p e R s m args below meth c (vx_MQ below (zQ g PR) (zX g PX) args s mc ms (zA g)) rc rs pc ls E h := by
  intro ws H locs lsA cells slots q ce rest a1 a2 a3 a4 a5 a6 a7 hce hcv hcl
  exact vx_out (fun x hx => (ht x hx).elim) C.2.2.2.2.2.1 hce hcv hcl (fun t hh _ => ⟨⟨h, k, z_end (locs := locs) hh a1 a2 a3⟩, a4.F hh⟩) a4.2.2 (by omega) (by omega)
/-- every cell of the abstract heap is the run's own -/
theorem z_dom (C : zC g own cc nL ret r mc ms p e R s m args below meth c) (k : (∀ q, h q ≠ none → q ≠ g.ea) → Z g nL mc ms p e R s m args below meth c Q rc rs (pc) (ls) (st) (h)) : Z g nL mc ms p e R s m args below meth c Q rc rs (pc) (ls) (st) (h) := by
  intro ws H locs lsA cells slots a1 a2 a3 a4 a5 a6 a7
  refine k (fun q hq z => ?_) ws H locs lsA cells slots a1 a2 a3 a4 a5 a6 a7
  cases he : h q with
  | none => exact hq he
  | some e0 =>
    obtain ⟨j, hj⟩ := zw_at a1 he
    have h1 : g.bs ≤ q := a3.2 j _ hj
    have h2 := C.2.2.2.2.2.2.1.2.2.2.2.2.2.2.1.2.2
    omega
/-! calls -/
theorem z_words {w : Cond} (hw : w ∈ zT) (C : zC g own cc nL ret r mc ms p e R s m args below meth c) : ∀ w1 ∈ w :: zT, ∀ (a' : Array Value) (U : State), s.WarmedH U.vm → w1.before a' U = true := by
  intro w1 h1 a' U hW
  have h2 : w1 ∈ zT := by
    rcases List.mem_cons.mp h1 with rfl | h2
    · exact hw
    · exact h2
  exact word_at hW (good_of_word (zT_good w1 h2)) (C.2.2.2.2.1 w1 h2)
theorem z_blind {av : List Value} : FrameBlind (va_Pc av (fun U => zB g h U ∧ Kz g U U.heap ∧ g.bs ≤ U.heap.size)) := by
  intro a U gf mk q
  obtain ⟨q0, q1, q2, q3⟩ := q
  exact ⟨q0, q1, Kz.to (U := U.calling gf mk a) q2 (State.WarmedH.refl U) (fun _ _ _ => rfl), q3⟩
theorem z_pre {av : List Value} {ws : va_W} {H : Heap} {locs : List Loc} (C : zC g own cc nL ret r mc ms p e R s m args below meth c) (a1 : zw h ws) (a2 : va_P g.2.1 zcl ws H) (a3 : va_D (zA g) ws) (a4 : va_S (zA g) s.heap H locs) (U : State) (hU : U.heap = H) (hW : s.WarmedH U.vm) : va_Pc av (fun U => zB g h U ∧ Kz g U U.heap ∧ g.bs ≤ U.heap.size) av.toArray U := by
  refine ⟨rfl, z_end (locs := locs) hU a1 a2 a3, ?_, ?_⟩
  · rw [hU]
    exact Kz.to C.2.2.2.2.2.2.1 hW a4.2.1
  · rw [hU]
    exact Nat.le_trans C.2.2.2.2.2.2.2.1 a4.1
theorem z_run {mc1 ms1 : Nat} {rest st0 : List Value} {a : Array Value} {H : Heap} {locs : List Loc} {lsA : Array Slot} {cells slots : Nat} (a4 : va_S (zA g) s.heap H locs) (a5 : zLv lsA nL ls) (a6 : cells + rc ≤ mc) (a7 : slots + rs ≤ ms) (hmc : mc1 ≤ rc) (hms : ms1 ≤ rs)
    (hr : vx_Run p g.1 e R s m args below meth c H locs cells slots mc1 ms1 (F0 m pc lsA st0) rest (zQ g (fun v h1 => Z g nL mc ms p e R s m args below meth c Q (rc - mc1) (rs - ms1) (pc + 3) (ls) (zps v rest) (h1)) a) (zX g (fun E h1 => ZX g nL mc ms p e R s m args below meth c Q (rc - mc1) (rs - ms1) pc ls E h1)) (zA g)) :
    W p g.1 e R s m args below meth c H locs cells slots Q (F0 m pc lsA st0) := by
  intro T hT X
  rcases hr T hT X with ⟨v, st₀, t, T', L, h0, X', hL, e1, e2, ⟨⟨v1, h1, hv, hp, ws, b1, b2, b3⟩, hF⟩, st⟩ | ⟨q, st₀, t, T', L, E, ce, h0, X', hL, e1, e2, ⟨⟨h1, hp, ws, b1, b2, b3⟩, hF⟩, hce, hcv, hcl, st⟩
  · cases hv
    obtain ⟨k1, k2, k3⟩ := vx_keep h0 e1 a4 (fun q _ z => z) (fun q z => z) hL hF
    have hw := hp ws T'.heap (locs ++ L) lsA (cells + mc1) (slots + ms1) b1 (by rw [e1]; exact b2) b3 k3 a5 (by omega) (by omega)
    rw [← zps_eq] at hw
    obtain ⟨t2, a1, b1⟩ := hw T' rfl X'
    exact ⟨t2, st t2 a1, b1⟩
  · obtain ⟨k1, k2, k3⟩ := vx_keep h0 e1 a4 (fun q _ z => z) (fun q z => z) hL hF
    obtain ⟨t2, a1, b1⟩ := hp ws T'.heap (locs ++ L) lsA (cells + mc1) (slots + ms1) q ce rest b1 (by rw [e1]; exact b2) b3 k3 a5 (by omega) (by omega) (by rw [e1]; exact hce) hcv hcl T' rfl X'
    exact ⟨t2, st.trans a1, b1⟩
theorem z_callV {y : MethodName} {bytes : ByteArray} {maxL n index : Nat} {rt : Option FieldType} {r1 mc1 ms1 : Nat} {As rest : List Value} {b ci N : Nat} {fs : List Value} {T0 : u_T} (C : zC g own cc nL ret r mc ms p e R s m args below meth c) (d : decode cc pc = .ok (.invokevirtual index, 3)) (hcode : Cond.code y bytes maxL rt ∈ zT) (hlink : Cond.methodLink own index y ∈ zT) (hinst : Cond.instanceMethod y ∈ zT) (hsel : Cond.selects y.cls y y ∈ zT) (hini : Cond.initialized y.cls ∈ zT)
    (hd : y.cls ≠ "java/lang/invoke/MethodHandle" ∧ y.cls ≠ "java/lang/invoke/VarHandle" ∧ (parseMethodDescriptor y.desc).map (fun d => d.parameters.length) = some n) (hn : As.length = n) (hc : zcl[ci]? = some (y.cls, T0, N)) (hb : h b = some (.inr (ci, fs))) (hr : r1 + 1 ≤ r) (hml : maxL ≤ 15) (hst : (rest.map fun v => v.category).sum ≤ 8) (hmc : mc1 ≤ rc) (hms : ms1 ≤ rs) (hstk : st = As.reverse ++ .ref b :: rest)
    (ct : Ct g y (.code y bytes maxL rt) r1 mc1 ms1 (.ref b :: As) h (fun v h1 => Z g nL mc ms p e R s m args below meth c Q (rc - mc1) (rs - ms1) (pc + 3) (ls) (zps v rest) (h1)) (fun E h1 => ZX g nL mc ms p e R s m args below meth c Q (rc - mc1) (rs - ms1) pc ls E h1)) : Z g nL mc ms p e R s m args below meth c Q rc rs (pc) (ls) (st) (h) := by
  subst hstk
  intro ws H locs lsA cells slots a1 a2 a3 a4 a5 a6 a7
  have hw := C.2.2.2.2.1
  have hfr := C.2.2.2.2.2.2.2.2.2.1
  have hlo := C.2.2.2.2.2.2.2.2.2.2.1
  have hce := C.2.2.2.2.2.2.2.2.2.2.2.1
  have hsl := C.2.2.2.2.2.2.2.2.2.2.2.2
  obtain ⟨q0, hq⟩ := zw_at a1 hb
  refine z_run a4 a5 a6 a7 hmc hms (vx_runV (As := As) (rest := rest) ⟨C.1, C.2.1, C.2.2.1, C.2.2.2.1, hw⟩ ct (C := y.cls) (bytes := bytes) (maxL := maxL) (ret := rt) (n := n)
    ⟨⟨rfl, rfl, Nat.le_trans hr hfr, Nat.le_trans (by show 8 + (maxL + 11) + 34 * r1 ≤ 34 * r; omega) hlo, z_words hcode C, List.mem_cons_self, hw _ hcode, hw _ hini, ⟨hd.1, hd.2.1⟩, fun sig hs => by have h2 := hd.2.2; rw [hs] at h2; exact (Option.some.inj h2).symm, hw _ hlink⟩, hw _ hinst, hw _ hsel⟩
    ⟨z_blind, va_recv C.2.2.2.2.2.2.1.2.1 a2 hc hq, z_pre C a1 a2 a3 a4⟩ rfl hn a5.1.1 rfl (lv_room hst) d ⟨by omega, by omega⟩)
theorem z_callS {y : MethodName} {bytes : ByteArray} {maxL n index : Nat} {rt : Option FieldType} {r1 mc1 ms1 : Nat} {As rest : List Value} (C : zC g own cc nL ret r mc ms p e R s m args below meth c) (d : decode cc pc = .ok (.invokestatic index, 3)) (hcode : Cond.code y bytes maxL rt ∈ zT) (hlink : Cond.methodLink own index y ∈ zT) (hstat : Cond.static y ∈ zT) (hini : Cond.initialized y.cls ∈ zT)
    (hd : y.cls ≠ "java/lang/invoke/MethodHandle" ∧ y.cls ≠ "java/lang/invoke/VarHandle" ∧ (parseMethodDescriptor y.desc).map (fun d => d.parameters.length) = some n) (hn : As.length = n) (hr : r1 + 1 ≤ r) (hml : maxL ≤ 15) (hst : (rest.map fun v => v.category).sum ≤ 8) (hmc : mc1 ≤ rc) (hms : ms1 ≤ rs) (hstk : st = As.reverse ++ rest)
    (ct : Ct g y (.code y bytes maxL rt) r1 mc1 ms1 As h (fun v h1 => Z g nL mc ms p e R s m args below meth c Q (rc - mc1) (rs - ms1) (pc + 3) (ls) (zps v rest) (h1)) (fun E h1 => ZX g nL mc ms p e R s m args below meth c Q (rc - mc1) (rs - ms1) pc ls E h1)) : Z g nL mc ms p e R s m args below meth c Q rc rs (pc) (ls) (st) (h) := by
  subst hstk
  intro ws H locs lsA cells slots a1 a2 a3 a4 a5 a6 a7
  have hw := C.2.2.2.2.1
  have hfr := C.2.2.2.2.2.2.2.2.2.1
  have hlo := C.2.2.2.2.2.2.2.2.2.2.1
  have hce := C.2.2.2.2.2.2.2.2.2.2.2.1
  have hsl := C.2.2.2.2.2.2.2.2.2.2.2.2
  refine z_run a4 a5 a6 a7 hmc hms (vx_runS (As := As) (rest := rest) ⟨C.1, C.2.1, C.2.2.1, C.2.2.2.1, hw⟩ ct (bytes := bytes) (maxL := maxL) (ret := rt) (n := n)
    ⟨⟨rfl, rfl, Nat.le_trans hr hfr, Nat.le_trans (by show 8 + (maxL + 11) + 34 * r1 ≤ 34 * r; omega) hlo, z_words hcode C, List.mem_cons_self, hw _ hcode, hw _ hini, ⟨hd.1, hd.2.1⟩, fun sig hs => by have h2 := hd.2.2; rw [hs] at h2; exact (Option.some.inj h2).symm, hw _ hlink⟩, hw _ hstat⟩
    ⟨z_blind, z_pre C a1 a2 a3 a4⟩ rfl hn a5.1.1 rfl (lv_room hst) d ⟨by omega, by omega⟩)
/-- a static method with handlers of its own -/
theorem z_callSW {y : MethodName} {bytes : ByteArray} {maxL n index : Nat} {rt : Option FieldType} {hh : List (Nat × Nat × Nat × Nat)} {r1 mc1 ms1 : Nat} {As rest : List Value} (C : zC g own cc nL ret r mc ms p e R s m args below meth c) (d : decode cc pc = .ok (.invokestatic index, 3)) (hcode : Cond.codeWith y bytes maxL rt hh ∈ zT) (hlink : Cond.methodLink own index y ∈ zT) (hstat : Cond.static y ∈ zT) (hini : Cond.initialized y.cls ∈ zT)
    (hd : y.cls ≠ "java/lang/invoke/MethodHandle" ∧ y.cls ≠ "java/lang/invoke/VarHandle" ∧ (parseMethodDescriptor y.desc).map (fun d => d.parameters.length) = some n) (hn : As.length = n) (hr : r1 + 1 ≤ r) (hml : maxL ≤ 15) (hst : (rest.map fun v => v.category).sum ≤ 8) (hmc : mc1 ≤ rc) (hms : ms1 ≤ rs) (hstk : st = As.reverse ++ rest)
    (ct : Ct g y (.codeWith y bytes maxL rt hh) r1 mc1 ms1 As h (fun v h1 => Z g nL mc ms p e R s m args below meth c Q (rc - mc1) (rs - ms1) (pc + 3) (ls) (zps v rest) (h1)) (fun E h1 => ZX g nL mc ms p e R s m args below meth c Q (rc - mc1) (rs - ms1) pc ls E h1)) : Z g nL mc ms p e R s m args below meth c Q rc rs (pc) (ls) (st) (h) := by
  subst hstk
  intro ws H locs lsA cells slots a1 a2 a3 a4 a5 a6 a7
  have hw := C.2.2.2.2.1
  have hfr := C.2.2.2.2.2.2.2.2.2.1
  have hlo := C.2.2.2.2.2.2.2.2.2.2.1
  have hce := C.2.2.2.2.2.2.2.2.2.2.2.1
  have hsl := C.2.2.2.2.2.2.2.2.2.2.2.2
  refine z_run a4 a5 a6 a7 hmc hms (vx_runSX (hh := hh) (As := As) (rest := rest) ⟨C.1, C.2.1, C.2.2.1, C.2.2.2.1, hw⟩ ct (bytes := bytes) (maxL := maxL) (ret := rt) (n := n)
    ⟨⟨rfl, rfl, Nat.le_trans hr hfr, Nat.le_trans (by show 8 + (maxL + 11) + 34 * r1 ≤ 34 * r; omega) hlo, z_words hcode C, List.mem_cons_self⟩, hw _ hcode, hw _ hini, ⟨hd.1, hd.2.1⟩, fun sig hs => by have h2 := hd.2.2; rw [hs] at h2; exact (Option.some.inj h2).symm, hw _ hlink, hw _ hstat⟩
    ⟨z_blind, z_pre C a1 a2 a3 a4⟩ rfl hn a5.1.1 rfl (lv_room hst) d ⟨by omega, by omega⟩)
/-- a method that never throws, as a contract of the plain kind -/
theorem Ct_Met {y : MethodName} {w : Cond} {av : List Value} (ct : Ct g y w r mc ms av h PR (fun _ _ => False)) : Met g.1 y (w :: zT) (zR r mc ms) (va_Pc av (fun U => zB g h U ∧ Kz g U U.heap ∧ g.bs ≤ U.heap.size)) (zQ g PR) mc ms (zA g) := by
  intro p e h1 h2 h3 s m args below h4 h5 h6 h7
  obtain ⟨n, o, g1, g2, g3, g4⟩ := ct p e h1 h2 h3 s m args below h4 h5 h6 h7
  refine ⟨n, o, g1, g2, g3, ?_⟩
  rcases g4 with g4 | ⟨q, -, E, ce, L, ⟨⟨h9, hf, -⟩, -⟩, -⟩
  · exact g4
  · exact hf.elim
theorem z_callI {y : MethodName} {bytes : ByteArray} {maxL n index : Nat} {r1 mc1 ms1 : Nat} {As rest : List Value} {b : Nat} (C : zC g own cc nL ret r mc ms p e R s m args below meth c) (d : decode cc pc = .ok (.invokespecial index, 3)) (hcode : Cond.code y bytes maxL none ∈ zT) (hlink : Cond.methodLink own index y ∈ zT) (hinst : Cond.instanceMethod y ∈ zT) (hini : Cond.initialized y.cls ∈ zT) (hy1 : y.name = "<init>")
    (hd : y.cls ≠ "java/lang/invoke/MethodHandle" ∧ y.cls ≠ "java/lang/invoke/VarHandle" ∧ (parseMethodDescriptor y.desc).map (fun d => d.parameters.length) = some n) (hn : As.length = n) (hr : r1 + 1 ≤ r) (hml : maxL ≤ 15) (hst : (rest.map fun v => v.category).sum ≤ 8) (hmc : mc1 ≤ rc) (hms : ms1 ≤ rs) (hstk : st = As.reverse ++ .ref b :: rest)
    (ct : Ct g y (.code y bytes maxL none) r1 mc1 ms1 (.ref b :: As) h (fun v h1 => Z g nL mc ms p e R s m args below meth c Q (rc - mc1) (rs - ms1) (pc + 3) (ls) (zps v rest) (h1)) (fun _ _ => False)) : Z g nL mc ms p e R s m args below meth c Q rc rs (pc) (ls) (st) (h) := by
  subst hstk
  intro ws H locs lsA cells slots a1 a2 a3 a4 a5 a6 a7
  have hw := C.2.2.2.2.1
  have hfr := C.2.2.2.2.2.2.2.2.2.1
  have hlo := C.2.2.2.2.2.2.2.2.2.2.1
  have hce := C.2.2.2.2.2.2.2.2.2.2.2.1
  have hsl := C.2.2.2.2.2.2.2.2.2.2.2.2
  have hrun := va_runI (b := b) (As := As) (rest := rest) (H := H) (locs := locs) (cells := cells) (slots := slots) (e := e) (below := below) (meth := meth) (g := F0 m pc lsA (As.reverse ++ .ref b :: rest)) ⟨C.1, C.2.1, C.2.2.1, C.2.2.2.1, hw⟩ (Ct_Met ct) (R := R) (index := index) (bytes := bytes) (maxL := maxL) (n := n)
    ⟨⟨rfl, rfl, Nat.le_trans hr hfr, Nat.le_trans (by show 8 + (maxL + 11) + 34 * r1 ≤ 34 * r; omega) hlo, z_words hcode C, List.mem_cons_self, hw _ hcode, hw _ hini, ⟨hd.1, hd.2.1⟩, fun sig hs => by have h2 := hd.2.2; rw [hs] at h2; exact (Option.some.inj h2).symm, hw _ hlink⟩, hy1, hw _ hinst⟩
    ⟨z_blind, z_pre C a1 a2 a3 a4⟩ rfl hn a5.1.1 rfl (lv_room hst) d ⟨by omega, by omega⟩
  refine z_run (a := (Value.ref b :: As).toArray) (rest := rest) (mc1 := mc1) (ms1 := ms1) a4 a5 a6 a7 hmc hms ?_
  intro T hT X
  obtain ⟨v, st₀, t, T', L, h0, X', hL, e1, e2, hq, stp⟩ := hrun T hT X
  exact Or.inl ⟨v, st₀, t, T', L, h0, X', hL, e1, e2, hq, stp⟩
/-- Object.<init> -/
theorem z_obj {idx : Nat} {a : Nat} (C : zC g own cc nL ret r mc ms p e R s m args below meth c) (d : decode cc pc = .ok (.invokespecial idx, 3)) (hlink : Cond.methodLink own idx objectInit ∈ zT) (hinst : Cond.instanceMethod objectInit ∈ zT) (hcode : Cond.code objectInit ⟨#[0xb1]⟩ 1 none ∈ zT) (hr : 1 ≤ r) (hst : (st.map fun v => v.category).sum ≤ 8) (k : Z g nL mc ms p e R s m args below meth c Q rc rs (pc + 3) (ls) (st) (h)) : Z g nL mc ms p e R s m args below meth c Q rc rs (pc) (ls) (.ref a :: st) (h) := by
  intro ws H locs lsA cells slots a1 a2 a3 a4 a5 a6 a7
  have hw := C.2.2.2.2.1
  have hlo := C.2.2.2.2.2.2.2.2.2.2.1
  refine W.objInit C.1 C.2.1 C.2.2.2.1 (hw _ hlink) (hw _ hinst) (hw _ hcode) rfl (by rw [C.2.2.1]; exact a5.1.1) rfl d (Nat.le_trans hr C.2.2.2.2.2.2.2.2.2.1) (Nat.le_trans ?_ hlo) (k ws H locs lsA cells slots a1 a2 a3 a4 a5 a6 a7)
  have := lv_room (m := m) (pc := pc) (ls := lsA) (rest := (.ref a :: st : List Value)) hst
  omega
/-! throw new E("text") by a method of RollCalls -/
theorem z_throwS {cls text : String} {ik is ic : Nat} (C : zC g "RollCalls" cc nL ret r mc ms p e R s m args below meth c) (ht : ∀ x ∈ c.exceptionTable.toList, False) (d0 : decode cc pc = .ok (.new ik, 3)) (d3 : decode cc (pc + 3) = .ok (.dup, 1)) (d4 : decode cc (pc + 4) = .ok (.ldc is, 2)) (d6 : decode cc (pc + 6) = .ok (.invokespecial ic, 3)) (d9 : decode cc (pc + 9) = .ok (.athrow, 1))
    (hcls : Bundle.fit cls = true) (hk : Cond.classLink "RollCalls" ik cls ∈ zT) (hini : Cond.initialized cls ∈ zT) (hstr : ("RollCalls", is, text) ∈ zstr) (hat : ∀ w ∈ vx_atS "RollCalls" ic cls ["java/lang/RuntimeException", "java/lang/Exception"], w.before args s = true)
    (hgood : ∀ w ∈ Cond.classLink "RollCalls" ik cls :: Cond.initialized cls :: vx_atS "RollCalls" ic cls ["java/lang/RuntimeException", "java/lang/Exception"], vx_ot w = true) (hr : 6 ≤ r) (hst : (st.map fun v => v.category).sum ≤ 8) (hrc : 1 ≤ rc) (hrs : 6 ≤ rs) (k : PX cls h) : Z g nL mc ms p e R s m args below meth c (vx_MQ below (zQ g PR) (zX g PX) args s mc ms (zA g)) rc rs (pc) (ls) (st) (h) := by
  intro ws H locs lsA cells slots a1 a2 a3 a4 a5 a6 a7
  have hw := C.2.2.2.2.1
  have hfr := C.2.2.2.2.2.2.2.2.2.1
  have hlo := C.2.2.2.2.2.2.2.2.2.2.1
  have hce := C.2.2.2.2.2.2.2.2.2.2.2.1
  have hsl := C.2.2.2.2.2.2.2.2.2.2.2.2
  have hK := C.2.2.2.2.2.2.1
  obtain ⟨sa, hsa⟩ := hK.2.2.2.2.1 _ hstr
  have hlt : ∀ (j : Nat) (q : Nat × va_E), ws[j]? = some q → q.1 < H.size := fun j q hq => (a2 j q hq).lt
  refine vx_throwS (names := ["java/lang/RuntimeException", "java/lang/Exception"]) C.1 C.2.1 hK.1 C.2.2.2.1 hcls (by decide +kernel) (hw _ hk) (hw _ hini) hsa hat hgood hK.2.2.1 hK.2.2.2.1 a4 (a5.1.1.trans C.2.2.1.symm) d0 d3 d4 d6 d9 (fun x hx => (ht x hx).elim) (Nat.lt_of_lt_of_le (by show 2 + 3 < r; omega) hfr) (Nat.le_trans (by show _ + (13 * (2 + 1) + 43) ≤ 34 * r; omega) hlo) (Nat.le_trans (by omega) hce) (Nat.le_trans (by omega) hsl) C.2.2.2.2.2.1
    (fun t _ hz hq => ⟨⟨h, k, ws, a1, a2.kept (fun j q hj => hq q.1 (hlt j q hj)), a3⟩, Nat.le_trans a4.1 hz, fun q h1 h2 => (hq q (Nat.lt_of_lt_of_le h1 a4.1)).trans (a4.2.1 q h1 h2)⟩) a4.2.2 (by omega) (by omega)
theorem z_throwSW {cls text : String} {ik is ic : Nat} (C : zC g "RollCalls" cc nL ret r mc ms p e R s m args below meth c) (ht : ∀ x ∈ c.exceptionTable.toList, False) (d0 : decode cc pc = .ok (.new ik, 3)) (d3 : decode cc (pc + 3) = .ok (.dup, 1)) (d4 : decode cc (pc + 4) = .ok (.ldc_w is, 3)) (d7 : decode cc (pc + 7) = .ok (.invokespecial ic, 3)) (d10 : decode cc (pc + 10) = .ok (.athrow, 1))
    (hcls : Bundle.fit cls = true) (hk : Cond.classLink "RollCalls" ik cls ∈ zT) (hini : Cond.initialized cls ∈ zT) (hstr : ("RollCalls", is, text) ∈ zstr) (hat : ∀ w ∈ vx_atS "RollCalls" ic cls ["java/lang/RuntimeException", "java/lang/Exception"], w.before args s = true)
    (hgood : ∀ w ∈ Cond.classLink "RollCalls" ik cls :: Cond.initialized cls :: vx_atS "RollCalls" ic cls ["java/lang/RuntimeException", "java/lang/Exception"], vx_ot w = true) (hr : 6 ≤ r) (hst : (st.map fun v => v.category).sum ≤ 8) (hrc : 1 ≤ rc) (hrs : 6 ≤ rs) (k : PX cls h) : Z g nL mc ms p e R s m args below meth c (vx_MQ below (zQ g PR) (zX g PX) args s mc ms (zA g)) rc rs (pc) (ls) (st) (h) := by
  intro ws H locs lsA cells slots a1 a2 a3 a4 a5 a6 a7
  have hw := C.2.2.2.2.1
  have hfr := C.2.2.2.2.2.2.2.2.2.1
  have hlo := C.2.2.2.2.2.2.2.2.2.2.1
  have hce := C.2.2.2.2.2.2.2.2.2.2.2.1
  have hsl := C.2.2.2.2.2.2.2.2.2.2.2.2
  have hK := C.2.2.2.2.2.2.1
  obtain ⟨sa, hsa⟩ := hK.2.2.2.2.1 _ hstr
  have hlt : ∀ (j : Nat) (q : Nat × va_E), ws[j]? = some q → q.1 < H.size := fun j q hq => (a2 j q hq).lt
  refine vx_throwSW (names := ["java/lang/RuntimeException", "java/lang/Exception"]) C.1 C.2.1 hK.1 C.2.2.2.1 hcls (by decide +kernel) (hw _ hk) (hw _ hini) hsa hat hgood hK.2.2.1 hK.2.2.2.1 a4 (a5.1.1.trans C.2.2.1.symm) d0 d3 d4 d7 d10 (fun x hx => (ht x hx).elim) (Nat.lt_of_lt_of_le (by show 2 + 3 < r; omega) hfr) (Nat.le_trans (by show _ + (13 * (2 + 1) + 43) ≤ 34 * r; omega) hlo) (Nat.le_trans (by omega) hce) (Nat.le_trans (by omega) hsl) C.2.2.2.2.2.1
    (fun t _ hz hq => ⟨⟨h, k, ws, a1, a2.kept (fun j q hj => hq q.1 (hlt j q hj)), a3⟩, Nat.le_trans a4.1 hz, fun q h1 h2 => (hq q (Nat.lt_of_lt_of_le h1 a4.1)).trans (a4.2.1 q h1 h2)⟩) a4.2.2 (by omega) (by omega)
/-- caught by a row of this method's table -/
theorem zx_catch {E : String} (C : zC g own cc nL ret r mc ms p e R s m args below meth c) (pre : List ExceptionTableEntry) (x : ExceptionTableEntry) (suf : List ExceptionTableEntry) (hsplit : c.exceptionTable.toList = pre ++ x :: suf)
    (hpass : ∀ z ∈ pre, covers z pc = false ∨ (z.catchType ≠ 0 ∧ ∃ nm : String, Cond.classLink own z.catchType nm ∈ zT ∧ (E, nm) ∈ znc)) (hx : covers x pc = true) (h0 : x.catchType ≠ 0) (hlink : Cond.classLink own x.catchType E ∈ zT) (hcast : (E, E) ∈ zcast)
    (k : ∀ q : Nat, Z g nL mc ms p e R s m args below meth c Q rc rs (x.handlerPc) (ls) ([.ref q]) (h)) : ZX g nL mc ms p e R s m args below meth c Q rc rs pc ls E h := by
  intro ws H locs lsA cells slots q ce rest a1 a2 a3 a4 a5 a6 a7 hce hcv hcl
  have hw := C.2.2.2.2.1
  have hK := C.2.2.2.2.2.2.1
  exact vx_catch C.2.2.2.1 pre x suf hsplit (fun z hz => (hpass z hz).elim Or.inl (fun q => Or.inr ⟨q.1, q.2.elim fun nm q2 => ⟨nm, hw _ q2.1, hK.2.2.2.2.2.2.1 _ q2.2⟩⟩)) hx h0 (hw _ hlink) (va_Nw.use rfl (hK.2.2.2.2.2.1.1 _ hcast)) hce hcv hcl (k q ws H locs lsA cells slots a1 a2 a3 a4 a5 a6 a7)
/-! arrays made, constants, Math -/
theorem z_newaI {n : Int32} {N0 : Nat} (C : zC g own cc nL ret r mc ms p e R s m args below meth c) (d : decode cc pc = .ok (.newarray .int, 2)) (harr : Cond.arrayClass .int ∈ zT) (hfc : s.vm.findClass "[I" = some (g.ca 0)) (hn : ¬ n < 0) (hN : n.toNatClampNeg = N0) (hb : N0 * 4 ≤ 536870912) (hrc : 1 ≤ rc) (hrs : N0 ≤ rs) (kk : ∀ q, h q = none → Z g nL mc ms p e R s m args below meth c Q (rc - 1) (rs - N0) (pc + 2) (ls) (.ref q :: st) (zu h q (.inl (g.ca 0, N0, .inl (fun _ => 0))))) : Z g nL mc ms p e R s m args below meth c Q rc rs (pc) (ls) (.int n :: st) (h) := by
  intro ws H locs lsA cells slots a1 a2 a3 a4 a5 a6 a7
  have hA : ∀ q, s.heap.size ≤ q → zA g q := fun q hq => Nat.le_trans C.2.2.2.2.2.2.2.1 hq
  refine va_newa (atype := .int) (a0 := (N0, .inl (fun _ => 0))) C.1 C.2.1 (C.2.2.2.2.1 _ harr) rfl C.2.2.2.2.2.2.1.2.1 a2 a3 a4 hA (fun cA => rfl) hn hN hb (Nat.le_trans (by omega) C.2.2.2.2.2.2.2.2.2.2.2.1) (Nat.le_trans (by omega) C.2.2.2.2.2.2.2.2.2.2.2.2) d (fun q cA H1 bK b2 b3 b4 => ?_)
  have hcA : cA = g.ca 0 := by
    have h1 := (bK.2 4 (cA, .int) rfl).2
    exact Option.some.inj (h1.symm.trans hfc)
  subst hcA
  obtain ⟨hq, hw⟩ := zw_push a1 b3
  exact kk q hq _ H1 locs lsA _ _ hw b2 b3 b4 a5 (by omega) (by omega)
theorem z_newaZ {n : Int32} {N0 : Nat} (C : zC g own cc nL ret r mc ms p e R s m args below meth c) (d : decode cc pc = .ok (.newarray .boolean, 2)) (harr : Cond.arrayClass .boolean ∈ zT) (hfc : s.vm.findClass "[Z" = some (g.ca 1)) (hn : ¬ n < 0) (hN : n.toNatClampNeg = N0) (hb : N0 * 1 ≤ 536870912) (hrc : 1 ≤ rc) (hrs : N0 ≤ rs) (kk : ∀ q, h q = none → Z g nL mc ms p e R s m args below meth c Q (rc - 1) (rs - N0) (pc + 2) (ls) (.ref q :: st) (zu h q (.inl (g.ca 1, N0, .inl (fun _ => 0))))) : Z g nL mc ms p e R s m args below meth c Q rc rs (pc) (ls) (.int n :: st) (h) := by
  intro ws H locs lsA cells slots a1 a2 a3 a4 a5 a6 a7
  have hA : ∀ q, s.heap.size ≤ q → zA g q := fun q hq => Nat.le_trans C.2.2.2.2.2.2.2.1 hq
  refine va_newa (atype := .boolean) (a0 := (N0, .inl (fun _ => 0))) C.1 C.2.1 (C.2.2.2.2.1 _ harr) rfl C.2.2.2.2.2.2.1.2.1 a2 a3 a4 hA (fun cA => rfl) hn hN hb (Nat.le_trans (by omega) C.2.2.2.2.2.2.2.2.2.2.2.1) (Nat.le_trans (by omega) C.2.2.2.2.2.2.2.2.2.2.2.2) d (fun q cA H1 bK b2 b3 b4 => ?_)
  have hcA : cA = g.ca 1 := by
    have h1 := (bK.2 4 (cA, .boolean) rfl).2
    exact Option.some.inj (h1.symm.trans hfc)
  subst hcA
  obtain ⟨hq, hw⟩ := zw_push a1 b3
  exact kk q hq _ H1 locs lsA _ _ hw b2 b3 b4 a5 (by omega) (by omega)
theorem z_newaL {n : Int32} {N0 : Nat} (C : zC g own cc nL ret r mc ms p e R s m args below meth c) (d : decode cc pc = .ok (.newarray .long, 2)) (harr : Cond.arrayClass .long ∈ zT) (hfc : s.vm.findClass "[J" = some (g.ca 2)) (hn : ¬ n < 0) (hN : n.toNatClampNeg = N0) (hb : N0 * 8 ≤ 536870912) (hrc : 1 ≤ rc) (hrs : N0 ≤ rs) (kk : ∀ q, h q = none → Z g nL mc ms p e R s m args below meth c Q (rc - 1) (rs - N0) (pc + 2) (ls) (.ref q :: st) (zu h q (.inl (g.ca 2, N0, .inr (.inl (fun _ => 0)))))) : Z g nL mc ms p e R s m args below meth c Q rc rs (pc) (ls) (.int n :: st) (h) := by
  intro ws H locs lsA cells slots a1 a2 a3 a4 a5 a6 a7
  have hA : ∀ q, s.heap.size ≤ q → zA g q := fun q hq => Nat.le_trans C.2.2.2.2.2.2.2.1 hq
  refine va_newa (atype := .long) (a0 := (N0, .inr (.inl (fun _ => 0)))) C.1 C.2.1 (C.2.2.2.2.1 _ harr) rfl C.2.2.2.2.2.2.1.2.1 a2 a3 a4 hA (fun cA => rfl) hn hN hb (Nat.le_trans (by omega) C.2.2.2.2.2.2.2.2.2.2.2.1) (Nat.le_trans (by omega) C.2.2.2.2.2.2.2.2.2.2.2.2) d (fun q cA H1 bK b2 b3 b4 => ?_)
  have hcA : cA = g.ca 2 := by
    have h1 := (bK.2 4 (cA, .long) rfl).2
    exact Option.some.inj (h1.symm.trans hfc)
  subst hcA
  obtain ⟨hq, hw⟩ := zw_push a1 b3
  exact kk q hq _ H1 locs lsA _ _ hw b2 b3 b4 a5 (by omega) (by omega)
/-- the array classes by their names -/
theorem zC_I (C : zC g own cc nL ret r mc ms p e R s m args below meth c) : s.vm.findClass "[I" = some (g.ca 0) := (C.2.2.2.2.2.2.1.2.1.2 0 (g.ca 0, .int) rfl).2
theorem zC_Z (C : zC g own cc nL ret r mc ms p e R s m args below meth c) : s.vm.findClass "[Z" = some (g.ca 1) := (C.2.2.2.2.2.2.1.2.1.2 1 (g.ca 1, .boolean) rfl).2
theorem zC_L (C : zC g own cc nL ret r mc ms p e R s m args below meth c) : s.vm.findClass "[J" = some (g.ca 2) := (C.2.2.2.2.2.2.1.2.1.2 2 (g.ca 2, .long) rfl).2
theorem zC_O (C : zC g own cc nL ret r mc ms p e R s m args below meth c) : s.vm.findClass oaN = some (g.ca 3) := va_nmO (C.2.2.2.2.2.2.1.2.1.2 3 (g.ca 3, .object "java/lang/Object") rfl).2 rfl
theorem z_newaQ {index : Nat} {n : Int32} {N0 : Nat} (C : zC g own cc nL ret r mc ms p e R s m args below meth c) (d : decode cc pc = .ok (.anewarray index, 3)) (hlink : Cond.classLink own index "java/lang/Object" ∈ zT) (hn : ¬ n < 0) (hN : n.toNatClampNeg = N0) (hb : N0 * 4 ≤ 536870912) (hrc : 1 ≤ rc) (hrs : N0 ≤ rs) (kk : ∀ q, h q = none → Z g nL mc ms p e R s m args below meth c Q (rc - 1) (rs - N0) (pc + 3) (ls) (.ref q :: st) (zu h q (.inl (g.ca 3, N0, .inr (.inr (.inr (.inr (fun _ => none)))))))) : Z g nL mc ms p e R s m args below meth c Q rc rs (pc) (ls) (.int n :: st) (h) := by
  intro ws H locs lsA cells slots a1 a2 a3 a4 a5 a6 a7
  have hA : ∀ q, s.heap.size ≤ q → zA g q := fun q hq => Nat.le_trans C.2.2.2.2.2.2.2.1 hq
  refine va_newq C.1 C.2.1 C.2.2.2.1 (C.2.2.2.2.1 _ hlink) C.2.2.2.2.2.2.1.2.2.2.2.2.2.2.2.1 C.2.2.2.2.2.2.1.2.1 a2 a3 a4 hA hn hN hb (Nat.le_trans (by omega) C.2.2.2.2.2.2.2.2.2.2.2.1) (Nat.le_trans (by omega) C.2.2.2.2.2.2.2.2.2.2.2.2) d (fun q cA H1 bK b2 b3 b4 => ?_)
  have hcA : cA = g.ca 3 := by
    have h1 := va_nmO (nm := oaN) (bK.2 4 (cA, .object "java/lang/Object") rfl).2 rfl
    exact Option.some.inj (h1.symm.trans (zC_O C))
  subst hcA
  obtain ⟨hq, hw⟩ := zw_push a1 b3
  exact kk q hq _ H1 locs lsA _ _ hw b2 b3 b4 a5 (by omega) (by omega)
theorem z_ldc {index : Nat} {v : Int32} (C : zC g own cc nL ret r mc ms p e R s m args below meth c) (d : decode cc pc = .ok (.ldc index, 2)) (hc : Cond.constant own index v ∈ zT) (kk : Z g nL mc ms p e R s m args below meth c Q rc rs (pc + 2) (ls) (.int v :: st) (h)) : Z g nL mc ms p e R s m args below meth c Q rc rs (pc) (ls) (st) (h) := fun ws H locs lsA cells slots a1 a2 a3 a4 a5 a6 a7 => lv_ldc C.1 C.2.1 C.2.2.2.1 (C.2.2.2.2.1 _ hc) d (kk ws H locs lsA cells slots a1 a2 a3 a4 a5 a6 a7)
theorem z_ldcw {index : Nat} {v : Int32} (C : zC g own cc nL ret r mc ms p e R s m args below meth c) (d : decode cc pc = .ok (.ldc_w index, 3)) (hc : Cond.constant own index v ∈ zT) (kk : Z g nL mc ms p e R s m args below meth c Q rc rs (pc + 3) (ls) (.int v :: st) (h)) : Z g nL mc ms p e R s m args below meth c Q rc rs (pc) (ls) (st) (h) := fun ws H locs lsA cells slots a1 a2 a3 a4 a5 a6 a7 => lv_ldcw C.1 C.2.1 C.2.2.2.1 (C.2.2.2.2.1 _ hc) d (kk ws H locs lsA cells slots a1 a2 a3 a4 a5 a6 a7)
theorem z_max {index : Nat} {x y : Int32} (C : zC g own cc nL ret r mc ms p e R s m args below meth c) (d : decode cc pc = .ok (.invokestatic index, 3)) (hlink : Cond.methodLink own index Lib.Math.max.name ∈ zT) (hstat : Cond.static Lib.Math.max.name ∈ zT) (hini : Cond.initialized "java/lang/Math" ∈ zT) (hcode : Cond.code Lib.Math.max.name Lib.Math.max.code 2 (some .int) ∈ zT) (hr : 1 ≤ r) (hst : (st.map fun v => v.category).sum ≤ 8) (kk : Z g nL mc ms p e R s m args below meth c Q rc rs (pc + 3) (ls) (.int (if x < y then y else x) :: st) (h)) : Z g nL mc ms p e R s m args below meth c Q rc rs (pc) (ls) (.int y :: .int x :: st) (h) := fun ws H locs lsA cells slots a1 a2 a3 a4 a5 a6 a7 =>
  va_mmax C.1 C.2.1 (C.2.2.1.trans a5.1.1.symm) C.2.2.2.1 (C.2.2.2.2.1 _ hlink) (C.2.2.2.2.1 _ hstat) (C.2.2.2.2.1 _ hini) (C.2.2.2.2.1 _ hcode) (Nat.le_trans hr C.2.2.2.2.2.2.2.2.2.1) (Nat.le_trans (by omega) C.2.2.2.2.2.2.2.2.2.2.1) (Nat.le_trans (by omega) C.2.2.2.2.2.2.2.2.2.2.2.1) (Nat.le_trans (by omega) C.2.2.2.2.2.2.2.2.2.2.2.2) d (kk ws H locs lsA cells slots a1 a2 a3 a4 a5 a6 a7)
theorem z_min {index : Nat} {x y : Int32} (C : zC g own cc nL ret r mc ms p e R s m args below meth c) (d : decode cc pc = .ok (.invokestatic index, 3)) (hlink : Cond.methodLink own index Lib.Math.min.name ∈ zT) (hstat : Cond.static Lib.Math.min.name ∈ zT) (hini : Cond.initialized "java/lang/Math" ∈ zT) (hcode : Cond.code Lib.Math.min.name Lib.Math.min.code 2 (some .int) ∈ zT) (hr : 1 ≤ r) (hst : (st.map fun v => v.category).sum ≤ 8) (kk : Z g nL mc ms p e R s m args below meth c Q rc rs (pc + 3) (ls) (.int (if y < x then y else x) :: st) (h)) : Z g nL mc ms p e R s m args below meth c Q rc rs (pc) (ls) (.int y :: .int x :: st) (h) := fun ws H locs lsA cells slots a1 a2 a3 a4 a5 a6 a7 =>
  va_mmin C.1 C.2.1 (C.2.2.1.trans a5.1.1.symm) C.2.2.2.1 (C.2.2.2.2.1 _ hlink) (C.2.2.2.2.1 _ hstat) (C.2.2.2.2.1 _ hini) (C.2.2.2.2.1 _ hcode) (Nat.le_trans hr C.2.2.2.2.2.2.2.2.2.1) (Nat.le_trans (by omega) C.2.2.2.2.2.2.2.2.2.2.1) (Nat.le_trans (by omega) C.2.2.2.2.2.2.2.2.2.2.2.1) (Nat.le_trans (by omega) C.2.2.2.2.2.2.2.2.2.2.2.2) d (kk ws H locs lsA cells slots a1 a2 a3 a4 a5 a6 a7)
/-- ArrayList's empty array -/
theorem z_empty {index : Nat} (C : zC g "java/util/ArrayList" cc nL ret r mc ms p e R s m args below meth c) (d : decode cc pc = .ok (.getstatic index, 3)) (hlink : Cond.fieldLink "java/util/ArrayList" index "java/util/ArrayList" "DEFAULTCAPACITY_EMPTY_ELEMENTDATA" "[Ljava/lang/Object;" ∈ zT) (kk : Z g nL mc ms p e R s m args below meth c Q rc rs (pc + 3) (ls) (.ref g.ea :: st) (h)) : Z g nL mc ms p e R s m args below meth c Q rc rs (pc) (ls) (st) (h) := fun ws H locs lsA cells slots a1 a2 a3 a4 a5 a6 a7 =>
  va_gets C.1 C.2.1 C.2.2.2.2.2.2.1.2.2.2.2.2.2.2.1.1 a4 C.2.2.2.1 (C.2.2.2.2.1 _ hlink) (fun _ h9 => h9) d (kk ws H locs lsA cells slots a1 a2 a3 a4 a5 a6 a7)
theorem z_emptyLen (C : zC g own cc nL ret r mc ms p e R s m args below meth c) (d : decode cc pc = .ok (.arraylength, 1)) (kk : Z g nL mc ms p e R s m args below meth c Q rc rs (pc + 1) (ls) (.int 0 :: st) (h)) : Z g nL mc ms p e R s m args below meth c Q rc rs (pc) (ls) (.ref g.ea :: st) (h) := by
  intro ws H locs lsA cells slots a1 a2 a3 a4 a5 a6 a7
  obtain ⟨fv, hT⟩ := C.2.2.2.2.2.2.1.2.2.2.2.2.2.2.1.2.1
  exact va_tlen C.1 C.2.1 hT a4 rfl d (kk ws H locs lsA cells slots a1 a2 a3 a4 a5 a6 a7)
end ZC

