/-! THE ABSTRACT HEAP: a partial map of addresses to the kit's cells; and the judgement Z over it. -/
abbrev Hp : Type := Nat → Option va_E
def zu (h : Hp) (a : Nat) (e : va_E) : Hp := fun x => if x = a then some e else h x
theorem zu_s {h : Hp} {a : Nat} {e : va_E} : zu h a e a = some e := if_pos rfl
theorem zu_n {h : Hp} {a x : Nat} {e : va_E} (hne : x ≠ a) : zu h a e x = h x := if_neg hne
def zw (h : Hp) (ws : va_W) : Prop := ∀ (a : Nat) (e : va_E), h a = some e ↔ (a, e) ∈ ws
theorem zw_at {h : Hp} {ws : va_W} (hw : zw h ws) {a : Nat} {e : va_E} (ha : h a = some e) : ∃ k : Nat, ws[k]? = some (a, e) := List.getElem?_of_mem ((hw a e).mp ha)
theorem zw_set {h : Hp} {ws : va_W} {A : Nat → Prop} (hw : zw h ws) (hD : va_D A ws) {k a : Nat} {e0 e : va_E} (hk : ws[k]? = some (a, e0)) : zw (zu h a e) (ws.set k (a, e)) := by
  have hl := (List.getElem?_eq_some_iff.mp hk).1
  have hset : (ws.set k (a, e))[k]? = some (a, e) := List.getElem?_set_self hl
  intro x y
  unfold zu
  by_cases hx : x = a
  · subst hx
    rw [if_pos rfl]
    constructor
    · intro hy
      cases hy
      exact List.mem_of_getElem? hset
    · intro hm
      obtain ⟨j, hj⟩ := List.getElem?_of_mem hm
      by_cases hjk : j = k
      · subst hjk
        rw [hset] at hj
        cases hj
        rfl
      · rw [List.getElem?_set_ne (Ne.symm hjk)] at hj
        exact absurd (hD.1 j k _ _ hj hk rfl) hjk
  · rw [if_neg hx, hw x y]
    constructor
    · intro hm
      obtain ⟨j, hj⟩ := List.getElem?_of_mem hm
      have hjk : j ≠ k := by
        intro ejk
        rw [ejk, hk] at hj
        cases hj
        exact hx rfl
      exact List.mem_of_getElem? (i := j) (by rw [List.getElem?_set_ne (Ne.symm hjk)]; exact hj)
    · intro hm
      obtain ⟨j, hj⟩ := List.getElem?_of_mem hm
      by_cases hjk : j = k
      · subst hjk
        rw [hset] at hj
        cases hj
        exact absurd rfl hx
      · rw [List.getElem?_set_ne (Ne.symm hjk)] at hj
        exact List.mem_of_getElem? hj
theorem zw_push {h : Hp} {ws : va_W} {A : Nat → Prop} (hw : zw h ws) {q : Nat} {e : va_E} (hD : va_D A (ws ++ [(q, e)])) : h q = none ∧ zw (zu h q e) (ws ++ [(q, e)]) := by
  have hlast : (ws ++ [(q, e)])[ws.length]? = some (q, e) := by simp
  have hq : ∀ y, (q, y) ∉ ws := by
    intro y hm
    obtain ⟨j, hj⟩ := List.getElem?_of_mem hm
    have hl := (List.getElem?_eq_some_iff.mp hj).1
    have h1 : (ws ++ [(q, e)])[j]? = some (q, y) := by rw [List.getElem?_append_left hl]; exact hj
    have := hD.1 j ws.length _ _ h1 hlast rfl
    omega
  constructor
  · cases hh : h q with
    | none => rfl
    | some y => exact absurd ((hw q y).mp hh) (hq y)
  · intro x y
    unfold zu
    by_cases hx : x = q
    · subst hx
      rw [if_pos rfl]
      constructor
      · intro hy
        cases hy
        exact List.mem_append.mpr (Or.inr (List.mem_singleton.mpr rfl))
      · intro hm
        rcases List.mem_append.mp hm with h1 | h1
        · exact absurd h1 (hq y)
        · have := List.mem_singleton.mp h1
          cases this
          rfl
    · rw [if_neg hx, hw x y]
      constructor
      · exact fun hm => List.mem_append.mpr (Or.inl hm)
      · intro hm
        rcases List.mem_append.mp hm with h1 | h1
        · exact h1
        · have := List.mem_singleton.mp h1
          cases this
          exact absurd rfl hx
/-- what is the same in a whole run: the launch, the slots, the array classes' numbers (int, boolean, long, Object), the first address that is the run's own, ArrayList's empty array, the Class object of Object[] -/
abbrev zG : Type := Launch × va_G × (Nat → ClassId) × Nat × Nat × Nat
abbrev zG.bs (g : zG) : Nat := g.2.2.2.1
abbrev zG.ea (g : zG) : Nat := g.2.2.2.2.1
abbrev zG.mi (g : zG) : Nat := g.2.2.2.2.2
abbrev zG.ca (g : zG) : Nat → ClassId := g.2.2.1
def zA (g : zG) : Nat → Prop := fun q => g.bs ≤ q
abbrev ztys (g : zG) : List (ClassId × FieldType) := [(g.ca 0, .int), (g.ca 1, .boolean), (g.ca 2, .long), (g.ca 3, .object "java/lang/Object")]
abbrev oaN : String := "[Ljava/lang/Object;"
abbrev gcN : MethodName := ⟨"java/lang/Object", "getClass", "()Ljava/lang/Class;"⟩

def zstr : List (String × Nat × String) := [("RollCalls", 45, "no room for a person"), ("RollCalls", 102, "no such person"), ("RollCalls", 105, "no such sector"), ("RollCalls", 70, "the person is in that sector"), ("RollCalls", 107, "no room for a move"), ("RollCalls", 77, "the person is outside"), ("RollCalls", 84, "guests are 0 to 999"), ("RollCalls", 119, "a roll is on there, or a mayday is open"), ("RollCalls", 121, "no room for a roll"), ("RollCalls", 225, "no such roll"), ("RollCalls", 227, "the roll is over"), ("RollCalls", 235, "no room for a double"), ("RollCalls", 171, "guests seen at a time are 0 to 999"), ("RollCalls", 176, "no room for so many guests seen"), ("RollCalls", 178, "a mayday is open"), ("RollCalls", 203, "no such what"), ("RollCalls", 205, "i is below 0"), ("RollCalls", 207, "the roll is not over"), ("RollCalls", 213, "no such double"), ("RollCalls", 243, "places are 0 to 999"), ("RollCalls", 248, "the person is outside, or has an open mayday"), ("RollCalls", 250, "no room for a mayday"), ("RollCalls", 279, "no such mayday"), ("RollCalls", 266, "the mayday was answered"), ("RollCalls", 284, "an evacuation has 1 to 10,000 seconds"), ("RollCalls", 330, "no such evacuation"), ("RollCalls", 289, "an evacuation is on"), ("RollCalls", 302, "nobody would have to confirm"), ("RollCalls", 304, "no room for an evacuation"), ("RollCalls", 306, "no evacuation is on"), ("RollCalls", 316, "the sector need not confirm, or did"), ("RollCalls", 322, "1 to 5,000 seconds, up to second 99,999"), ("RollCalls", 87, "a second to come, or below 0")]
def zcast : List (String × String) := [("java/lang/UnsupportedOperationException", "java/lang/UnsupportedOperationException"), ("java/lang/IllegalArgumentException", "java/lang/IllegalArgumentException"), ("java/lang/IllegalStateException", "java/lang/IllegalStateException"), ("java/lang/IndexOutOfBoundsException", "java/lang/IndexOutOfBoundsException"), ("RollCalls$Person", "RollCalls$Person"), ("RollCalls$Roll", "RollCalls$Roll"), ("RollCalls$Mayday", "RollCalls$Mayday"), ("RollCalls$DoubleCount", "RollCalls$DoubleCount"), ("RollCalls$Evacuation", "RollCalls$Evacuation"), ("RollCalls$Move", "RollCalls$Move"), ("RollCalls", "java/lang/Object"), ("RollCallsModel", "java/lang/Object"), ("RollCalls$Person", "java/lang/Object"), ("RollCalls$Move", "java/lang/Object"), ("RollCalls$Roll", "java/lang/Object"), ("RollCalls$DoubleCount", "java/lang/Object"), ("RollCalls$Mayday", "java/lang/Object"), ("RollCalls$Evacuation", "java/lang/Object"), ("java/lang/String", "java/lang/Object")]
def zdecl : List MethodName := [⟨"java/lang/RuntimeException", "<init>", "()V"⟩, ⟨"java/lang/RuntimeException", "<init>", "(Ljava/lang/String;)V"⟩, ⟨"java/lang/Exception", "<init>", "()V"⟩, ⟨"java/lang/Exception", "<init>", "(Ljava/lang/String;)V"⟩, ⟨"java/lang/Throwable", "<init>", "()V"⟩, ⟨"java/lang/Throwable", "<init>", "(Ljava/lang/String;)V"⟩, ⟨"java/lang/Object", "getClass", "()Ljava/lang/Class;"⟩]
def zpriv : List MethodName := [⟨"java/lang/Throwable", "fillInStackTrace", "(I)Ljava/lang/Throwable;"⟩]
def zoth : List Cond := zcast.map (fun x => Cond.castable x.1 x.2) ++ (zdecl.map Cond.declares ++ zpriv.map Cond.privateMethod)
theorem va_Nw.warmP {x : MethodName} {s U : State} (hW : s.WarmedH U.vm) (hZ : va_Nw (.privateMethod x) s) : va_Nw (.privateMethod x) U := va_tabs rfl (rfl : (s.setVm U.vm).vm = U.vm) (by rw [Cond.privateMethod_setVm hW.alike]; exact hZ)
def znc : List (String × String) := [("java/lang/IllegalArgumentException", "java/lang/IndexOutOfBoundsException"), ("java/lang/IllegalArgumentException", "java/lang/IllegalStateException"), ("java/lang/IllegalArgumentException", "java/lang/UnsupportedOperationException"), ("java/lang/IndexOutOfBoundsException", "java/lang/IllegalArgumentException"), ("java/lang/IndexOutOfBoundsException", "java/lang/IllegalStateException"), ("java/lang/IndexOutOfBoundsException", "java/lang/UnsupportedOperationException"), ("java/lang/IllegalStateException", "java/lang/IllegalArgumentException"), ("java/lang/IllegalStateException", "java/lang/IndexOutOfBoundsException"), ("java/lang/IllegalStateException", "java/lang/UnsupportedOperationException"), ("java/lang/UnsupportedOperationException", "java/lang/IllegalArgumentException"), ("java/lang/UnsupportedOperationException", "java/lang/IndexOutOfBoundsException"), ("java/lang/UnsupportedOperationException", "java/lang/IllegalStateException")]

/-- what is known of the tables and of the old cells, at U with heap H -/
def Kz (g : zG) (U : State) (H : Heap) : Prop :=
  g.1.stackTraces = false ∧ va_K g.2.1 zcl (ztys g) U ∧ vx_Zq Bundle.tN "UNASSIGNED_STACK" Bundle.steD (zA g) U H ∧ vx_Zq Bundle.tN "SUPPRESSED_SENTINEL" Bundle.listD (zA g) U H ∧
  (∀ x ∈ zstr, ∃ sa : Nat, vk_R x.1 x.2.1 x.2.2 sa U) ∧ ((∀ x ∈ zcast, va_Nw (.castable x.1 x.2) U) ∧ (∀ x ∈ zdecl, va_Nw (.declares x) U) ∧ (∀ x ∈ zpriv, va_Nw (.privateMethod x) U)) ∧ (∀ x ∈ znc, va_Nc x.1 x.2 U) ∧
  (va_Z "java/util/ArrayList" "DEFAULTCAPACITY_EMPTY_ELEMENTDATA" "[Ljava/lang/Object;" (.ref g.ea) (zA g) U H ∧ (∃ fv : Nat → Value, va_T (.object "java/lang/Object") g.ea 0 fv (zA g) U H) ∧ g.ea < g.bs) ∧
  (va_AO "java/lang/Object" U ∧ va_Dc U ∧ va_Mi oaN g.mi U)
theorem Kz.to {g : zG} {s U : State} {H0 H : Heap} (h : Kz g s H0) (hW : s.WarmedH U.vm) (hq : ∀ a : Nat, a < H0.size → ¬ zA g a → H[a]? = H0[a]?) : Kz g U H := by
  obtain ⟨h1, h2, h3, h4, h5, h6, h7, ⟨h8, ⟨fv, h9⟩, h10⟩, h11, h12, h13⟩ := h
  exact ⟨h1, va_K.moved hW.alike h2, (h3.kept hq).moved hW.alike, (h4.kept hq).moved hW.alike, fun x hx => (h5 x hx).elim fun sa q => ⟨sa, vk_R.warm hW q⟩, ⟨fun x hx => va_Nw.warmC hW (h6.1 x hx), fun x hx => va_Nw.warmD hW (h6.2.1 x hx), fun x hx => va_Nw.warmP hW (h6.2.2 x hx)⟩, fun x hx => va_Nc.moved hW.alike (h7 x hx),
    ⟨va_Z.moved hW.alike (va_Z.kept h8 hq), ⟨fv, va_T.moved hW.alike (va_T.kept h9 hq)⟩, h10⟩, va_AO.moved hW.alike h11, va_Dc.moved hW.alike h12, va_Mi.moved hW.alike h13⟩
/-! locals -/
def zl (ls : List (Option Value)) : List (Nat × Value) := (List.range ls.length).filterMap (fun i => match ls[i]? with
  | some (some v) => some (i, v)
  | _ => none)
theorem zl_mem {ls : List (Option Value)} {i : Nat} {v : Value} : (i, v) ∈ zl ls ↔ ls[i]? = some (some v) := by
  unfold zl
  rw [List.mem_filterMap]
  constructor
  · rintro ⟨j, -, hj⟩
    cases hv : ls[j]? with
    | none => rw [hv] at hj; simp at hj
    | some o =>
      cases o with
      | none => rw [hv] at hj; simp at hj
      | some w =>
        rw [hv] at hj
        simp at hj
        obtain ⟨rfl, rfl⟩ := hj
        exact hv
  · intro hv
    refine ⟨i, List.mem_range.mpr (List.getElem?_eq_some_iff.mp hv).1, ?_⟩
    rw [hv]
def zLv (lsA : Array Slot) (nL : Nat) (ls : List (Option Value)) : Prop := lv_has lsA nL (zl ls) ∧ ∀ (i : Nat) (v : Value), ls[i]? = some (some v) → v.category = 1
theorem zLv_at {lsA : Array Slot} {nL : Nat} {ls : List (Option Value)} (h : zLv lsA nL ls) {i : Nat} {v : Value} (hv : ls[i]? = some (some v)) : lsA[i]? = some (.val v) := h.1.2.2 (i, v) (zl_mem.mpr hv)
theorem zLv_set {lsA lsB : Array Slot} {nL : Nat} {ls : List (Option Value)} {i : Nat} {v : Value} (h : zLv lsA nL ls) (hv : v.category = 1) (hB : lv_has lsB nL ((i, v) :: (zl ls).filter (fun q => !(q.1 == i) && !(q.1 + 1 == i && q.2.category == 2)))) : zLv lsB nL (ls.set i (some v)) := by
  have key : ∀ (j : Nat) (w : Value), (ls.set i (some v))[j]? = some (some w) → (j = i ∧ w = v) ∨ (j ≠ i ∧ ls[j]? = some (some w)) := by
    intro j w hj
    by_cases hji : j = i
    · subst hji
      by_cases hl : j < ls.length
      · rw [List.getElem?_set_self hl] at hj
        exact Or.inl ⟨rfl, by cases hj; rfl⟩
      · rw [List.getElem?_eq_none (by rw [List.length_set]; omega)] at hj
        cases hj
    · rw [List.getElem?_set_ne (Ne.symm hji)] at hj
      exact Or.inr ⟨hji, hj⟩
  refine ⟨⟨hB.1, hB.2.1, fun q hq => ?_⟩, fun j w hj => ?_⟩
  · obtain ⟨j, w⟩ := q
    rcases key j w (zl_mem.mp hq) with ⟨rfl, rfl⟩ | ⟨hne, h1⟩
    · exact hB.2.2 _ List.mem_cons_self
    · refine hB.2.2 (j, w) (List.mem_cons_of_mem _ (List.mem_filter.mpr ⟨zl_mem.mpr h1, ?_⟩))
      have hc := h.2 j w h1
      simp [hne, hc]
  · rcases key j w hj with ⟨rfl, rfl⟩ | ⟨-, h1⟩
    · exact hv
    · exact h.2 j w h1
/-- the room of a method of rank r -/
abbrev zR (r mc ms : Nat) : Room := { frames := r, cells := mc, slots := ms, locals := 34 * r }
/-- the machine at pc, with these locals, this stack and this abstract heap (rc cells of rs slots may still be made), comes to Q -/
def Z (g : zG) (nL mc ms : Nat) (p : Program) (e : Env) (R : Room) (s : State) (m : MethodId) (args : Array Value) (below : List Frame) (meth : Method) (c : Code) (Q : State → Prop) (rc rs pc : Nat) (ls : List (Option Value)) (st : List Value) (h : Hp) : Prop :=
  ∀ (ws : va_W) (H : Heap) (locs : List Loc) (lsA : Array Slot) (cells slots : Nat), zw h ws → va_P g.2.1 zcl ws H → va_D (zA g) ws → va_S (zA g) s.heap H locs → zLv lsA nL ls → cells + rc ≤ mc → slots + rs ≤ ms → W p g.1 e R s m args below meth c H locs cells slots Q (F0 m pc lsA st)
/-- the same, with an exception of class E over the frame at pc -/
def ZX (g : zG) (nL mc ms : Nat) (p : Program) (e : Env) (R : Room) (s : State) (m : MethodId) (args : Array Value) (below : List Frame) (meth : Method) (c : Code) (Q : State → Prop) (rc rs pc : Nat) (ls : List (Option Value)) (E : String) (h : Hp) : Prop :=
  ∀ (ws : va_W) (H : Heap) (locs : List Loc) (lsA : Array Slot) (cells slots : Nat) (q : Addr) (ce : Cell) (rest : List Value), zw h ws → va_P g.2.1 zcl ws H → va_D (zA g) ws → va_S (zA g) s.heap H locs → zLv lsA nL ls → cells + rc ≤ mc → slots + rs ≤ ms → H[q]? = some ce → ce.vm = .none → s.vm.findClass E = some ce.cls → vx_W p g.1 e R s m args below meth c H locs cells slots Q (F0 m pc lsA rest) q
/-- what a walk of a method knows all along -/
def zC (g : zG) (own : String) (cc : ByteArray) (nL : Nat) (ret : Option FieldType) (r mc ms : Nat) (p : Program) (e : Env) (R : Room) (s : State) (m : MethodId) (args : Array Value) (below : List Frame) (meth : Method) (c : Code) : Prop :=
  p.tables.exec = Jvm.exec ∧ c.code = cc ∧ c.maxLocals = nL ∧ s.vm.findClass own = some m.cls ∧ (∀ w ∈ zT, w.before args s = true) ∧ meth.locks = false ∧ Kz g s s.heap ∧ g.bs ≤ s.heap.size ∧ meth.sig.returnType = ret ∧ r ≤ R.frames ∧ 34 * r ≤ R.locals ∧ mc ≤ R.cells ∧ ms ≤ R.slots
section ZRows
variable {g : zG} {own : String} {cc : ByteArray} {nL r mc ms : Nat} {ret : Option FieldType} {p : Program} {e : Env} {R : Room} {s : State} {m : MethodId} {args : Array Value} {below : List Frame} {meth : Method} {c : Code} {Q : State → Prop} {rc rs pc : Nat} {ls : List (Option Value)} {st : List Value} {h : Hp}
theorem z_iconst {n : Int} {v : Int32} (C : zC g own cc nL ret r mc ms p e R s m args below meth c) (d : decode cc pc = .ok (.iconst n, 1)) (hv : Int32.ofInt n = v) (k : Z g nL mc ms p e R s m args below meth c Q rc rs (pc + 1) (ls) (.int v :: st) (h)) : Z g nL mc ms p e R s m args below meth c Q rc rs (pc) (ls) (st) (h) := fun ws H locs lsA cells slots a1 a2 a3 a4 a5 a6 a7 => lv_iconst C.1 C.2.1 d hv (k ws H locs lsA cells slots a1 a2 a3 a4 a5 a6 a7)
theorem z_bipush {n : Int} {v : Int32} (C : zC g own cc nL ret r mc ms p e R s m args below meth c) (d : decode cc pc = .ok (.bipush n, 2)) (hv : (Int8.ofInt n).toInt32 = v) (k : Z g nL mc ms p e R s m args below meth c Q rc rs (pc + 2) (ls) (.int v :: st) (h)) : Z g nL mc ms p e R s m args below meth c Q rc rs (pc) (ls) (st) (h) := fun ws H locs lsA cells slots a1 a2 a3 a4 a5 a6 a7 => lv_bipush C.1 C.2.1 d hv (k ws H locs lsA cells slots a1 a2 a3 a4 a5 a6 a7)
theorem z_sipush {n : Int} {v : Int32} (C : zC g own cc nL ret r mc ms p e R s m args below meth c) (d : decode cc pc = .ok (.sipush n, 3)) (hv : (Int16.ofInt n).toInt32 = v) (k : Z g nL mc ms p e R s m args below meth c Q rc rs (pc + 3) (ls) (.int v :: st) (h)) : Z g nL mc ms p e R s m args below meth c Q rc rs (pc) (ls) (st) (h) := fun ws H locs lsA cells slots a1 a2 a3 a4 a5 a6 a7 => lv_sipush C.1 C.2.1 d hv (k ws H locs lsA cells slots a1 a2 a3 a4 a5 a6 a7)
theorem z_null  (C : zC g own cc nL ret r mc ms p e R s m args below meth c) (d : decode cc pc = .ok (.aconst_null, 1))  (k : Z g nL mc ms p e R s m args below meth c Q rc rs (pc + 1) (ls) (.null :: st) (h)) : Z g nL mc ms p e R s m args below meth c Q rc rs (pc) (ls) (st) (h) := fun ws H locs lsA cells slots a1 a2 a3 a4 a5 a6 a7 => lv_null C.1 C.2.1 d  (k ws H locs lsA cells slots a1 a2 a3 a4 a5 a6 a7)
theorem z_iadd {x y : Int32} (C : zC g own cc nL ret r mc ms p e R s m args below meth c) (d : decode cc pc = .ok (.iadd, 1))  (k : Z g nL mc ms p e R s m args below meth c Q rc rs (pc + 1) (ls) (.int (x + y) :: st) (h)) : Z g nL mc ms p e R s m args below meth c Q rc rs (pc) (ls) (.int y :: .int x :: st) (h) := fun ws H locs lsA cells slots a1 a2 a3 a4 a5 a6 a7 => lv_iadd C.1 C.2.1 d  (k ws H locs lsA cells slots a1 a2 a3 a4 a5 a6 a7)
theorem z_isub {x y : Int32} (C : zC g own cc nL ret r mc ms p e R s m args below meth c) (d : decode cc pc = .ok (.isub, 1))  (k : Z g nL mc ms p e R s m args below meth c Q rc rs (pc + 1) (ls) (.int (x - y) :: st) (h)) : Z g nL mc ms p e R s m args below meth c Q rc rs (pc) (ls) (.int y :: .int x :: st) (h) := fun ws H locs lsA cells slots a1 a2 a3 a4 a5 a6 a7 => lv_isub C.1 C.2.1 d  (k ws H locs lsA cells slots a1 a2 a3 a4 a5 a6 a7)
theorem z_imul {x y : Int32} (C : zC g own cc nL ret r mc ms p e R s m args below meth c) (d : decode cc pc = .ok (.imul, 1))  (k : Z g nL mc ms p e R s m args below meth c Q rc rs (pc + 1) (ls) (.int (x * y) :: st) (h)) : Z g nL mc ms p e R s m args below meth c Q rc rs (pc) (ls) (.int y :: .int x :: st) (h) := fun ws H locs lsA cells slots a1 a2 a3 a4 a5 a6 a7 => lv_imul C.1 C.2.1 d  (k ws H locs lsA cells slots a1 a2 a3 a4 a5 a6 a7)
theorem z_iand {x y : Int32} (C : zC g own cc nL ret r mc ms p e R s m args below meth c) (d : decode cc pc = .ok (.iand, 1))  (k : Z g nL mc ms p e R s m args below meth c Q rc rs (pc + 1) (ls) (.int (x &&& y) :: st) (h)) : Z g nL mc ms p e R s m args below meth c Q rc rs (pc) (ls) (.int y :: .int x :: st) (h) := fun ws H locs lsA cells slots a1 a2 a3 a4 a5 a6 a7 => lv_iand C.1 C.2.1 d  (k ws H locs lsA cells slots a1 a2 a3 a4 a5 a6 a7)
theorem z_ishr {x y : Int32} (C : zC g own cc nL ret r mc ms p e R s m args below meth c) (d : decode cc pc = .ok (.ishr, 1))  (k : Z g nL mc ms p e R s m args below meth c Q rc rs (pc + 1) (ls) (.int (x >>> (y &&& 31)) :: st) (h)) : Z g nL mc ms p e R s m args below meth c Q rc rs (pc) (ls) (.int y :: .int x :: st) (h) := fun ws H locs lsA cells slots a1 a2 a3 a4 a5 a6 a7 => lv_ishr C.1 C.2.1 d  (k ws H locs lsA cells slots a1 a2 a3 a4 a5 a6 a7)
theorem z_dup {va : Value} (C : zC g own cc nL ret r mc ms p e R s m args below meth c) (d : decode cc pc = .ok (.dup, 1)) (hva : va.category = 1) (k : Z g nL mc ms p e R s m args below meth c Q rc rs (pc + 1) (ls) (va :: va :: st) (h)) : Z g nL mc ms p e R s m args below meth c Q rc rs (pc) (ls) (va :: st) (h) := fun ws H locs lsA cells slots a1 a2 a3 a4 a5 a6 a7 => lv_dup C.1 C.2.1 d hva (k ws H locs lsA cells slots a1 a2 a3 a4 a5 a6 a7)
theorem z_pop {va : Value} (C : zC g own cc nL ret r mc ms p e R s m args below meth c) (d : decode cc pc = .ok (.pop, 1)) (hva : va.category = 1) (k : Z g nL mc ms p e R s m args below meth c Q rc rs (pc + 1) (ls) (st) (h)) : Z g nL mc ms p e R s m args below meth c Q rc rs (pc) (ls) (va :: st) (h) := fun ws H locs lsA cells slots a1 a2 a3 a4 a5 a6 a7 => lv_pop C.1 C.2.1 d hva (k ws H locs lsA cells slots a1 a2 a3 a4 a5 a6 a7)
theorem z_dup_x1 {va vb : Value} (C : zC g own cc nL ret r mc ms p e R s m args below meth c) (d : decode cc pc = .ok (.dup_x1, 1)) (hva : va.category = 1) (hvb : vb.category = 1) (k : Z g nL mc ms p e R s m args below meth c Q rc rs (pc + 1) (ls) (va :: vb :: va :: st) (h)) : Z g nL mc ms p e R s m args below meth c Q rc rs (pc) (ls) (va :: vb :: st) (h) := fun ws H locs lsA cells slots a1 a2 a3 a4 a5 a6 a7 => lv_dup_x1 C.1 C.2.1 d hva hvb (k ws H locs lsA cells slots a1 a2 a3 a4 a5 a6 a7)
theorem z_dup2 {va vb : Value} (C : zC g own cc nL ret r mc ms p e R s m args below meth c) (d : decode cc pc = .ok (.dup2, 1)) (hva : va.category = 1) (hvb : vb.category = 1) (k : Z g nL mc ms p e R s m args below meth c Q rc rs (pc + 1) (ls) (va :: vb :: va :: vb :: st) (h)) : Z g nL mc ms p e R s m args below meth c Q rc rs (pc) (ls) (va :: vb :: st) (h) := fun ws H locs lsA cells slots a1 a2 a3 a4 a5 a6 a7 => lv_dup2_11 C.1 C.2.1 d hva hvb (k ws H locs lsA cells slots a1 a2 a3 a4 a5 a6 a7)
theorem z_i2l {x : Int32} (C : zC g own cc nL ret r mc ms p e R s m args below meth c) (d : decode cc pc = .ok (.i2l, 1))  (k : Z g nL mc ms p e R s m args below meth c Q rc rs (pc + 1) (ls) (.long x.toInt64 :: st) (h)) : Z g nL mc ms p e R s m args below meth c Q rc rs (pc) (ls) (.int x :: st) (h) := fun ws H locs lsA cells slots a1 a2 a3 a4 a5 a6 a7 => lv_i2l C.1 C.2.1 d rfl (k ws H locs lsA cells slots a1 a2 a3 a4 a5 a6 a7)
theorem z_lcmp {x y : Int64} (C : zC g own cc nL ret r mc ms p e R s m args below meth c) (d : decode cc pc = .ok (.lcmp, 1))  (k : Z g nL mc ms p e R s m args below meth c Q rc rs (pc + 1) (ls) (.int (lg_cmp x y) :: st) (h)) : Z g nL mc ms p e R s m args below meth c Q rc rs (pc) (ls) (.long y :: .long x :: st) (h) := fun ws H locs lsA cells slots a1 a2 a3 a4 a5 a6 a7 => W.lcmp C.1 C.2.1 d  (k ws H locs lsA cells slots a1 a2 a3 a4 a5 a6 a7)
theorem z_goto {off : Int} (tgt : Nat) (C : zC g own cc nL ret r mc ms p e R s m args below meth c) (d : decode cc pc = .ok (.goto off, 3)) (ht : (pc : Int) + off = (tgt : Int)) (k : Z g nL mc ms p e R s m args below meth c Q rc rs (tgt) (ls) (st) (h)) : Z g nL mc ms p e R s m args below meth c Q rc rs (pc) (ls) (st) (h) := fun ws H locs lsA cells slots a1 a2 a3 a4 a5 a6 a7 => lv_goto C.1 C.2.1 d ht (k ws H locs lsA cells slots a1 a2 a3 a4 a5 a6 a7)
theorem z_icmp_eq {x y : Int32} {off : Int} (tgt : Nat) (C : zC g own cc nL ret r mc ms p e R s m args below meth c) (d : decode cc pc = .ok (.if_icmp .eq off, 3)) (ht : (pc : Int) + off = (tgt : Int)) (kt : x = y → Z g nL mc ms p e R s m args below meth c Q rc rs (tgt) (ls) (st) (h)) (kf : ¬ x = y → Z g nL mc ms p e R s m args below meth c Q rc rs (pc + 3) (ls) (st) (h)) : Z g nL mc ms p e R s m args below meth c Q rc rs (pc) (ls) (.int y :: .int x :: st) (h) := fun ws H locs lsA cells slots a1 a2 a3 a4 a5 a6 a7 => lv_icmp_eq C.1 C.2.1 d ht (fun q => kt q ws H locs lsA cells slots a1 a2 a3 a4 a5 a6 a7) (fun q => kf q ws H locs lsA cells slots a1 a2 a3 a4 a5 a6 a7)
theorem z_if_eq {x : Int32} {off : Int} (tgt : Nat) (C : zC g own cc nL ret r mc ms p e R s m args below meth c) (d : decode cc pc = .ok (.ifCond .eq off, 3)) (ht : (pc : Int) + off = (tgt : Int)) (kt : x = 0 → Z g nL mc ms p e R s m args below meth c Q rc rs (tgt) (ls) (st) (h)) (kf : ¬ x = 0 → Z g nL mc ms p e R s m args below meth c Q rc rs (pc + 3) (ls) (st) (h)) : Z g nL mc ms p e R s m args below meth c Q rc rs (pc) (ls) (.int x :: st) (h) := fun ws H locs lsA cells slots a1 a2 a3 a4 a5 a6 a7 => lv_if_eq C.1 C.2.1 d ht (fun q => kt q ws H locs lsA cells slots a1 a2 a3 a4 a5 a6 a7) (fun q => kf q ws H locs lsA cells slots a1 a2 a3 a4 a5 a6 a7)
theorem z_icmp_ne {x y : Int32} {off : Int} (tgt : Nat) (C : zC g own cc nL ret r mc ms p e R s m args below meth c) (d : decode cc pc = .ok (.if_icmp .ne off, 3)) (ht : (pc : Int) + off = (tgt : Int)) (kt : ¬ x = y → Z g nL mc ms p e R s m args below meth c Q rc rs (tgt) (ls) (st) (h)) (kf : x = y → Z g nL mc ms p e R s m args below meth c Q rc rs (pc + 3) (ls) (st) (h)) : Z g nL mc ms p e R s m args below meth c Q rc rs (pc) (ls) (.int y :: .int x :: st) (h) := fun ws H locs lsA cells slots a1 a2 a3 a4 a5 a6 a7 => lv_icmp_ne C.1 C.2.1 d ht (fun q => kt q ws H locs lsA cells slots a1 a2 a3 a4 a5 a6 a7) (fun q => kf q ws H locs lsA cells slots a1 a2 a3 a4 a5 a6 a7)
theorem z_if_ne {x : Int32} {off : Int} (tgt : Nat) (C : zC g own cc nL ret r mc ms p e R s m args below meth c) (d : decode cc pc = .ok (.ifCond .ne off, 3)) (ht : (pc : Int) + off = (tgt : Int)) (kt : ¬ x = 0 → Z g nL mc ms p e R s m args below meth c Q rc rs (tgt) (ls) (st) (h)) (kf : x = 0 → Z g nL mc ms p e R s m args below meth c Q rc rs (pc + 3) (ls) (st) (h)) : Z g nL mc ms p e R s m args below meth c Q rc rs (pc) (ls) (.int x :: st) (h) := fun ws H locs lsA cells slots a1 a2 a3 a4 a5 a6 a7 => lv_if_ne C.1 C.2.1 d ht (fun q => kt q ws H locs lsA cells slots a1 a2 a3 a4 a5 a6 a7) (fun q => kf q ws H locs lsA cells slots a1 a2 a3 a4 a5 a6 a7)
theorem z_icmp_lt {x y : Int32} {off : Int} (tgt : Nat) (C : zC g own cc nL ret r mc ms p e R s m args below meth c) (d : decode cc pc = .ok (.if_icmp .lt off, 3)) (ht : (pc : Int) + off = (tgt : Int)) (kt : x < y → Z g nL mc ms p e R s m args below meth c Q rc rs (tgt) (ls) (st) (h)) (kf : ¬ x < y → Z g nL mc ms p e R s m args below meth c Q rc rs (pc + 3) (ls) (st) (h)) : Z g nL mc ms p e R s m args below meth c Q rc rs (pc) (ls) (.int y :: .int x :: st) (h) := fun ws H locs lsA cells slots a1 a2 a3 a4 a5 a6 a7 => lv_icmp_lt C.1 C.2.1 d ht (fun q => kt q ws H locs lsA cells slots a1 a2 a3 a4 a5 a6 a7) (fun q => kf q ws H locs lsA cells slots a1 a2 a3 a4 a5 a6 a7)
theorem z_if_lt {x : Int32} {off : Int} (tgt : Nat) (C : zC g own cc nL ret r mc ms p e R s m args below meth c) (d : decode cc pc = .ok (.ifCond .lt off, 3)) (ht : (pc : Int) + off = (tgt : Int)) (kt : x < 0 → Z g nL mc ms p e R s m args below meth c Q rc rs (tgt) (ls) (st) (h)) (kf : ¬ x < 0 → Z g nL mc ms p e R s m args below meth c Q rc rs (pc + 3) (ls) (st) (h)) : Z g nL mc ms p e R s m args below meth c Q rc rs (pc) (ls) (.int x :: st) (h) := fun ws H locs lsA cells slots a1 a2 a3 a4 a5 a6 a7 => lv_if_lt C.1 C.2.1 d ht (fun q => kt q ws H locs lsA cells slots a1 a2 a3 a4 a5 a6 a7) (fun q => kf q ws H locs lsA cells slots a1 a2 a3 a4 a5 a6 a7)
theorem z_icmp_ge {x y : Int32} {off : Int} (tgt : Nat) (C : zC g own cc nL ret r mc ms p e R s m args below meth c) (d : decode cc pc = .ok (.if_icmp .ge off, 3)) (ht : (pc : Int) + off = (tgt : Int)) (kt : y ≤ x → Z g nL mc ms p e R s m args below meth c Q rc rs (tgt) (ls) (st) (h)) (kf : ¬ y ≤ x → Z g nL mc ms p e R s m args below meth c Q rc rs (pc + 3) (ls) (st) (h)) : Z g nL mc ms p e R s m args below meth c Q rc rs (pc) (ls) (.int y :: .int x :: st) (h) := fun ws H locs lsA cells slots a1 a2 a3 a4 a5 a6 a7 => lv_icmp_ge C.1 C.2.1 d ht (fun q => kt q ws H locs lsA cells slots a1 a2 a3 a4 a5 a6 a7) (fun q => kf q ws H locs lsA cells slots a1 a2 a3 a4 a5 a6 a7)
theorem z_if_ge {x : Int32} {off : Int} (tgt : Nat) (C : zC g own cc nL ret r mc ms p e R s m args below meth c) (d : decode cc pc = .ok (.ifCond .ge off, 3)) (ht : (pc : Int) + off = (tgt : Int)) (kt : 0 ≤ x → Z g nL mc ms p e R s m args below meth c Q rc rs (tgt) (ls) (st) (h)) (kf : ¬ 0 ≤ x → Z g nL mc ms p e R s m args below meth c Q rc rs (pc + 3) (ls) (st) (h)) : Z g nL mc ms p e R s m args below meth c Q rc rs (pc) (ls) (.int x :: st) (h) := fun ws H locs lsA cells slots a1 a2 a3 a4 a5 a6 a7 => lv_if_ge C.1 C.2.1 d ht (fun q => kt q ws H locs lsA cells slots a1 a2 a3 a4 a5 a6 a7) (fun q => kf q ws H locs lsA cells slots a1 a2 a3 a4 a5 a6 a7)
theorem z_icmp_gt {x y : Int32} {off : Int} (tgt : Nat) (C : zC g own cc nL ret r mc ms p e R s m args below meth c) (d : decode cc pc = .ok (.if_icmp .gt off, 3)) (ht : (pc : Int) + off = (tgt : Int)) (kt : y < x → Z g nL mc ms p e R s m args below meth c Q rc rs (tgt) (ls) (st) (h)) (kf : ¬ y < x → Z g nL mc ms p e R s m args below meth c Q rc rs (pc + 3) (ls) (st) (h)) : Z g nL mc ms p e R s m args below meth c Q rc rs (pc) (ls) (.int y :: .int x :: st) (h) := fun ws H locs lsA cells slots a1 a2 a3 a4 a5 a6 a7 => lv_icmp_gt C.1 C.2.1 d ht (fun q => kt q ws H locs lsA cells slots a1 a2 a3 a4 a5 a6 a7) (fun q => kf q ws H locs lsA cells slots a1 a2 a3 a4 a5 a6 a7)
theorem z_if_gt {x : Int32} {off : Int} (tgt : Nat) (C : zC g own cc nL ret r mc ms p e R s m args below meth c) (d : decode cc pc = .ok (.ifCond .gt off, 3)) (ht : (pc : Int) + off = (tgt : Int)) (kt : 0 < x → Z g nL mc ms p e R s m args below meth c Q rc rs (tgt) (ls) (st) (h)) (kf : ¬ 0 < x → Z g nL mc ms p e R s m args below meth c Q rc rs (pc + 3) (ls) (st) (h)) : Z g nL mc ms p e R s m args below meth c Q rc rs (pc) (ls) (.int x :: st) (h) := fun ws H locs lsA cells slots a1 a2 a3 a4 a5 a6 a7 => lv_if_gt C.1 C.2.1 d ht (fun q => kt q ws H locs lsA cells slots a1 a2 a3 a4 a5 a6 a7) (fun q => kf q ws H locs lsA cells slots a1 a2 a3 a4 a5 a6 a7)
theorem z_icmp_le {x y : Int32} {off : Int} (tgt : Nat) (C : zC g own cc nL ret r mc ms p e R s m args below meth c) (d : decode cc pc = .ok (.if_icmp .le off, 3)) (ht : (pc : Int) + off = (tgt : Int)) (kt : x ≤ y → Z g nL mc ms p e R s m args below meth c Q rc rs (tgt) (ls) (st) (h)) (kf : ¬ x ≤ y → Z g nL mc ms p e R s m args below meth c Q rc rs (pc + 3) (ls) (st) (h)) : Z g nL mc ms p e R s m args below meth c Q rc rs (pc) (ls) (.int y :: .int x :: st) (h) := fun ws H locs lsA cells slots a1 a2 a3 a4 a5 a6 a7 => lv_icmp_le C.1 C.2.1 d ht (fun q => kt q ws H locs lsA cells slots a1 a2 a3 a4 a5 a6 a7) (fun q => kf q ws H locs lsA cells slots a1 a2 a3 a4 a5 a6 a7)
theorem z_if_le {x : Int32} {off : Int} (tgt : Nat) (C : zC g own cc nL ret r mc ms p e R s m args below meth c) (d : decode cc pc = .ok (.ifCond .le off, 3)) (ht : (pc : Int) + off = (tgt : Int)) (kt : x ≤ 0 → Z g nL mc ms p e R s m args below meth c Q rc rs (tgt) (ls) (st) (h)) (kf : ¬ x ≤ 0 → Z g nL mc ms p e R s m args below meth c Q rc rs (pc + 3) (ls) (st) (h)) : Z g nL mc ms p e R s m args below meth c Q rc rs (pc) (ls) (.int x :: st) (h) := fun ws H locs lsA cells slots a1 a2 a3 a4 a5 a6 a7 => lv_if_le C.1 C.2.1 d ht (fun q => kt q ws H locs lsA cells slots a1 a2 a3 a4 a5 a6 a7) (fun q => kf q ws H locs lsA cells slots a1 a2 a3 a4 a5 a6 a7)
theorem z_acmp_eq {x y : Nat} {off : Int} (tgt : Nat) (C : zC g own cc nL ret r mc ms p e R s m args below meth c) (d : decode cc pc = .ok (.if_acmp .eq off, 3)) (ht : (pc : Int) + off = (tgt : Int)) (kt : some x = some y → Z g nL mc ms p e R s m args below meth c Q rc rs (tgt) (ls) (st) (h)) (kf : ¬ some x = some y → Z g nL mc ms p e R s m args below meth c Q rc rs (pc + 3) (ls) (st) (h)) : Z g nL mc ms p e R s m args below meth c Q rc rs (pc) (ls) (.ref y :: .ref x :: st) (h) := fun ws H locs lsA cells slots a1 a2 a3 a4 a5 a6 a7 => lv_acmp_eq (rx := some x) (ry := some y) C.1 C.2.1 d ht (fun q => kt q ws H locs lsA cells slots a1 a2 a3 a4 a5 a6 a7) (fun q => kf q ws H locs lsA cells slots a1 a2 a3 a4 a5 a6 a7)
theorem z_acmp_ne {x y : Nat} {off : Int} (tgt : Nat) (C : zC g own cc nL ret r mc ms p e R s m args below meth c) (d : decode cc pc = .ok (.if_acmp .ne off, 3)) (ht : (pc : Int) + off = (tgt : Int)) (kt : ¬ some x = some y → Z g nL mc ms p e R s m args below meth c Q rc rs (tgt) (ls) (st) (h)) (kf : some x = some y → Z g nL mc ms p e R s m args below meth c Q rc rs (pc + 3) (ls) (st) (h)) : Z g nL mc ms p e R s m args below meth c Q rc rs (pc) (ls) (.ref y :: .ref x :: st) (h) := fun ws H locs lsA cells slots a1 a2 a3 a4 a5 a6 a7 => lv_acmp_ne (rx := some x) (ry := some y) C.1 C.2.1 d ht (fun q => kt q ws H locs lsA cells slots a1 a2 a3 a4 a5 a6 a7) (fun q => kf q ws H locs lsA cells slots a1 a2 a3 a4 a5 a6 a7)
theorem z_tableIn {dflt lo hi : Int} {offs : Array Int} {len : Nat} {x : Int32} {off : Int} (tgt : Nat) (C : zC g own cc nL ret r mc ms p e R s m args below meth c) (d : decode cc pc = .ok (.tableswitch dflt lo hi offs, len)) (h1 : ¬ x.toInt < lo) (h2 : ¬ hi < x.toInt) (ho : offs[(x.toInt - lo).toNat]? = some off) (ht : (pc : Int) + off = (tgt : Int)) (k : Z g nL mc ms p e R s m args below meth c Q rc rs (tgt) (ls) (st) (h)) : Z g nL mc ms p e R s m args below meth c Q rc rs (pc) (ls) (.int x :: st) (h) := fun ws H locs lsA cells slots a1 a2 a3 a4 a5 a6 a7 => lv_tableIn C.1 C.2.1 d h1 h2 ho ht (k ws H locs lsA cells slots a1 a2 a3 a4 a5 a6 a7)
theorem z_tableOut {dflt lo hi : Int} {offs : Array Int} {len : Nat} {x : Int32} (tgt : Nat) (C : zC g own cc nL ret r mc ms p e R s m args below meth c) (d : decode cc pc = .ok (.tableswitch dflt lo hi offs, len)) (h1 : x.toInt < lo ∨ hi < x.toInt) (ht : (pc : Int) + dflt = (tgt : Int)) (k : Z g nL mc ms p e R s m args below meth c Q rc rs (tgt) (ls) (st) (h)) : Z g nL mc ms p e R s m args below meth c Q rc rs (pc) (ls) (.int x :: st) (h) := fun ws H locs lsA cells slots a1 a2 a3 a4 a5 a6 a7 => lv_tableOut C.1 C.2.1 d h1 ht (k ws H locs lsA cells slots a1 a2 a3 a4 a5 a6 a7)
theorem z_iload_n {x : Int32} {i : Nat} {k : Fin 4} (C : zC g own cc nL ret r mc ms p e R s m args below meth c) (d : decode cc pc = .ok (.iload_n k, 1)) (hi : (k : Nat) = i) (hv : ls[i]? = some (some (.int x))) (kk : Z g nL mc ms p e R s m args below meth c Q rc rs (pc + 1) (ls) (.int x :: st) (h)) : Z g nL mc ms p e R s m args below meth c Q rc rs (pc) (ls) (st) (h) := fun ws H locs lsA cells slots a1 a2 a3 a4 a5 a6 a7 => lv_iload_n C.1 C.2.1 d hi (zLv_at a5 hv) (kk ws H locs lsA cells slots a1 a2 a3 a4 a5 a6 a7)
theorem z_iload {x : Int32} {i : Nat} (C : zC g own cc nL ret r mc ms p e R s m args below meth c) (d : decode cc pc = .ok (.iload i, 2)) (hv : ls[i]? = some (some (.int x))) (kk : Z g nL mc ms p e R s m args below meth c Q rc rs (pc + 2) (ls) (.int x :: st) (h)) : Z g nL mc ms p e R s m args below meth c Q rc rs (pc) (ls) (st) (h) := fun ws H locs lsA cells slots a1 a2 a3 a4 a5 a6 a7 => lv_iload C.1 C.2.1 d (zLv_at a5 hv) (kk ws H locs lsA cells slots a1 a2 a3 a4 a5 a6 a7)
theorem z_istore_n {x : Int32} {i : Nat} {k : Fin 4} (C : zC g own cc nL ret r mc ms p e R s m args below meth c) (d : decode cc pc = .ok (.istore_n k, 1)) (hi : (k : Nat) = i) (hn : i < nL) {ls1 : List (Option Value)} (hs : ls.set i (some (.int x)) = ls1) (kk : Z g nL mc ms p e R s m args below meth c Q rc rs (pc + 1) (ls1) (st) (h)) : Z g nL mc ms p e R s m args below meth c Q rc rs (pc) (ls) (.int x :: st) (h) := by
  subst hs
  exact fun ws H locs lsA cells slots a1 a2 a3 a4 a5 a6 a7 => lv_istore_n C.1 C.2.1 d hi a5.1 hn rfl (fun lsB hB => kk ws H locs lsB cells slots a1 a2 a3 a4 (zLv_set a5 rfl hB) a6 a7)
theorem z_istore {x : Int32} {i : Nat} (C : zC g own cc nL ret r mc ms p e R s m args below meth c) (d : decode cc pc = .ok (.istore i, 2)) (hn : i < nL) {ls1 : List (Option Value)} (hs : ls.set i (some (.int x)) = ls1) (kk : Z g nL mc ms p e R s m args below meth c Q rc rs (pc + 2) (ls1) (st) (h)) : Z g nL mc ms p e R s m args below meth c Q rc rs (pc) (ls) (.int x :: st) (h) := by
  subst hs
  exact fun ws H locs lsA cells slots a1 a2 a3 a4 a5 a6 a7 => lv_istore C.1 C.2.1 d a5.1 hn rfl (fun lsB hB => kk ws H locs lsB cells slots a1 a2 a3 a4 (zLv_set a5 rfl hB) a6 a7)
theorem z_aload_n {x : Nat} {i : Nat} {k : Fin 4} (C : zC g own cc nL ret r mc ms p e R s m args below meth c) (d : decode cc pc = .ok (.aload_n k, 1)) (hi : (k : Nat) = i) (hv : ls[i]? = some (some (.ref x))) (kk : Z g nL mc ms p e R s m args below meth c Q rc rs (pc + 1) (ls) (.ref x :: st) (h)) : Z g nL mc ms p e R s m args below meth c Q rc rs (pc) (ls) (st) (h) := fun ws H locs lsA cells slots a1 a2 a3 a4 a5 a6 a7 => lv_aload_n C.1 C.2.1 d hi (zLv_at a5 hv) (kk ws H locs lsA cells slots a1 a2 a3 a4 a5 a6 a7)
theorem z_aload {x : Nat} {i : Nat} (C : zC g own cc nL ret r mc ms p e R s m args below meth c) (d : decode cc pc = .ok (.aload i, 2)) (hv : ls[i]? = some (some (.ref x))) (kk : Z g nL mc ms p e R s m args below meth c Q rc rs (pc + 2) (ls) (.ref x :: st) (h)) : Z g nL mc ms p e R s m args below meth c Q rc rs (pc) (ls) (st) (h) := fun ws H locs lsA cells slots a1 a2 a3 a4 a5 a6 a7 => lv_aload C.1 C.2.1 d (zLv_at a5 hv) (kk ws H locs lsA cells slots a1 a2 a3 a4 a5 a6 a7)
theorem z_astore_n {x : Nat} {i : Nat} {k : Fin 4} (C : zC g own cc nL ret r mc ms p e R s m args below meth c) (d : decode cc pc = .ok (.astore_n k, 1)) (hi : (k : Nat) = i) (hn : i < nL) {ls1 : List (Option Value)} (hs : ls.set i (some (.ref x)) = ls1) (kk : Z g nL mc ms p e R s m args below meth c Q rc rs (pc + 1) (ls1) (st) (h)) : Z g nL mc ms p e R s m args below meth c Q rc rs (pc) (ls) (.ref x :: st) (h) := by
  subst hs
  exact fun ws H locs lsA cells slots a1 a2 a3 a4 a5 a6 a7 => lv_astore_n C.1 C.2.1 d hi a5.1 hn rfl (fun lsB hB => kk ws H locs lsB cells slots a1 a2 a3 a4 (zLv_set a5 rfl hB) a6 a7)
theorem z_astore {x : Nat} {i : Nat} (C : zC g own cc nL ret r mc ms p e R s m args below meth c) (d : decode cc pc = .ok (.astore i, 2)) (hn : i < nL) {ls1 : List (Option Value)} (hs : ls.set i (some (.ref x)) = ls1) (kk : Z g nL mc ms p e R s m args below meth c Q rc rs (pc + 2) (ls1) (st) (h)) : Z g nL mc ms p e R s m args below meth c Q rc rs (pc) (ls) (.ref x :: st) (h) := by
  subst hs
  exact fun ws H locs lsA cells slots a1 a2 a3 a4 a5 a6 a7 => lv_astore C.1 C.2.1 d a5.1 hn rfl (fun lsB hB => kk ws H locs lsB cells slots a1 a2 a3 a4 (zLv_set a5 rfl hB) a6 a7)
theorem z_iinc {x : Int32} {n : Int} {i : Nat} (C : zC g own cc nL ret r mc ms p e R s m args below meth c) (d : decode cc pc = .ok (.iinc i n, 3)) (hv : ls[i]? = some (some (.int x))) (hn : i < nL) {ls1 : List (Option Value)} (hs : ls.set i (some (.int (x + Int32.ofInt n))) = ls1) (kk : Z g nL mc ms p e R s m args below meth c Q rc rs (pc + 3) (ls1) (st) (h)) : Z g nL mc ms p e R s m args below meth c Q rc rs (pc) (ls) (st) (h) := by
  subst hs
  intro ws H locs lsA cells slots a1 a2 a3 a4 a5 a6 a7
  obtain ⟨k, hk⟩ := List.getElem?_of_mem (zl_mem.mpr hv)
  exact lv_iinc C.1 C.2.1 d a5.1 hk rfl hn rfl (fun lsB hB => kk ws H locs lsB cells slots a1 a2 a3 a4 (zLv_set a5 rfl hB) a6 a7)
/-- less may be made than is left -/
theorem z_less {rc1 rs1 : Nat} (h1 : rc1 ≤ rc) (h2 : rs1 ≤ rs) (k : Z g nL mc ms p e R s m args below meth c Q (rc1) (rs1) (pc) (ls) (st) (h)) : Z g nL mc ms p e R s m args below meth c Q rc rs (pc) (ls) (st) (h) := fun ws H locs lsA cells slots a1 a2 a3 a4 a5 a6 a7 => k ws H locs lsA cells slots a1 a2 a3 a4 a5 (by omega) (by omega)
/-! the heap -/
theorem z_get {ref C0 : String} {T : u_T} {N ci index : Nat} {a : Nat} {fs : List Value} {v : Value} (C : zC g own cc nL ret r mc ms p e R s m args below meth c) (d : decode cc pc = .ok (.getfield index, 3)) (k : Nat) (hin : ∀ w ∈ u_ws C0 T N, w ∈ zT) (hc : zcl[ci]? = some (C0, T, N)) (hk : k < N) (hlink : Cond.fieldLink own index ref (T k).2.1 (T k).2.2.1 ∈ zT) (hsame : ∀ x, s.fieldFound? (T k).1 (T k).2.1 (T k).2.2.1 = some x → s.fieldFound? ref (T k).2.1 (T k).2.2.1 = some x) (ha : h a = some (.inr (ci, fs))) (hv : fs[k]? = some v) (kk : Z g nL mc ms p e R s m args below meth c Q rc rs (pc + 3) (ls) (v :: st) (h)) : Z g nL mc ms p e R s m args below meth c Q rc rs (pc) (ls) (.ref a :: st) (h) := by
  intro ws H locs lsA cells slots a1 a2 a3 a4 a5 a6 a7
  obtain ⟨q0, hq⟩ := zw_at a1 ha
  exact va_get C.1 C.2.1 C.2.2.2.2.1 hin C.2.2.2.1 C.2.2.2.2.2.2.1.2.1 a2 q0 hq hc k hk (C.2.2.2.2.1 _ hlink) hsame hv d (kk ws H locs lsA cells slots a1 a2 a3 a4 a5 a6 a7)
theorem z_put {ref C0 : String} {T : u_T} {N ci index : Nat} {a : Nat} {fs : List Value} {v : Value} {ty : FieldType} (C : zC g own cc nL ret r mc ms p e R s m args below meth c) (d : decode cc pc = .ok (.putfield index, 3)) (k : Nat) (ty0 : Nat → FieldType) (hty : ∀ k, k < N → parseFieldDescriptor (T k).2.2.1 = some (ty0 k)) (hnm : ∀ a, a < N → ∀ b, b < N → a ≠ b → (T a).2.1 ≠ (T b).2.1) (hin : ∀ w ∈ u_ws C0 T N, w ∈ zT) (hc : zcl[ci]? = some (C0, T, N)) (hk : k < N) (hlink : Cond.fieldLink own index ref (T k).2.1 (T k).2.2.1 ∈ zT) (hsame : ∀ x, s.fieldFound? (T k).1 (T k).2.1 (T k).2.2.1 = some x → s.fieldFound? ref (T k).2.1 (T k).2.2.1 = some x) (hfin : (T k).2.2.2 = false) (hd : parseFieldDescriptor (T k).2.2.1 = some ty) (hn : narrow ty v = v) (hfit : fits ty v = true) (ha : h a = some (.inr (ci, fs))) (hl : k < fs.length) (kk : Z g nL mc ms p e R s m args below meth c Q rc rs (pc + 3) (ls) (st) (zu h a (.inr (ci, fs.set k v)))) : Z g nL mc ms p e R s m args below meth c Q rc rs (pc) (ls) (v :: .ref a :: st) (h) := by
  intro ws H locs lsA cells slots a1 a2 a3 a4 a5 a6 a7
  obtain ⟨q0, hq⟩ := zw_at a1 ha
  exact va_put C.1 C.2.1 C.2.2.2.2.1 hin ty0 hty hnm C.2.2.2.1 C.2.2.2.2.2.2.1.2.1 a2 a3 a4 q0 hq hc k hk (C.2.2.2.2.1 _ hlink) hsame hfin hd hn hfit hl d (fun H1 locs1 b2 b3 b4 => kk _ H1 locs1 lsA cells slots (zw_set a1 a3 hq) b2 b3 b4 a5 a6 a7)
theorem z_putF {ref C0 : String} {T : u_T} {N ci index : Nat} {a : Nat} {fs : List Value} {v : Value} {ty : FieldType} (C : zC g own cc nL ret r mc ms p e R s m args below meth c) (d : decode cc pc = .ok (.putfield index, 3)) (hin2 : meth.name = "<init>") (k : Nat) (ty0 : Nat → FieldType) (hty : ∀ k, k < N → parseFieldDescriptor (T k).2.2.1 = some (ty0 k)) (hnm : ∀ a, a < N → ∀ b, b < N → a ≠ b → (T a).2.1 ≠ (T b).2.1) (hin : ∀ w ∈ u_ws C0 T N, w ∈ zT) (hc : zcl[ci]? = some (C0, T, N)) (hk : k < N) (hlink : Cond.fieldLink own index ref (T k).2.1 (T k).2.2.1 ∈ zT) (hsame : ∀ x, s.fieldFound? (T k).1 (T k).2.1 (T k).2.2.1 = some x → s.fieldFound? ref (T k).2.1 (T k).2.2.1 = some x) (hfin : (T k).2.2.2 = true) (hdecl : (T k).1 = own) (hd : parseFieldDescriptor (T k).2.2.1 = some ty) (hn : narrow ty v = v) (hfit : fits ty v = true) (ha : h a = some (.inr (ci, fs))) (hl : k < fs.length) (kk : Z g nL mc ms p e R s m args below meth c Q rc rs (pc + 3) (ls) (st) (zu h a (.inr (ci, fs.set k v)))) : Z g nL mc ms p e R s m args below meth c Q rc rs (pc) (ls) (v :: .ref a :: st) (h) := by
  intro ws H locs lsA cells slots a1 a2 a3 a4 a5 a6 a7
  obtain ⟨q0, hq⟩ := zw_at a1 ha
  exact va_putF C.1 C.2.1 C.2.2.2.2.1 hin ty0 hty hnm C.2.2.2.1 C.2.2.2.2.2.2.1.2.1 a2 a3 a4 q0 hq hc k hk (C.2.2.2.2.1 _ hlink) hsame hfin hin2 hdecl hd hn hfit hl d (fun H1 locs1 b2 b3 b4 => kk _ H1 locs1 lsA cells slots (zw_set a1 a3 hq) b2 b3 b4 a5 a6 a7)
theorem z_iald {a n : Nat} {f : Nat → Int32} {i : Int32} (C : zC g own cc nL ret r mc ms p e R s m args below meth c) (d : decode cc pc = .ok (.iaload, 1)) (ha : h a = some (.inl (g.ca 0, n, .inl f))) (hin : vp_in i n) (kk : Z g nL mc ms p e R s m args below meth c Q rc rs (pc + 1) (ls) (.int (f i.toNatClampNeg) :: st) (h)) : Z g nL mc ms p e R s m args below meth c Q rc rs (pc) (ls) (.int i :: .ref a :: st) (h) := by
  intro ws H locs lsA cells slots a1 a2 a3 a4 a5 a6 a7
  obtain ⟨q0, hq⟩ := zw_at a1 ha
  exact va_iald C.1 C.2.1 C.2.2.2.2.2.2.1.2.1 a2 q0 0 hq rfl hin d (kk ws H locs lsA cells slots a1 a2 a3 a4 a5 a6 a7)
theorem z_zald {a n : Nat} {f : Nat → Int32} {i : Int32} (C : zC g own cc nL ret r mc ms p e R s m args below meth c) (d : decode cc pc = .ok (.baload, 1)) (ha : h a = some (.inl (g.ca 1, n, .inl f))) (hin : vp_in i n) (kk : Z g nL mc ms p e R s m args below meth c Q rc rs (pc + 1) (ls) (.int (f i.toNatClampNeg) :: st) (h)) : Z g nL mc ms p e R s m args below meth c Q rc rs (pc) (ls) (.int i :: .ref a :: st) (h) := by
  intro ws H locs lsA cells slots a1 a2 a3 a4 a5 a6 a7
  obtain ⟨q0, hq⟩ := zw_at a1 ha
  exact va_zald C.1 C.2.1 C.2.2.2.2.2.2.1.2.1 a2 q0 1 hq rfl hin d (kk ws H locs lsA cells slots a1 a2 a3 a4 a5 a6 a7)
theorem z_lald {a n : Nat} {f : Nat → Int64} {i : Int32} (C : zC g own cc nL ret r mc ms p e R s m args below meth c) (d : decode cc pc = .ok (.laload, 1)) (ha : h a = some (.inl (g.ca 2, n, .inr (.inl f)))) (hin : vp_in i n) (kk : Z g nL mc ms p e R s m args below meth c Q rc rs (pc + 1) (ls) (.long (f i.toNatClampNeg) :: st) (h)) : Z g nL mc ms p e R s m args below meth c Q rc rs (pc) (ls) (.int i :: .ref a :: st) (h) := by
  intro ws H locs lsA cells slots a1 a2 a3 a4 a5 a6 a7
  obtain ⟨q0, hq⟩ := zw_at a1 ha
  exact va_lald C.1 C.2.1 C.2.2.2.2.2.2.1.2.1 a2 q0 2 hq rfl hin d (kk ws H locs lsA cells slots a1 a2 a3 a4 a5 a6 a7)
theorem z_aald {a n b : Nat} {f : Nat → Option Nat} {i : Int32} (C : zC g own cc nL ret r mc ms p e R s m args below meth c) (d : decode cc pc = .ok (.aaload, 1)) (ha : h a = some (.inl (g.ca 3, n, .inr (.inr (.inr (.inr f)))))) (hin : vp_in i n) (hb : f i.toNatClampNeg = some b) (kk : Z g nL mc ms p e R s m args below meth c Q rc rs (pc + 1) (ls) (.ref b :: st) (h)) : Z g nL mc ms p e R s m args below meth c Q rc rs (pc) (ls) (.int i :: .ref a :: st) (h) := by
  intro ws H locs lsA cells slots a1 a2 a3 a4 a5 a6 a7
  obtain ⟨q0, hq⟩ := zw_at a1 ha
  refine va_aldq C.1 C.2.1 C.2.2.2.2.2.2.1.2.1 a2 q0 3 hq rfl hin d ?_
  rw [hb]
  exact kk ws H locs lsA cells slots a1 a2 a3 a4 a5 a6 a7
theorem z_iast {a n : Nat} {f : Nat → Int32} {i x : Int32} (C : zC g own cc nL ret r mc ms p e R s m args below meth c) (d : decode cc pc = .ok (.iastore, 1)) (ha : h a = some (.inl (g.ca 0, n, .inl f))) (hin : vp_in i n) (kk : Z g nL mc ms p e R s m args below meth c Q rc rs (pc + 1) (ls) (st) (zu h a (.inl (g.ca 0, n, .inl (upd f i.toNatClampNeg x))))) : Z g nL mc ms p e R s m args below meth c Q rc rs (pc) (ls) (.int x :: .int i :: .ref a :: st) (h) := by
  intro ws H locs lsA cells slots a1 a2 a3 a4 a5 a6 a7
  obtain ⟨q0, hq⟩ := zw_at a1 ha
  exact va_iast C.1 C.2.1 C.2.2.2.2.2.2.1.2.1 a2 a3 a4 q0 0 hq rfl hin d (fun H1 locs1 b2 b3 b4 => kk _ H1 locs1 lsA cells slots (zw_set a1 a3 hq) b2 b3 b4 a5 a6 a7)
theorem z_zast {a n : Nat} {f : Nat → Int32} {i x : Int32} (C : zC g own cc nL ret r mc ms p e R s m args below meth c) (d : decode cc pc = .ok (.bastore, 1)) (ha : h a = some (.inl (g.ca 1, n, .inl f))) (hin : vp_in i n) (hx : vp_nar .boolean x = x) (kk : Z g nL mc ms p e R s m args below meth c Q rc rs (pc + 1) (ls) (st) (zu h a (.inl (g.ca 1, n, .inl (upd f i.toNatClampNeg x))))) : Z g nL mc ms p e R s m args below meth c Q rc rs (pc) (ls) (.int x :: .int i :: .ref a :: st) (h) := by
  intro ws H locs lsA cells slots a1 a2 a3 a4 a5 a6 a7
  obtain ⟨q0, hq⟩ := zw_at a1 ha
  refine va_zast C.1 C.2.1 C.2.2.2.2.2.2.1.2.1 a2 a3 a4 q0 1 hq rfl hin d (fun H1 locs1 b2 b3 b4 => ?_)
  rw [hx] at b2 b3
  exact kk _ H1 locs1 lsA cells slots (zw_set a1 a3 hq) b2 b3 b4 a5 a6 a7
theorem z_last {a n : Nat} {f : Nat → Int64} {i : Int32} {x : Int64} (C : zC g own cc nL ret r mc ms p e R s m args below meth c) (d : decode cc pc = .ok (.lastore, 1)) (ha : h a = some (.inl (g.ca 2, n, .inr (.inl f)))) (hin : vp_in i n) (kk : Z g nL mc ms p e R s m args below meth c Q rc rs (pc + 1) (ls) (st) (zu h a (.inl (g.ca 2, n, .inr (.inl (vp_updL f i.toNatClampNeg x)))))) : Z g nL mc ms p e R s m args below meth c Q rc rs (pc) (ls) (.long x :: .int i :: .ref a :: st) (h) := by
  intro ws H locs lsA cells slots a1 a2 a3 a4 a5 a6 a7
  obtain ⟨q0, hq⟩ := zw_at a1 ha
  exact va_last C.1 C.2.1 C.2.2.2.2.2.2.1.2.1 a2 a3 a4 q0 2 hq rfl hin d (fun H1 locs1 b2 b3 b4 => kk _ H1 locs1 lsA cells slots (zw_set a1 a3 hq) b2 b3 b4 a5 a6 a7)
theorem z_aast {a n b ci : Nat} {f : Nat → Option Nat} {i : Int32} {q9 : vw_C} {vs : List Value} (C : zC g own cc nL ret r mc ms p e R s m args below meth c) (d : decode cc pc = .ok (.aastore, 1)) (ha : h a = some (.inl (g.ca 3, n, .inr (.inr (.inr (.inr f)))))) (hb : h b = some (.inr (ci, vs))) (hc : zcl[ci]? = some q9) (hcast : (q9.1, "java/lang/Object") ∈ zcast) (hin : vp_in i n) (kk : Z g nL mc ms p e R s m args below meth c Q rc rs (pc + 1) (ls) (st) (zu h a (.inl (g.ca 3, n, .inr (.inr (.inr (.inr (va_up f i.toNatClampNeg (some b))))))))) : Z g nL mc ms p e R s m args below meth c Q rc rs (pc) (ls) (.ref b :: .int i :: .ref a :: st) (h) := by
  intro ws H locs lsA cells slots a1 a2 a3 a4 a5 a6 a7
  obtain ⟨q0, hq⟩ := zw_at a1 ha
  obtain ⟨q1, hq1⟩ := zw_at a1 hb
  exact va_astqO C.1 C.2.1 C.2.2.2.2.2.2.1.2.1 a2 a3 a4 q0 3 q1 ci hq rfl (C.2.2.2.2.2.2.1.2.2.2.2.2.1.1 _ hcast) hq1 hc hin d (fun H1 locs1 b2 b3 b4 => kk _ H1 locs1 lsA cells slots (zw_set a1 a3 hq) b2 b3 b4 a5 a6 a7)
theorem z_alen {a n : Nat} {cA : ClassId} {x : (Nat → Int32) ⊕ (Nat → Int64) ⊕ (Nat → UInt32) ⊕ (Nat → UInt64) ⊕ (Nat → Option Nat)} {ty : FieldType} (t0 : Nat) (C : zC g own cc nL ret r mc ms p e R s m args below meth c) (d : decode cc pc = .ok (.arraylength, 1)) (ha : h a = some (.inl (cA, n, x))) (ht : (ztys g)[t0]? = some (cA, ty)) (kk : Z g nL mc ms p e R s m args below meth c Q rc rs (pc + 1) (ls) (.int (nI n) :: st) (h)) : Z g nL mc ms p e R s m args below meth c Q rc rs (pc) (ls) (.ref a :: st) (h) := by
  intro ws H locs lsA cells slots a1 a2 a3 a4 a5 a6 a7
  obtain ⟨q0, hq⟩ := zw_at a1 ha
  exact va_alen C.1 C.2.1 C.2.2.2.2.2.2.1.2.1 a2 q0 t0 hq ht rfl d (kk ws H locs lsA cells slots a1 a2 a3 a4 a5 a6 a7)
theorem z_new {C0 : String} {T : u_T} {N ci index : Nat} {fs : List Value} (C : zC g own cc nL ret r mc ms p e R s m args below meth c) (d : decode cc pc = .ok (.new index, 3)) (ty : Nat → FieldType) (hty : ∀ k, k < N → parseFieldDescriptor (T k).2.2.1 = some (ty k)) (hin : ∀ w ∈ u_ws C0 T N, w ∈ zT) (hc : zcl[ci]? = some (C0, T, N)) (hcl : Cond.classLink own index C0 ∈ zT) (hinst : Cond.instantiable C0 N ∈ zT) (hini : Cond.initialized C0 ∈ zT) (hfs : ∀ j, j < N → defaultValue (ty j) = vp_V fs j) (hrc : 1 ≤ rc) (hrs : N ≤ rs) (kk : ∀ q, h q = none → Z g nL mc ms p e R s m args below meth c Q (rc - 1) (rs - N) (pc + 3) (ls) (.ref q :: st) (zu h q (.inr (ci, fs)))) : Z g nL mc ms p e R s m args below meth c Q rc rs (pc) (ls) (st) (h) := by
  intro ws H locs lsA cells slots a1 a2 a3 a4 a5 a6 a7
  have hA : ∀ q, s.heap.size ≤ q → zA g q := fun q hq => Nat.le_trans C.2.2.2.2.2.2.2.1 hq
  refine va_new C.1 C.2.1 C.2.2.2.2.1 hin ty hty C.2.2.2.1 (C.2.2.2.2.1 _ hcl) (C.2.2.2.2.1 _ hinst) (C.2.2.2.2.1 _ hini) C.2.2.2.2.2.2.1.2.1 a2 a3 a4 hA hc hfs (Nat.le_trans (by omega) C.2.2.2.2.2.2.2.2.2.2.2.1) (Nat.le_trans (by omega) C.2.2.2.2.2.2.2.2.2.2.2.2) d (fun q H1 b2 b3 b4 => ?_)
  obtain ⟨hq, hw⟩ := zw_push a1 b3
  exact kk q hq _ H1 locs lsA _ _ hw b2 b3 b4 a5 (by omega) (by omega)
theorem z_cast {ci index : Nat} {q9 : vw_C} {a : Nat} {fs : List Value} (C : zC g own cc nL ret r mc ms p e R s m args below meth c) (d : decode cc pc = .ok (.checkcast index, 3)) (hc : zcl[ci]? = some q9) (hlink : Cond.classLink own index q9.1 ∈ zT) (ha : h a = some (.inr (ci, fs))) (kk : Z g nL mc ms p e R s m args below meth c Q rc rs (pc + 3) (ls) (.ref a :: st) (h)) : Z g nL mc ms p e R s m args below meth c Q rc rs (pc) (ls) (.ref a :: st) (h) := by
  intro ws H locs lsA cells slots a1 a2 a3 a4 a5 a6 a7
  obtain ⟨q0, hq⟩ := zw_at a1 ha
  exact va_castS C.1 C.2.1 C.2.2.2.1 (C.2.2.2.2.1 _ hlink) (C.2.2.2.2.2.2.1.2.1.1 ci q9 hc).2 (va_recv C.2.2.2.2.2.2.1.2.1 a2 hc hq) d (kk ws H locs lsA cells slots a1 a2 a3 a4 a5 a6 a7)
theorem zoth_ok (C : zC g own cc nL ret r mc ms p e R s m args below meth c) : ∀ w ∈ zoth, w.before args s = true := by
  intro w hw
  have hK := C.2.2.2.2.2.2.1.2.2.2.2.2.1
  rcases List.mem_append.mp hw with h1 | h1
  · obtain ⟨x, hx, rfl⟩ := List.mem_map.mp h1
    exact va_Nw.use rfl (hK.1 x hx)
  · rcases List.mem_append.mp h1 with h1 | h1
    · obtain ⟨x, hx, rfl⟩ := List.mem_map.mp h1
      exact va_Nw.use rfl (hK.2.1 x hx)
    · obtain ⟨x, hx, rfl⟩ := List.mem_map.mp h1
      exact va_Nw.use rfl (hK.2.2 x hx)
end ZRows

