/-! the JDK's natives and Class objects; the words of throws -/
section ZJ
variable {g : zG} {own : String} {cc : ByteArray} {nL r mc ms : Nat} {ret : Option FieldType} {p : Program} {e : Env} {R : Room} {s : State} {m : MethodId} {args : Array Value} {below : List Frame} {meth : Method} {c : Code} {Q : State → Prop} {rc rs pc : Nat} {ls : List (Option Value)} {st : List Value} {h : Hp}
theorem z_copyq {own : String} {index a0 a1 n0 n1 ci : Nat} {f f1 : Nat → Option Nat} {q9 : vw_C} {n : Int32} (C : zC g own cc nL ret r mc ms p e R s m args below meth c) (d : decode cc pc = .ok (.invokestatic index, 3)) (hlink : Cond.methodLink own index arraycopyName ∈ zT) (hnat : Cond.native arraycopyName ∈ zT) (hstat : Cond.static arraycopyName ∈ zT) (hini : Cond.initialized "java/lang/System" ∈ zT)
    (ha0 : h a0 = some (.inl (g.ca 3, n0, .inr (.inr (.inr (.inr f)))))) (ha1 : h a1 = some (.inl (g.ca 3, n1, .inr (.inr (.inr (.inr f1)))))) (hc : zcl[ci]? = some q9) (hcast : (q9.1, "java/lang/Object") ∈ zcast) (hn : ¬ n < 0) (h4 : n.toNatClampNeg ≤ n0) (h5 : n.toNatClampNeg ≤ n1) (hel : ∀ i : Nat, i < n.toNatClampNeg → ∀ y : Nat, f i = some y → ∃ vs, h y = some (.inr (ci, vs))) (hr : 2 ≤ r) (hst : (st.map fun v => v.category).sum ≤ 8)
    (kk : Z g nL mc ms p e R s m args below meth c Q rc rs (pc + 3) (ls) (st) (zu h a1 (.inl (g.ca 3, n1, .inr (.inr (.inr (.inr (va_cpy f f1 0 0 n.toNatClampNeg)))))))) : Z g nL mc ms p e R s m args below meth c Q rc rs (pc) (ls) (.int n :: .int 0 :: .ref a1 :: .int 0 :: .ref a0 :: st) (h) := by
  intro ws H locs lsA cells slots a1' a2 a3 a4 a5 a6 a7
  have hw := C.2.2.2.2.1
  have hK := C.2.2.2.2.2.2.1
  have hnf : nativeFrameWords "java/lang/System" "arraycopy" 5 + 11 ≤ 60 := by decide +kernel
  obtain ⟨q0, hq0⟩ := zw_at a1' ha0
  obtain ⟨q1, hq1⟩ := zw_at a1' ha1
  have z0 : (0 : Int32).toNatClampNeg = 0 := sb_cl0
  obtain ⟨k0, k1, g0, g1, g2⟩ := Cond.castable_spec (va_Nw.use (A := args) rfl (hK.2.2.2.2.2.1.1 _ hcast))
  refine va_copyq (E1 := "java/lang/Object") (C := q9.1) C.1 C.2.1 (C.2.2.1.trans a5.1.1.symm) C.2.2.2.1 (hw _ hlink) (hw _ hnat) (hw _ hstat) (hw _ hini) hK.2.1 a2 a3 a4 q0 q1 3 3 hq0 hq1 rfl rfl (sp := 0) (dp := 0) (by decide) (by decide) hn (by rw [z0]; omega) (by rw [z0]; omega)
    (fun i hi y hy => ?_) (fun comp c0 e1 e2 => ?_) (Nat.le_trans (by omega) C.2.2.2.2.2.2.2.2.2.1) (Nat.le_trans (by omega) C.2.2.2.2.2.2.2.2.2.2.1) d (fun H1 locs1 b2 b3 b4 => ?_)
  · rw [z0, Nat.zero_add] at hy
    obtain ⟨vs, hvs⟩ := hel i hi y hy
    obtain ⟨q5, hq5⟩ := zw_at a1' hvs
    exact va_recv hK.2.1 a2 hc hq5
  · cases e1.symm.trans g1
    cases e2.symm.trans g0
    exact g2
  · rw [z0] at b2 b3
    exact kk _ H1 locs1 lsA cells slots (zw_set a1' a3 hq1) b2 b3 b4 a5 a6 a7
theorem z_getC {index a n : Nat} {x : (Nat → Int32) ⊕ (Nat → Int64) ⊕ (Nat → UInt32) ⊕ (Nat → UInt64) ⊕ (Nat → Option Nat)} (C : zC g own cc nL ret r mc ms p e R s m args below meth c) (d : decode cc pc = .ok (.invokevirtual index, 3)) (hlink : Cond.methodLink own index gcN ∈ zT) (hsel : Cond.selects oaN gcN gcN ∈ zT) (hinst : Cond.instanceMethod gcN ∈ zT) (hnat : Cond.native gcN ∈ zT) (ha : h a = some (.inl (g.ca 3, n, x))) (hr : 1 ≤ r) (hst : (st.map fun v => v.category).sum ≤ 8) (kk : Z g nL mc ms p e R s m args below meth c Q rc rs (pc + 3) (ls) (.ref g.mi :: st) (h)) : Z g nL mc ms p e R s m args below meth c Q rc rs (pc) (ls) (.ref a :: st) (h) := by
  intro ws H locs lsA cells slots a1 a2 a3 a4 a5 a6 a7
  have hw := C.2.2.2.2.1
  have hK := C.2.2.2.2.2.2.1
  obtain ⟨q0, hq⟩ := zw_at a1 ha
  have hcell : H[a]? = some (vp_cell (g.ca 3) (n, x)) := a2 q0 _ hq
  refine va_getC (C := oaN) C.1 C.2.1 (C.2.2.1.trans a5.1.1.symm) C.2.2.2.1 (hw _ hlink) (va_Dc.use hK.2.2.2.2.2.2.2.2.2.1) (hw _ hsel) (hw _ hinst) (hw _ hnat) hK.2.2.2.2.2.2.2.2.2.2 ⟨_, hcell, ?_, ?_⟩ (Nat.le_trans hr C.2.2.2.2.2.2.2.2.2.1) (Nat.le_trans (by omega) C.2.2.2.2.2.2.2.2.2.2.1) d (kk ws H locs lsA cells slots a1 a2 a3 a4 a5 a6 a7)
  · obtain f | f | f | f | f := x <;> rfl
  · rw [zC_O C]
    obtain f | f | f | f | f := x <;> rfl
theorem z_ldcM {index : Nat} (C : zC g own cc nL ret r mc ms p e R s m args below meth c) (d : decode cc pc = .ok (.ldc index, 2)) (hlink : Cond.classLink own index oaN ∈ zT) (kk : Z g nL mc ms p e R s m args below meth c Q rc rs (pc + 2) (ls) (.ref g.mi :: st) (h)) : Z g nL mc ms p e R s m args below meth c Q rc rs (pc) (ls) (st) (h) := fun ws H locs lsA cells slots a1 a2 a3 a4 a5 a6 a7 => va_ldcM C.1 C.2.1 C.2.2.2.1 (C.2.2.2.2.1 _ hlink) C.2.2.2.2.2.2.1.2.2.2.2.2.2.2.2.2.2 d (kk ws H locs lsA cells slots a1 a2 a3 a4 a5 a6 a7)
end ZJ

def th_IAE : List Cond := vx_atS "RollCalls" 104 "java/lang/IllegalArgumentException" ["java/lang/RuntimeException", "java/lang/Exception"]
theorem thg_IAE : ∀ w ∈ Cond.classLink "RollCalls" 100 "java/lang/IllegalArgumentException" :: Cond.initialized "java/lang/IllegalArgumentException" :: th_IAE, vx_ot w = true := by decide +kernel
theorem thc_IAE : th_IAE.all (fun w => (goodWord w && decide (w ∈ lw_tbl)) || decide (w ∈ zoth)) = true := by decide +kernel
theorem tho_IAE {g : zG} {own : String} {cc : ByteArray} {nL r mc ms : Nat} {ret : Option FieldType} {p : Program} {e : Env} {R : Room} {s : State} {m : MethodId} {args : Array Value} {below : List Frame} {meth : Method} {c : Code} (C : zC g own cc nL ret r mc ms p e R s m args below meth c) : ∀ w ∈ vx_atS "RollCalls" 104 "java/lang/IllegalArgumentException" ["java/lang/RuntimeException", "java/lang/Exception"], w.before args s = true := by
  intro w hw
  have h1 := List.all_eq_true.mp thc_IAE w hw
  simp only [Bool.or_eq_true, Bool.and_eq_true, decide_eq_true_eq] at h1
  rcases h1 with ⟨a, b⟩ | b
  · exact C.2.2.2.2.1 w (List.mem_filter.mpr ⟨b, a⟩)
  · exact zoth_ok C w b
def th_IOB : List Cond := vx_atS "RollCalls" 86 "java/lang/IndexOutOfBoundsException" ["java/lang/RuntimeException", "java/lang/Exception"]
theorem thg_IOB : ∀ w ∈ Cond.classLink "RollCalls" 82 "java/lang/IndexOutOfBoundsException" :: Cond.initialized "java/lang/IndexOutOfBoundsException" :: th_IOB, vx_ot w = true := by decide +kernel
theorem thc_IOB : th_IOB.all (fun w => (goodWord w && decide (w ∈ lw_tbl)) || decide (w ∈ zoth)) = true := by decide +kernel
theorem tho_IOB {g : zG} {own : String} {cc : ByteArray} {nL r mc ms : Nat} {ret : Option FieldType} {p : Program} {e : Env} {R : Room} {s : State} {m : MethodId} {args : Array Value} {below : List Frame} {meth : Method} {c : Code} (C : zC g own cc nL ret r mc ms p e R s m args below meth c) : ∀ w ∈ vx_atS "RollCalls" 86 "java/lang/IndexOutOfBoundsException" ["java/lang/RuntimeException", "java/lang/Exception"], w.before args s = true := by
  intro w hw
  have h1 := List.all_eq_true.mp thc_IOB w hw
  simp only [Bool.or_eq_true, Bool.and_eq_true, decide_eq_true_eq] at h1
  rcases h1 with ⟨a, b⟩ | b
  · exact C.2.2.2.2.1 w (List.mem_filter.mpr ⟨b, a⟩)
  · exact zoth_ok C w b
def th_ISE : List Cond := vx_atS "RollCalls" 72 "java/lang/IllegalStateException" ["java/lang/RuntimeException", "java/lang/Exception"]
theorem thg_ISE : ∀ w ∈ Cond.classLink "RollCalls" 68 "java/lang/IllegalStateException" :: Cond.initialized "java/lang/IllegalStateException" :: th_ISE, vx_ot w = true := by decide +kernel
theorem thc_ISE : th_ISE.all (fun w => (goodWord w && decide (w ∈ lw_tbl)) || decide (w ∈ zoth)) = true := by decide +kernel
theorem tho_ISE {g : zG} {own : String} {cc : ByteArray} {nL r mc ms : Nat} {ret : Option FieldType} {p : Program} {e : Env} {R : Room} {s : State} {m : MethodId} {args : Array Value} {below : List Frame} {meth : Method} {c : Code} (C : zC g own cc nL ret r mc ms p e R s m args below meth c) : ∀ w ∈ vx_atS "RollCalls" 72 "java/lang/IllegalStateException" ["java/lang/RuntimeException", "java/lang/Exception"], w.before args s = true := by
  intro w hw
  have h1 := List.all_eq_true.mp thc_ISE w hw
  simp only [Bool.or_eq_true, Bool.and_eq_true, decide_eq_true_eq] at h1
  rcases h1 with ⟨a, b⟩ | b
  · exact C.2.2.2.2.1 w (List.mem_filter.mpr ⟨b, a⟩)
  · exact zoth_ok C w b
def th_UOE : List Cond := vx_atS "RollCalls" 47 "java/lang/UnsupportedOperationException" ["java/lang/RuntimeException", "java/lang/Exception"]
theorem thg_UOE : ∀ w ∈ Cond.classLink "RollCalls" 43 "java/lang/UnsupportedOperationException" :: Cond.initialized "java/lang/UnsupportedOperationException" :: th_UOE, vx_ot w = true := by decide +kernel
theorem thc_UOE : th_UOE.all (fun w => (goodWord w && decide (w ∈ lw_tbl)) || decide (w ∈ zoth)) = true := by decide +kernel
theorem tho_UOE {g : zG} {own : String} {cc : ByteArray} {nL r mc ms : Nat} {ret : Option FieldType} {p : Program} {e : Env} {R : Room} {s : State} {m : MethodId} {args : Array Value} {below : List Frame} {meth : Method} {c : Code} (C : zC g own cc nL ret r mc ms p e R s m args below meth c) : ∀ w ∈ vx_atS "RollCalls" 47 "java/lang/UnsupportedOperationException" ["java/lang/RuntimeException", "java/lang/Exception"], w.before args s = true := by
  intro w hw
  have h1 := List.all_eq_true.mp thc_UOE w hw
  simp only [Bool.or_eq_true, Bool.and_eq_true, decide_eq_true_eq] at h1
  rcases h1 with ⟨a, b⟩ | b
  · exact C.2.2.2.2.1 w (List.mem_filter.mpr ⟨b, a⟩)
  · exact zoth_ok C w b
