/-! ARRAYLIST over the abstract heap -/
abbrev qa (g : zG) (n : Nat) (f : Nat → Option Nat) : va_E := .inl (g.ca 3, n, .inr (.inr (.inr (.inr f))))
abbrev ia (g : zG) (n : Nat) (f : Nat → Int32) : va_E := .inl (g.ca 0, n, .inl f)
abbrev ba (g : zG) (n : Nat) (f : Nat → Int32) : va_E := .inl (g.ca 1, n, .inl f)
abbrev la (g : zG) (n : Nat) (f : Nat → Int64) : va_E := .inl (g.ca 2, n, .inr (.inl f))
/-- the ArrayList at a holds the addresses L, in the array dt -/
def AL (g : zG) (h : Hp) (a dt n : Nat) (f : Nat → Option Nat) (mo : Int32) (L : List Nat) : Prop :=
  h a = some (.inr (0, [.ref dt, .int (nI L.length), .int mo])) ∧ L.length ≤ 300 ∧ ((dt = g.ea ∧ L = []) ∨ (dt ≠ a ∧ h dt = some (qa g n f) ∧ L.length ≤ n ∧ 0 < n ∧ n ≤ 450 ∧ ∀ (i x : Nat), L[i]? = some x → f i = some x))
section JL
variable {g : zG} {h : Hp} {PR : Option Value → Hp → Prop} {PX : String → Hp → Prop}
set_option maxRecDepth 100000 in
theorem ct_PR_checkIndex {i n : Int32} (h0 : ¬ i < 0) (h1 : i < n) (k : PR (some (.int i)) h) : Ct g y_PR_checkIndex w_PR_checkIndex 1 0 0 [.int i, .int n, .null] h PR PX := by
  refine Ct_intro (cc := c_PR_checkIndex) (nL := 3) (ret := (some FieldType.int)) (ls := [some (.int i), some (.int n), some (.null)]) (by decide) (Nat.le_of_ble_eq_true rfl) rfl rfl ?_
  intro p e R s m args below meth c C ht hname
  refine z_iload_n C d_PR_checkIndex_0 rfl rfl ?_
  refine z_if_lt 9 C d_PR_checkIndex_1 (by decide) (fun c1 => ?_) (fun c1 => ?_)
  · exact absurd c1 h0
  · refine z_iload_n C d_PR_checkIndex_4 rfl rfl ?_
    refine z_iload_n C d_PR_checkIndex_5 rfl rfl ?_
    refine z_icmp_lt 16 C d_PR_checkIndex_6 (by decide) (fun c6 => ?_) (fun c6 => ?_)
    · refine z_iload_n C d_PR_checkIndex_16 rfl rfl ?_
      refine z_iret C d_PR_checkIndex_17 ?_
      exact k
    · exact absurd h1 c6
set_option maxRecDepth 100000 in
theorem ct_OB_checkIndex {i n : Int32} (h0 : ¬ i < 0) (h1 : i < n) (k : PR (some (.int i)) h) : Ct g y_OB_checkIndex w_OB_checkIndex 2 0 0 [.int i, .int n] h PR PX := by
  refine Ct_intro (cc := c_OB_checkIndex) (nL := 2) (ret := (some FieldType.int)) (ls := [some (.int i), some (.int n)]) (by decide) (Nat.le_of_ble_eq_true rfl) rfl rfl ?_
  intro p e R s m args below meth c C ht hname
  refine z_iload_n C d_OB_checkIndex_0 rfl rfl ?_
  refine z_iload_n C d_OB_checkIndex_1 rfl rfl ?_
  refine z_null C d_OB_checkIndex_2 ?_
  refine z_callS (n := 3) (As := [.int i, .int n, .null]) (rest := []) (r1 := 1) (mc1 := 0) (ms1 := 0) C d_OB_checkIndex_3 k_283 k_281 k_282 k_17 (by decide +kernel) rfl (by decide) (by decide) (Nat.le_of_ble_eq_true rfl) (by first | decide | omega) (by first | decide | omega) rfl ?_
  refine ct_PR_checkIndex h0 h1 ?_
  dsimp only [zps]
  refine z_iret C d_OB_checkIndex_6 ?_
  exact k
set_option maxRecDepth 100000 in
theorem ct_AL_size {a dt n : Nat} {f : Nat → Option Nat} {mo : Int32} {L : List Nat} (hA : AL g h a dt n f mo L) (k : PR (some (.int (nI L.length))) h) : Ct g y_AL_size w_AL_size 1 0 0 [.ref a] h PR PX := by
  obtain ⟨h1, -⟩ := hA
  refine Ct_intro (cc := c_AL_size) (nL := 1) (ret := (some FieldType.int)) (ls := [some (.ref a)]) (by decide) (Nat.le_of_ble_eq_true rfl) rfl rfl ?_
  intro p e R s m args below meth c C ht hname
  refine z_aload_n C d_AL_size_0 rfl rfl ?_
  refine z_get (ci := 0) (T := T_AL) (N := 3) C d_AL_size_1 1 i_AL rfl (by decide) k_48 (fun _ q => q) (by first | assumption | exact zu_s) (by rfl) ?_
  refine z_iret C d_AL_size_4 ?_
  exact k
set_option maxRecDepth 100000 in
theorem ct_AL_isEmpty {a dt n : Nat} {f : Nat → Option Nat} {mo : Int32} {L : List Nat} (hA : AL g h a dt n f mo L) (k : PR (some (.int (if L = [] then 1 else 0))) h) : Ct g y_AL_isEmpty w_AL_isEmpty 1 0 0 [.ref a] h PR PX := by
  obtain ⟨h1, h2, -⟩ := hA
  refine Ct_intro (cc := c_AL_isEmpty) (nL := 1) (ret := (some FieldType.boolean)) (ls := [some (.ref a)]) (by decide) (Nat.le_of_ble_eq_true rfl) rfl rfl ?_
  intro p e R s m args below meth c C ht hname
  refine z_aload_n C d_AL_isEmpty_0 rfl rfl ?_
  refine z_get (ci := 0) (T := T_AL) (N := 3) C d_AL_isEmpty_1 1 i_AL rfl (by decide) k_48 (fun _ q => q) (by first | assumption | exact zu_s) (by rfl) ?_
  refine z_if_ne 11 C d_AL_isEmpty_4 (by decide) (fun c4 => ?_) (fun c4 => ?_)
  · refine z_iconst (v := 0) C d_AL_isEmpty_11 (by decide) ?_
    refine z_zret C d_AL_isEmpty_12 (by first | rfl | assumption) ?_
    have : L ≠ [] := by
      rintro rfl
      exact c4 rfl
    rw [if_neg this] at k
    exact k
  · refine z_iconst (v := 1) C d_AL_isEmpty_7 (by decide) ?_
    refine z_goto 12 C d_AL_isEmpty_8 (by decide) ?_
    refine z_zret C d_AL_isEmpty_12 (by first | rfl | assumption) ?_
    have : L = [] := by
      cases L with
      | nil => rfl
      | cons x l => exact absurd (nI_ne0 (n := (x :: l).length) (by simp) (by omega)) (by simpa using c4)
    rw [if_pos this] at k
    exact k
set_option maxRecDepth 100000 in
theorem ct_AL_elementData {a dt n i x : Nat} {f : Nat → Option Nat} {mo : Int32} {L : List Nat} (hA : AL g h a dt n f mo L) (hx : L[i]? = some x) (k : PR (some (.ref x)) h) : Ct g y_AL_elementData w_AL_elementData 1 0 0 [.ref a, .int (nI i)] h PR PX := by
  have hil := (List.getElem?_eq_some_iff.mp hx).1
  obtain ⟨h1, h2, h3⟩ := hA
  rcases h3 with ⟨-, rfl⟩ | ⟨-, h3, h4, h5, h6, h7⟩
  · simp at hil
  · refine Ct_intro (cc := c_AL_elementData) (nL := 2) (ret := (some (FieldType.object "java/lang/Object"))) (ls := [some (.ref a), some (.int (nI i))]) (by decide) (Nat.le_of_ble_eq_true rfl) rfl rfl ?_
    intro p e R s m args below meth c C ht hname
    refine z_aload_n C d_AL_elementData_0 rfl rfl ?_
    refine z_get (ci := 0) (T := T_AL) (N := 3) C d_AL_elementData_1 0 i_AL rfl (by decide) k_47 (fun _ q => q) (by first | assumption | exact zu_s) (by rfl) ?_
    refine z_iload_n C d_AL_elementData_4 rfl rfl ?_
    refine z_aald C d_AL_elementData_5 h3 (vp_in_nI (by omega) (by omega)) (by rw [nI_clamp (by omega)]; exact h7 i x hx) ?_
    refine z_aret C d_AL_elementData_6 (by first | exact Or.inl ⟨_, rfl⟩ | exact Or.inr ⟨_, rfl⟩) ?_
    exact k
set_option maxRecDepth 100000 in
theorem ct_AL_get {a dt n i x : Nat} {f : Nat → Option Nat} {mo : Int32} {L : List Nat} (hA : AL g h a dt n f mo L) (hx : L[i]? = some x) (k : PR (some (.ref x)) h) : Ct g y_AL_get w_AL_get 3 0 0 [.ref a, .int (nI i)] h PR PX := by
  have hil := (List.getElem?_eq_some_iff.mp hx).1
  have h1 := hA.1
  have h2 := hA.2.1
  refine Ct_intro (cc := c_AL_get) (nL := 2) (ret := (some (FieldType.object "java/lang/Object"))) (ls := [some (.ref a), some (.int (nI i))]) (by decide) (Nat.le_of_ble_eq_true rfl) rfl rfl ?_
  intro p e R s m args below meth c C ht hname
  refine z_iload_n C d_AL_get_0 rfl rfl ?_
  refine z_aload_n C d_AL_get_1 rfl rfl ?_
  refine z_get (ci := 0) (T := T_AL) (N := 3) C d_AL_get_2 1 i_AL rfl (by decide) k_48 (fun _ q => q) (by first | assumption | exact zu_s) (by rfl) ?_
  refine z_callS (n := 2) (As := [.int (nI i), .int (nI L.length)]) (rest := []) (r1 := 2) (mc1 := 0) (ms1 := 0) C d_AL_get_5 k_280 k_278 k_279 k_16 (by decide +kernel) rfl (by decide) (by decide) (Nat.le_of_ble_eq_true rfl) (by first | decide | omega) (by first | decide | omega) rfl ?_
  refine ct_OB_checkIndex (nI_pos (by omega)) (nI_lt hil (by omega)) ?_
  dsimp only [zps]
  refine z_pop C d_AL_get_8 rfl ?_
  refine z_aload_n C d_AL_get_9 rfl rfl ?_
  refine z_iload_n C d_AL_get_10 rfl rfl ?_
  refine z_callV (n := 1) (As := [.int (nI i)]) (rest := []) (r1 := 1) (mc1 := 0) (ms1 := 0) (ci := 0) (T0 := T_AL) C d_AL_get_11 k_287 k_284 k_285 k_286 k_4 (by decide +kernel) rfl rfl (by first | assumption | exact zu_s) (by decide) (by decide) (Nat.le_of_ble_eq_true rfl) (by first | decide | omega) (by first | decide | omega) rfl ?_
  refine ct_AL_elementData hA hx ?_
  dsimp only [zps]
  refine z_aret C d_AL_get_14 (by first | exact Or.inl ⟨_, rfl⟩ | exact Or.inr ⟨_, rfl⟩) ?_
  exact k
end JL
