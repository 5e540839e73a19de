/-! ArrayList.add and what it calls; Arrays.fill -/
section JA
variable {g : zG} {h : Hp} {PR : Option Value → Hp → Prop} {PX : String → Hp → Prop}
set_option maxRecDepth 100000 in
theorem ct_AS_newLength {a b d : Nat} (ha : a ≤ 10000) (hb : 0 < b) (hb2 : b ≤ 10000) (hd : d ≤ 10000) (k : PR (some (.int (nI (a + (if b < d then d else b))))) h) : Ct g y_AS_newLength w_AS_newLength 2 0 0 [.int (nI a), .int (nI b), .int (nI d)] h PR PX := by
  refine Ct_intro (cc := c_AS_newLength) (nL := 4) (ret := (some FieldType.int)) (ls := [some (.int (nI a)), some (.int (nI b)), some (.int (nI d)), none]) (by decide) (Nat.le_of_ble_eq_true rfl) rfl rfl ?_
  intro p e R s m args below meth c C ht hname
  have e1 : (if nI b < nI d then nI d else nI b) = nI (if b < d then d else b) := by
    by_cases hq : b < d
    · rw [if_pos hq, if_pos (nI_lt hq (by omega))]
    · rw [if_neg hq, if_neg (nI_nlt (by omega) (by omega))]
  generalize hm : (if b < d then d else b) = m0 at *
  have hm0 : 0 < m0 ∧ m0 ≤ 10000 := by
    by_cases hq : b < d
    · rw [if_pos hq] at hm; omega
    · rw [if_neg hq] at hm; omega
  refine z_iload_n C d_AS_newLength_0 rfl rfl ?_
  refine z_iload_n C d_AS_newLength_1 rfl rfl ?_
  refine z_iload_n C d_AS_newLength_2 rfl rfl ?_
  refine z_max C d_AS_newLength_3 k_204 k_205 k_12 k_206 (by decide) (Nat.le_of_ble_eq_true rfl) ?_
  rw [e1]
  refine z_iadd C d_AS_newLength_6 ?_
  refine z_istore_n C d_AS_newLength_7 rfl (by decide) rfl ?_
  dsimp only [List.set]
  rw [nI_add]
  refine z_iconst (v := 0) C d_AS_newLength_8 (by decide) ?_
  refine z_iload_n C d_AS_newLength_9 rfl rfl ?_
  refine z_icmp_ge 21 C d_AS_newLength_10 (by decide) (fun c10 => ?_) (fun c10 => ?_)
  · exact absurd c10 (by rw [← nI_0]; exact nI_ge (by omega) (by omega))
  · refine z_iload_n C d_AS_newLength_13 rfl rfl ?_
    refine z_ldc C d_AS_newLength_14 k_207 ?_
    refine z_icmp_gt 21 C d_AS_newLength_16 (by decide) (fun c16 => ?_) (fun c16 => ?_)
    · refine absurd c16 ?_
      rw [show (2147483639 : Int32) = nI 2147483639 from by decide]
      exact nI_nlt (by omega) (by omega)
    · refine z_iload_n C d_AS_newLength_19 rfl rfl ?_
      refine z_iret C d_AS_newLength_20 ?_
      exact k
set_option maxRecDepth 100000 in
theorem ct_AR_copyOf3 {a n n1 ci : Nat} {f : Nat → Option Nat} {q9 : vw_C} (ha : h a = some (qa g n f)) (hc : zcl[ci]? = some q9) (hcast : (q9.1, "java/lang/Object") ∈ zcast) (hel : ∀ i : Nat, i < n → ∀ y : Nat, f i = some y → ∃ vs, h y = some (.inr (ci, vs))) (hn : n ≤ n1) (hn1 : n1 ≤ 450)
    (k : ∀ q, h q = none → ∀ f1 : Nat → Option Nat, (∀ i, i < n → f1 i = f i) → PR (some (.ref q)) (zu h q (qa g n1 f1))) : Ct g y_AR_copyOf3 w_AR_copyOf3 2 1 450 [.ref a, .int (nI n1), .ref g.mi] h PR PX := by
  refine Ct_intro (cc := c_AR_copyOf3) (nL := 4) (ret := (some (FieldType.array (FieldType.object "java/lang/Object")))) (ls := [some (.ref a), some (.int (nI n1)), some (.ref g.mi), none]) (by decide) (Nat.le_of_ble_eq_true rfl) rfl rfl ?_
  intro p e R s m args below meth c C ht hname
  refine z_aload_n C d_AR_copyOf3_0 rfl rfl ?_
  refine z_ldcM C d_AR_copyOf3_1 k_234 ?_
  refine z_acmp_ne 13 C d_AR_copyOf3_3 (by decide) (fun c3 => ?_) (fun c3 => ?_)
  · exact absurd rfl c3
  · refine z_iload_n C d_AR_copyOf3_6 rfl rfl ?_
    refine z_newaQ C d_AR_copyOf3_7 k_236 (nI_pos (by omega)) (nI_clamp (by omega)) (by omega) (by first | decide | omega) (by first | decide | omega) (fun q7 hq7 => ?_)
    have hqa : a ≠ q7 := by
      rintro rfl
      rw [ha] at hq7
      cases hq7
    have ha2 : zu h q7 (qa g n1 (fun _ => none)) a = some (qa g n f) := by rw [zu_n hqa]; exact ha
    refine z_goto 24 C d_AR_copyOf3_10 (by decide) ?_
    refine z_astore_n C d_AR_copyOf3_24 rfl (by decide) rfl ?_
    dsimp only [List.set]
    refine z_aload_n C d_AR_copyOf3_25 rfl rfl ?_
    refine z_iconst (v := 0) C d_AR_copyOf3_26 (by decide) ?_
    refine z_aload_n C d_AR_copyOf3_27 rfl rfl ?_
    refine z_iconst (v := 0) C d_AR_copyOf3_28 (by decide) ?_
    refine z_aload_n C d_AR_copyOf3_29 rfl rfl ?_
    refine z_alen 3 C d_AR_copyOf3_30 ha2 rfl ?_
    refine z_iload_n C d_AR_copyOf3_31 rfl rfl ?_
    refine z_min C d_AR_copyOf3_32 k_237 k_238 k_12 k_239 (by decide) (Nat.le_of_ble_eq_true rfl) ?_
    have e1 : (if nI n1 < nI n then nI n1 else nI n) = nI n := if_neg (nI_nlt hn (by omega))
    rw [e1]
    refine z_copyq (ci := ci) (q9 := q9) C d_AR_copyOf3_35 k_240 k_242 k_241 k_14 ha2 zu_s hc hcast (nI_pos (by omega)) (by rw [nI_clamp (by omega)]; omega) (by rw [nI_clamp (by omega)]; omega) (fun i hi y hy => ?_) (by decide) (Nat.le_of_ble_eq_true rfl) ?_
    · rw [nI_clamp (by omega)] at hi
      obtain ⟨vs, hv⟩ := hel i hi y hy
      refine ⟨vs, ?_⟩
      rw [zu_n]
      · exact hv
      · rintro rfl
        rw [hv] at hq7
        cases hq7
    · refine z_aload_n C d_AR_copyOf3_38 rfl rfl ?_
      refine z_aret C d_AR_copyOf3_39 (by first | exact Or.inl ⟨_, rfl⟩ | exact Or.inr ⟨_, rfl⟩) ?_
      rw [nI_clamp (by omega)]
      have e2 : zu (zu h q7 (qa g n1 (fun _ => none))) q7 (qa g n1 (va_cpy f (fun _ => none) 0 0 n)) = zu h q7 (qa g n1 (va_cpy f (fun _ => none) 0 0 n)) := by
        funext x
        by_cases hx : x = q7
        · subst hx; rw [zu_s, zu_s]
        · rw [zu_n hx, zu_n hx, zu_n hx]
      rw [e2]
      exact k q7 hq7 _ (fun i hi => by rw [pk_cpy_in (Nat.zero_le _) (by omega)]; simp)
set_option maxRecDepth 100000 in
theorem ct_AR_copyOf {a n n1 ci : Nat} {f : Nat → Option Nat} {q9 : vw_C} (ha : h a = some (qa g n f)) (hc : zcl[ci]? = some q9) (hcast : (q9.1, "java/lang/Object") ∈ zcast) (hel : ∀ i : Nat, i < n → ∀ y : Nat, f i = some y → ∃ vs, h y = some (.inr (ci, vs))) (hn : n ≤ n1) (hn1 : n1 ≤ 450)
    (k : ∀ q, h q = none → ∀ f1 : Nat → Option Nat, (∀ i, i < n → f1 i = f i) → PR (some (.ref q)) (zu h q (qa g n1 f1))) : Ct g y_AR_copyOf w_AR_copyOf 3 1 450 [.ref a, .int (nI n1)] h PR PX := by
  refine Ct_intro (cc := c_AR_copyOf) (nL := 2) (ret := (some (FieldType.array (FieldType.object "java/lang/Object")))) (ls := [some (.ref a), some (.int (nI n1))]) (by decide) (Nat.le_of_ble_eq_true rfl) rfl rfl ?_
  intro p e R s m args below meth c C ht hname
  refine z_aload_n C d_AR_copyOf_0 rfl rfl ?_
  refine z_iload_n C d_AR_copyOf_1 rfl rfl ?_
  refine z_aload_n C d_AR_copyOf_2 rfl rfl ?_
  refine z_getC C d_AR_copyOf_3 k_214 k_999 k_215 k_230 ha (by decide) (Nat.le_of_ble_eq_true rfl) ?_
  refine z_callS (n := 3) (As := [.ref a, .int (nI n1), .ref g.mi]) (rest := []) (r1 := 2) (mc1 := 1) (ms1 := 450) C d_AR_copyOf_6 k_233 k_231 k_232 k_13 (by decide +kernel) rfl (by decide) (by decide) (Nat.le_of_ble_eq_true rfl) (by first | decide | omega) (by first | decide | omega) rfl ?_
  refine ct_AR_copyOf3 ha hc hcast hel hn hn1 (fun q hq f1 hf1 => ?_)
  dsimp only [zps]
  refine z_aret C d_AR_copyOf_9 (by first | exact Or.inl ⟨_, rfl⟩ | exact Or.inr ⟨_, rfl⟩) ?_
  exact k q hq f1 hf1
set_option maxRecDepth 100000 in
/-- grow(size + 1), of a list that is full -/
theorem ct_AL_growI {a dt n ci : Nat} {f : Nat → Option Nat} {mo : Int32} {L : List Nat} {q9 : vw_C} (h1 : h a = some (.inr (0, [.ref dt, .int (nI L.length), .int mo]))) (hl : L.length < 300) (h3 : (dt = g.ea ∧ L = []) ∨ (h dt = some (qa g n f) ∧ L.length = n ∧ 0 < n ∧ ∀ (i x : Nat), L[i]? = some x → f i = some x)) (hc : zcl[ci]? = some q9) (hcast : (q9.1, "java/lang/Object") ∈ zcast) (hel : ∀ y ∈ L, ∃ vs, h y = some (.inr (ci, vs)))
    (k : ∀ (q n1 : Nat) (f1 : Nat → Option Nat), h q = none → L.length < n1 → n1 ≤ 450 → (∀ (i x : Nat), L[i]? = some x → f1 i = some x) → PR (some (.ref q)) (zu (zu h q (qa g n1 f1)) a (.inr (0, [.ref q, .int (nI L.length), .int mo])))) : Ct g y_AL_growI w_AL_growI 4 1 450 [.ref a, .int (nI (L.length + 1))] h PR PX := by
  have hqa : ∀ q, h q = none → a ≠ q := by
    rintro q hq rfl
    rw [h1] at hq
    cases hq
  rcases h3 with ⟨rfl, rfl⟩ | ⟨h4, hln, h6, h8⟩
  · refine Ct_intro (cc := c_AL_growI) (nL := 4) (ret := (some (FieldType.array (FieldType.object "java/lang/Object")))) (ls := [some (.ref a), some (.int (nI (([] : List Nat).length + 1))), none, none]) (by decide) (Nat.le_of_ble_eq_true rfl) rfl rfl ?_
    intro p e R s m args below meth c C ht hname
    refine z_aload_n C d_AL_growI_0 rfl rfl ?_
    refine z_get (ci := 0) (T := T_AL) (N := 3) C d_AL_growI_1 0 i_AL rfl (by decide) k_47 (fun _ q => q) (by first | assumption | exact zu_s) (by rfl) ?_
    refine z_emptyLen C d_AL_growI_4 ?_
    refine z_istore_n C d_AL_growI_5 rfl (by decide) rfl ?_
    dsimp only [List.set]
    refine z_iload_n C d_AL_growI_6 rfl rfl ?_
    refine z_if_gt 20 C d_AL_growI_7 (by decide) (fun c7 => ?_) (fun c7 => ?_)
    · exact absurd c7 (by decide)
    · refine z_aload_n C d_AL_growI_10 rfl rfl ?_
      refine z_get (ci := 0) (T := T_AL) (N := 3) C d_AL_growI_11 0 i_AL rfl (by decide) k_47 (fun _ q => q) (by first | assumption | exact zu_s) (by rfl) ?_
      refine z_empty C d_AL_growI_14 k_45 ?_
      refine z_acmp_eq 45 C d_AL_growI_17 (by decide) (fun c17 => ?_) (fun c17 => ?_)
      · refine z_aload_n C d_AL_growI_45 rfl rfl ?_
        refine z_bipush (v := 10) C d_AL_growI_46 (by decide) ?_
        refine z_iload_n C d_AL_growI_48 rfl rfl ?_
        refine z_max C d_AL_growI_49 k_243 k_205 k_12 k_206 (by decide) (Nat.le_of_ble_eq_true rfl) ?_
        have e1 : (if (10 : Int32) < nI (([] : List Nat).length + 1) then nI (([] : List Nat).length + 1) else 10) = nI 10 := by decide
        rw [e1]
        refine z_newaQ C d_AL_growI_52 k_244 (nI_pos (by omega)) (nI_clamp (by omega)) (by omega) (by first | decide | omega) (by first | decide | omega) (fun q52 hq52 => ?_)
        refine z_dup_x1 C d_AL_growI_55 rfl rfl ?_
        have ha2 : zu h q52 (qa g 10 (fun _ => none)) a = some (.inr (0, [.ref g.ea, .int (nI ([] : List Nat).length), .int mo])) := by rw [zu_n (hqa q52 hq52)]; exact h1
        refine z_put (ci := 0) (T := T_AL) (N := 3) (ty := .array (.object "java/lang/Object")) C d_AL_growI_56 0 ty_AL t_AL n_AL i_AL rfl (by decide) k_47 (fun _ q => q) rfl (by decide +kernel) (by rfl) (by rfl) ha2 (by exact Nat.le_of_ble_eq_true rfl) ?_
        refine z_aret C d_AL_growI_59 (by first | exact Or.inl ⟨_, rfl⟩ | exact Or.inr ⟨_, rfl⟩) ?_
        exact k q52 10 _ hq52 (by simp) (by omega) (fun i x hx => by simp at hx)
      · exact absurd rfl c17
  · subst hln
    refine Ct_intro (cc := c_AL_growI) (nL := 4) (ret := (some (FieldType.array (FieldType.object "java/lang/Object")))) (ls := [some (.ref a), some (.int (nI (L.length + 1))), none, none]) (by decide) (Nat.le_of_ble_eq_true rfl) rfl rfl ?_
    intro p e R s m args below meth c C ht hname
    refine z_aload_n C d_AL_growI_0 rfl rfl ?_
    refine z_get (ci := 0) (T := T_AL) (N := 3) C d_AL_growI_1 0 i_AL rfl (by decide) k_47 (fun _ q => q) (by first | assumption | exact zu_s) (by rfl) ?_
    refine z_alen 3 C d_AL_growI_4 h4 rfl ?_
    refine z_istore_n C d_AL_growI_5 rfl (by decide) rfl ?_
    dsimp only [List.set]
    refine z_iload_n C d_AL_growI_6 rfl rfl ?_
    refine z_if_gt 20 C d_AL_growI_7 (by decide) (fun c7 => ?_) (fun c7 => ?_)
    · refine z_iload_n C d_AL_growI_20 rfl rfl ?_
      refine z_iload_n C d_AL_growI_21 rfl rfl ?_
      refine z_iload_n C d_AL_growI_22 rfl rfl ?_
      refine z_isub C d_AL_growI_23 ?_
      refine z_iload_n C d_AL_growI_24 rfl rfl ?_
      refine z_iconst (v := 1) C d_AL_growI_25 (by decide) ?_
      refine z_ishr C d_AL_growI_26 ?_
      have e1 : nI (L.length + 1) - nI L.length = nI 1 := by rw [pk_sub (by omega)]; congr 1; omega
      have e2 : nI L.length >>> ((1 : Int32) &&& 31) = nI (L.length / 2) := by
        rw [pk_shrN (by omega) _ 1 (by decide)]
      rw [e1, e2]
      refine z_callS (n := 3) (As := [.int (nI L.length), .int (nI 1), .int (nI (L.length / 2))]) (rest := []) (r1 := 2) (mc1 := 0) (ms1 := 0) C d_AL_growI_27 k_203 k_201 k_202 k_11 (by decide +kernel) rfl (by decide) (by decide) (Nat.le_of_ble_eq_true rfl) (by first | decide | omega) (by first | decide | omega) rfl ?_
      refine ct_AS_newLength (by omega) (by omega) (by omega) (by omega) ?_
      dsimp only [zps]
      generalize hm : L.length + (if 1 < L.length / 2 then L.length / 2 else 1) = n1
      have hn1 : L.length < n1 ∧ n1 ≤ 450 := by
        by_cases hq : 1 < L.length / 2
        · rw [if_pos hq] at hm; omega
        · rw [if_neg hq] at hm; omega
      refine z_istore_n C d_AL_growI_30 rfl (by decide) rfl ?_
      dsimp only [List.set]
      refine z_aload_n C d_AL_growI_31 rfl rfl ?_
      refine z_aload_n C d_AL_growI_32 rfl rfl ?_
      refine z_get (ci := 0) (T := T_AL) (N := 3) C d_AL_growI_33 0 i_AL rfl (by decide) k_47 (fun _ q => q) (by first | assumption | exact zu_s) (by rfl) ?_
      refine z_iload_n C d_AL_growI_36 rfl rfl ?_
      refine z_callS (n := 2) (As := [.ref dt, .int (nI n1)]) (rest := [.ref a]) (r1 := 3) (mc1 := 1) (ms1 := 450) C d_AL_growI_37 k_213 k_211 k_212 k_13 (by decide +kernel) rfl (by decide) (by decide) (Nat.le_of_ble_eq_true rfl) (by first | decide | omega) (by first | decide | omega) rfl ?_
      refine ct_AR_copyOf (ci := ci) (q9 := q9) h4 hc hcast (fun i hi y hy => ?_) (by omega) hn1.2 (fun q hq f1 hf1 => ?_)
      · obtain ⟨x, hx⟩ : ∃ x, L[i]? = some x := ⟨_, List.getElem?_eq_getElem hi⟩
        have := h8 i x hx
        rw [hy] at this
        cases this
        exact hel y (List.mem_of_getElem? hx)
      · dsimp only [zps]
        refine z_dup_x1 C d_AL_growI_40 rfl rfl ?_
        have ha2 : zu h q (qa g n1 f1) a = some (.inr (0, [.ref dt, .int (nI L.length), .int mo])) := by rw [zu_n (hqa q hq)]; exact h1
        refine z_put (ci := 0) (T := T_AL) (N := 3) (ty := .array (.object "java/lang/Object")) C d_AL_growI_41 0 ty_AL t_AL n_AL i_AL rfl (by decide) k_47 (fun _ q => q) rfl (by decide +kernel) (by rfl) (by rfl) ha2 (by exact Nat.le_of_ble_eq_true rfl) ?_
        refine z_aret C d_AL_growI_44 (by first | exact Or.inl ⟨_, rfl⟩ | exact Or.inr ⟨_, rfl⟩) ?_
        exact k q n1 f1 hq hn1.1 hn1.2 (fun i x hx => by rw [hf1 i (List.getElem?_eq_some_iff.mp hx).1]; exact h8 i x hx)
    · exact absurd (by rw [show (0 : Int32) = nI 0 from rfl]; exact nI_lt (a := 0) (b := L.length) (by omega) (by omega)) c7

set_option maxRecDepth 100000 in
theorem ct_AL_grow {a dt n ci : Nat} {f : Nat → Option Nat} {mo : Int32} {L : List Nat} {q9 : vw_C} (h1 : h a = some (.inr (0, [.ref dt, .int (nI L.length), .int mo]))) (hl : L.length < 300) (h3 : (dt = g.ea ∧ L = []) ∨ (h dt = some (qa g n f) ∧ L.length = n ∧ 0 < n ∧ ∀ (i x : Nat), L[i]? = some x → f i = some x)) (hc : zcl[ci]? = some q9) (hcast : (q9.1, "java/lang/Object") ∈ zcast) (hel : ∀ y ∈ L, ∃ vs, h y = some (.inr (ci, vs)))
    (k : ∀ (q n1 : Nat) (f1 : Nat → Option Nat), h q = none → L.length < n1 → n1 ≤ 450 → (∀ (i x : Nat), L[i]? = some x → f1 i = some x) → PR (some (.ref q)) (zu (zu h q (qa g n1 f1)) a (.inr (0, [.ref q, .int (nI L.length), .int mo])))) : Ct g y_AL_grow w_AL_grow 5 1 450 [.ref a] h PR PX := by
  refine Ct_intro (cc := c_AL_grow) (nL := 1) (ret := (some (FieldType.array (FieldType.object "java/lang/Object")))) (ls := [some (.ref a)]) (by decide) (Nat.le_of_ble_eq_true rfl) rfl rfl ?_
  intro p e R s m args below meth c C ht hname
  refine z_aload_n C d_AL_grow_0 rfl rfl ?_
  refine z_aload_n C d_AL_grow_1 rfl rfl ?_
  refine z_get (ci := 0) (T := T_AL) (N := 3) C d_AL_grow_2 1 i_AL rfl (by decide) k_48 (fun _ q => q) (by first | assumption | exact zu_s) (by rfl) ?_
  refine z_iconst (v := 1) C d_AL_grow_5 (by decide) ?_
  refine z_iadd C d_AL_grow_6 ?_
  rw [nI_1]
  refine z_callV (n := 1) (As := [.int (nI (L.length + 1))]) (rest := []) (r1 := 4) (mc1 := 1) (ms1 := 450) (ci := 0) (T0 := T_AL) C d_AL_grow_7 k_200 k_197 k_199 ks_3 k_4 (by decide +kernel) rfl rfl (by first | assumption | exact zu_s) (by decide) (by decide) (Nat.le_of_ble_eq_true rfl) (by first | decide | omega) (by first | decide | omega) rfl ?_
  refine ct_AL_growI (ci := ci) (q9 := q9) h1 hl h3 hc hcast hel (fun q n1 f1 hq hn1 hn2 hf1 => ?_)
  dsimp only [zps]
  refine z_aret C d_AL_grow_10 (by first | exact Or.inl ⟨_, rfl⟩ | exact Or.inr ⟨_, rfl⟩) ?_
  exact k q n1 f1 hq hn1 hn2 hf1
set_option maxRecDepth 100000 in
theorem ct_AL_add3 {a dt n ci x : Nat} {f : Nat → Option Nat} {mo : Int32} {L : List Nat} {q9 : vw_C} {vs : List Value} (hA : AL g h a dt n f mo L) (hl : L.length < 300) (hc : zcl[ci]? = some q9) (hcast : (q9.1, "java/lang/Object") ∈ zcast) (hel : ∀ y ∈ L, ∃ vs, h y = some (.inr (ci, vs))) (hx : h x = some (.inr (ci, vs))) (hxa : x ≠ a)
    (k : ∀ (h1 : Hp) (dt1 n1 : Nat) (f1 : Nat → Option Nat), AL g h1 a dt1 n1 f1 mo (L ++ [x]) → (∀ q, q ≠ a → q ≠ dt1 → h1 q = h q) → (h dt1 = none ∨ (dt1 = dt ∧ dt ≠ g.ea)) → PR none h1) : Ct g y_AL_add3 w_AL_add3 6 1 450 [.ref a, .ref x, .ref dt, .int (nI L.length)] h PR PX := by
  obtain ⟨h1, h2, h3⟩ := hA
  have fin : ∀ (hh : Hp) (d n1 : Nat) (f1 : Nat → Option Nat), d ≠ a → hh a = some (.inr (0, [.ref d, .int (nI L.length), .int mo])) → hh d = some (qa g n1 f1) → L.length < n1 → n1 ≤ 450 → (∀ (i y : Nat), L[i]? = some y → f1 i = some y) → AL g (zu (zu hh d (qa g n1 (va_up f1 L.length (some x)))) a (.inr (0, [.ref d, .int (nI (L.length + 1)), .int mo]))) a d n1 (va_up f1 L.length (some x)) mo (L ++ [x]) := by
    intro hh d n1 f1 hda e1 e2 e3 e4 e5
    refine ⟨?_, by simp; omega, Or.inr ⟨hda, ?_, by simp; omega, by omega, e4, fun i y hy => ?_⟩⟩
    · rw [zu_s]; simp
    · rw [zu_n hda, zu_s]
    · by_cases hi : i < L.length
      · rw [List.getElem?_append_left hi] at hy
        rw [va_up_ne _ _ (by omega)]
        exact e5 i y hy
      · rw [List.getElem?_append_right (by omega)] at hy
        have h0 := (List.getElem?_eq_some_iff.mp hy).1
        have hi2 : i = L.length := by simp at h0; omega
        subst hi2
        simp at hy
        subst hy
        exact va_up_self _ _ _
  have grown : ∀ (p : Program) (e : Env) (R : Room) (s : State) (m : MethodId) (args : Array Value) (below : List Frame) (meth : Method) (c : Code) (dt0 : Nat) (C : zC g y_AL_add3.cls c_AL_add3 4 none 6 1 450 p e R s m args below meth c), dt0 = dt → ((dt = g.ea ∧ L = []) ∨ (h dt = some (qa g n f) ∧ L.length = n ∧ 0 < n ∧ ∀ (i x : Nat), L[i]? = some x → f i = some x)) → Z g 4 1 450 p e R s m args below meth c (vx_MQ below (zQ g PR) (zX g PX) args s 1 450 (zA g)) 1 450 6 [some (.ref a), some (.ref x), some (.ref dt0), some (.int (nI L.length))] [] h := by
    intro p e R s m args below meth c dt0 C hdt0 hG
    refine z_aload_n C d_AL_add3_6 rfl rfl ?_
    refine z_callV (n := 0) (As := []) (rest := []) (r1 := 5) (mc1 := 1) (ms1 := 450) (ci := 0) (T0 := T_AL) C d_AL_add3_7 k_196 k_193 k_195 ks_2 k_4 (by decide +kernel) rfl rfl (by first | assumption | exact zu_s) (by decide) (by decide) (Nat.le_of_ble_eq_true rfl) (by first | decide | omega) (by first | decide | omega) rfl ?_
    refine ct_AL_grow (ci := ci) (q9 := q9) h1 hl hG hc hcast hel (fun q n1 f1 hq hn1 hn2 hf1 => ?_)
    dsimp only [zps]
    have hqa : q ≠ a := by
      rintro rfl
      rw [h1] at hq
      cases hq
    have hqx : x ≠ q := by
      rintro rfl
      rw [hx] at hq
      cases hq
    refine z_astore_n C d_AL_add3_10 rfl (by decide) rfl ?_
    dsimp only [List.set]
    refine z_aload_n C d_AL_add3_11 rfl rfl ?_
    refine z_iload_n C d_AL_add3_12 rfl rfl ?_
    refine z_aload_n C d_AL_add3_13 rfl rfl ?_
    have e2 : zu (zu h q (qa g n1 f1)) a (.inr (0, [.ref q, .int (nI L.length), .int mo])) q = some (qa g n1 f1) := by rw [zu_n hqa, zu_s]
    have e3 : zu (zu h q (qa g n1 f1)) a (.inr (0, [.ref q, .int (nI L.length), .int mo])) x = some (.inr (ci, vs)) := by rw [zu_n hxa, zu_n hqx]; exact hx
    refine z_aast (q9 := q9) C d_AL_add3_14 e2 e3 hc hcast (vp_in_nI hn1 (by omega)) ?_
    rw [nI_clamp (by omega)]
    refine z_aload_n C d_AL_add3_15 rfl rfl ?_
    refine z_iload_n C d_AL_add3_16 rfl rfl ?_
    refine z_iconst (v := 1) C d_AL_add3_17 (by decide) ?_
    refine z_iadd C d_AL_add3_18 ?_
    rw [nI_1]
    have e4 : zu (zu (zu h q (qa g n1 f1)) a (.inr (0, [.ref q, .int (nI L.length), .int mo]))) q (qa g n1 (va_up f1 L.length (some x))) a = some (.inr (0, [.ref q, .int (nI L.length), .int mo])) := by rw [zu_n hqa.symm, zu_s]
    refine z_put (ci := 0) (T := T_AL) (N := 3) (ty := .int) C d_AL_add3_19 1 ty_AL t_AL n_AL i_AL rfl (by decide) k_48 (fun _ q => q) rfl (by decide +kernel) (by rfl) (by rfl) e4 (by exact Nat.le_of_ble_eq_true rfl) ?_
    refine z_vret C d_AL_add3_22 ?_
    refine k _ q n1 _ (fin _ q n1 f1 hqa zu_s e2 hn1 hn2 hf1) (fun y hy1 hy2 => ?_) (Or.inl hq)
    rw [zu_n hy1, zu_n hy2, zu_n hy1, zu_n hy2]
  rcases h3 with ⟨h3, h4⟩ | ⟨h3, h4, h5, h6, h7, h8⟩
  · refine Ct_intro (cc := c_AL_add3) (nL := 4) (ret := none) (ls := [some (.ref a), some (.ref x), some (.ref dt), some (.int (nI L.length))]) (by decide) (Nat.le_of_ble_eq_true rfl) rfl rfl ?_
    intro p e R s m args below meth c C ht hname
    refine z_iload_n C d_AL_add3_0 rfl rfl ?_
    refine z_aload_n C d_AL_add3_1 rfl rfl ?_
    subst h3
    refine z_emptyLen C d_AL_add3_2 ?_
    refine z_icmp_ne 11 C d_AL_add3_3 (by decide) (fun c3 => ?_) (fun c3 => ?_)
    · exact absurd (by rw [h4]; rfl) c3
    · exact grown p e R s m args below meth c g.ea C rfl (Or.inl ⟨rfl, h4⟩)
  · refine Ct_intro (cc := c_AL_add3) (nL := 4) (ret := none) (ls := [some (.ref a), some (.ref x), some (.ref dt), some (.int (nI L.length))]) (by decide) (Nat.le_of_ble_eq_true rfl) rfl rfl ?_
    intro p e R s m args below meth c C ht hname
    refine z_dom C (fun hdom => ?_)
    have hdea : dt ≠ g.ea := hdom dt (by rw [h4]; exact fun z => by cases z)
    refine z_iload_n C d_AL_add3_0 rfl rfl ?_
    refine z_aload_n C d_AL_add3_1 rfl rfl ?_
    refine z_alen 3 C d_AL_add3_2 h4 rfl ?_
    refine z_icmp_ne 11 C d_AL_add3_3 (by decide) (fun c3 => ?_) (fun c3 => ?_)
    · have hln : L.length < n := by
        rcases Nat.lt_or_ge L.length n with q | q
        · exact q
        · exact absurd (by rw [show L.length = n by omega]) c3
      refine z_aload_n C d_AL_add3_11 rfl rfl ?_
      refine z_iload_n C d_AL_add3_12 rfl rfl ?_
      refine z_aload_n C d_AL_add3_13 rfl rfl ?_
      refine z_aast (q9 := q9) C d_AL_add3_14 h4 hx hc hcast (vp_in_nI hln (by omega)) ?_
      rw [nI_clamp (by omega)]
      refine z_aload_n C d_AL_add3_15 rfl rfl ?_
      refine z_iload_n C d_AL_add3_16 rfl rfl ?_
      refine z_iconst (v := 1) C d_AL_add3_17 (by decide) ?_
      refine z_iadd C d_AL_add3_18 ?_
      rw [nI_1]
      have e4 : zu h dt (qa g n (va_up f L.length (some x))) a = some (.inr (0, [.ref dt, .int (nI L.length), .int mo])) := by rw [zu_n h3.symm]; exact h1
      refine z_put (ci := 0) (T := T_AL) (N := 3) (ty := .int) C d_AL_add3_19 1 ty_AL t_AL n_AL i_AL rfl (by decide) k_48 (fun _ q => q) rfl (by decide +kernel) (by rfl) (by rfl) e4 (by exact Nat.le_of_ble_eq_true rfl) ?_
      refine z_vret C d_AL_add3_22 ?_
      refine k _ dt n _ (fin _ dt n f h3 h1 h4 hln h7 h8) (fun y hy1 hy2 => ?_) (Or.inr ⟨rfl, hdea⟩)
      rw [zu_n hy1, zu_n hy2]
    · refine grown p e R s m args below meth c dt C rfl (Or.inr ⟨h4, ?_, h6, h8⟩)
      exact (nI_eq (by omega) (by omega)).mp c3
set_option maxRecDepth 100000 in
theorem ct_AL_add {a dt n ci x : Nat} {f : Nat → Option Nat} {mo : Int32} {L : List Nat} {q9 : vw_C} {vs : List Value} (hA : AL g h a dt n f mo L) (hl : L.length < 300) (hc : zcl[ci]? = some q9) (hci : ci ≠ 0) (hcast : (q9.1, "java/lang/Object") ∈ zcast) (hel : ∀ y ∈ L, ∃ vs, h y = some (.inr (ci, vs))) (hx : h x = some (.inr (ci, vs)))
    (k : ∀ (h1 : Hp) (dt1 n1 : Nat) (f1 : Nat → Option Nat), AL g h1 a dt1 n1 f1 (mo + 1) (L ++ [x]) → (∀ q, q ≠ a → q ≠ dt1 → h1 q = h q) → (h dt1 = none ∨ (dt1 = dt ∧ dt ≠ g.ea)) → PR (some (.int 1)) h1) : Ct g y_AL_add w_AL_add 7 1 450 [.ref a, .ref x] h PR PX := by
  have h1 := hA.1
  have hxa : ∀ (y : Nat) (ws : List Value), h y = some (.inr (ci, ws)) → y ≠ a := by
    rintro y ws hy rfl
    rw [h1] at hy
    simp at hy
    exact hci hy.1.symm
  refine Ct_intro (cc := c_AL_add) (nL := 2) (ret := (some FieldType.boolean)) (ls := [some (.ref a), some (.ref x)]) (by decide) (Nat.le_of_ble_eq_true rfl) rfl rfl ?_
  intro p e R s m args below meth c C ht hname
  refine z_aload_n C d_AL_add_0 rfl rfl ?_
  refine z_dup C d_AL_add_1 rfl ?_
  refine z_get (ci := 0) (T := T_AL) (N := 3) C d_AL_add_2 2 i_AL rfl (by decide) k_50 (u_same (C.2.2.2.2.1 _ k_51)) (by first | assumption | exact zu_s) (by rfl) ?_
  refine z_iconst (v := 1) C d_AL_add_5 (by decide) ?_
  refine z_iadd C d_AL_add_6 ?_
  refine z_put (ci := 0) (T := T_AL) (N := 3) (ty := .int) C d_AL_add_7 2 ty_AL t_AL n_AL i_AL rfl (by decide) k_50 (u_same (C.2.2.2.2.1 _ k_51)) rfl (by decide +kernel) (by rfl) (by rfl) (by first | assumption | exact zu_s) (by exact Nat.le_of_ble_eq_true rfl) ?_
  dsimp only [List.set]
  obtain ⟨h0, eh⟩ : ∃ z, z = zu h a (.inr (0, [.ref dt, .int (nI L.length), .int (mo + 1)])) := ⟨_, rfl⟩
  rw [← eh]
  have k1 : h0 a = some (.inr (0, [.ref dt, .int (nI L.length), .int (mo + 1)])) := by rw [eh, zu_s]
  have kn : ∀ q, q ≠ a → h0 q = h q := fun q hq => by rw [eh, zu_n hq]
  have hA0 : AL g h0 a dt n f (mo + 1) L := by
    refine ⟨k1, hA.2.1, ?_⟩
    rcases hA.2.2 with q | ⟨q1, q2, q3⟩
    · exact Or.inl q
    · exact Or.inr ⟨q1, by rw [kn _ q1]; exact q2, q3⟩
  refine z_aload_n C d_AL_add_10 rfl rfl ?_
  refine z_aload_n C d_AL_add_11 rfl rfl ?_
  refine z_aload_n C d_AL_add_12 rfl rfl ?_
  refine z_get (ci := 0) (T := T_AL) (N := 3) C d_AL_add_13 0 i_AL rfl (by decide) k_47 (fun _ q => q) (by first | assumption | exact zu_s) (by rfl) ?_
  refine z_aload_n C d_AL_add_16 rfl rfl ?_
  refine z_get (ci := 0) (T := T_AL) (N := 3) C d_AL_add_17 1 i_AL rfl (by decide) k_48 (fun _ q => q) (by first | assumption | exact zu_s) (by rfl) ?_
  refine z_callV (n := 3) (As := [.ref x, .ref dt, .int (nI L.length)]) (rest := []) (r1 := 6) (mc1 := 1) (ms1 := 450) (ci := 0) (T0 := T_AL) C d_AL_add_20 k_192 k_189 k_191 ks_1 k_4 (by decide +kernel) rfl rfl (by first | assumption | exact zu_s) (by decide) (by decide) (Nat.le_of_ble_eq_true rfl) (by first | decide | omega) (by first | decide | omega) rfl ?_
  refine ct_AL_add3 (ci := ci) (q9 := q9) (vs := vs) hA0 hl hc hcast (fun y hy => ?_) (by rw [kn x (hxa x vs hx)]; exact hx) (hxa x vs hx) (fun hh dt1 n1 f1 b1 b2 b3 => ?_)
  · obtain ⟨ws, hw⟩ := hel y hy
    exact ⟨ws, by rw [kn y (hxa y ws hw)]; exact hw⟩
  · dsimp only [zps]
    refine z_iconst (v := 1) C d_AL_add_23 (by decide) ?_
    refine z_zret C d_AL_add_24 (by first | rfl | assumption) ?_
    refine k hh dt1 n1 f1 b1 (fun q q1 q2 => by rw [b2 q q1 q2, kn q q1]) ?_
    rcases b3 with b3 | b3
    · left
      by_cases hq : dt1 = a
      · rw [hq, k1] at b3
        cases b3
      · rw [← kn dt1 hq]; exact b3
    · exact Or.inr b3
end JA
