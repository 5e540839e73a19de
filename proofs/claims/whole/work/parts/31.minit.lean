/-! the reference's constructor -/
def stM (g : zG) (T : Tg) (h : Hp) (mo : Nat) (A : Nat → Nat) (K : Nat) : Prop := T mo = (0, 0) ∧ ∀ j, j < K → h (A j) = some (mmA g j (fun _ => 0)) ∧ T (A j) = (0, j + 1)
theorem stM.step {g : zG} {T : Tg} {h : Hp} {mo : Nat} {A : Nat → Nat} {K q : Nat} (H : stM g T h mo A K) (hq : h q = none) (hmo : h mo ≠ none) (X : va_E) : stM g (tg T q (0, K + 1)) (zu (zu h q (mmA g K (fun _ => 0))) mo X) mo (fun j => if j = K then q else A j) (K + 1) := by
  have nq : q ≠ mo := fun z => hmo (z ▸ hq)
  refine ⟨(tg_n nq.symm).trans H.1, fun j hj => ?_⟩
  by_cases hjK : j = K
  · subst hjK
    dsimp only
    rw [if_pos rfl]
    exact ⟨(zu_n nq).trans zu_s, tg_s⟩
  · dsimp only
    rw [if_neg hjK]
    obtain ⟨a, b⟩ := H.2 j (by omega)
    have n1 : A j ≠ q := fun z => by rw [z, hq] at a; cases a
    have n2 : A j ≠ mo := fun z => by rw [z, H.1] at b; have := (Prod.mk.inj b).2; omega
    exact ⟨(zu_n n2).trans ((zu_n n1).trans a), (tg_n n1).trans b⟩
section ND
variable {g : zG} {T : Tg} {h : Hp} {PR : Option Value → Hp → Prop} {PX : String → Hp → Prop}
set_option maxRecDepth 100000 in
theorem ct_MM_init {x : Nat} (h0 : h x = some (.inr (8, [.int 0, .int 0, .int 0, .null, .int 0, .null, .null, .null, .int 0, .null, .null, .null, .null, .null, .null, .null, .null, .null, .int 0, .null, .int 0, .null, .null, .null, .null, .null, .int 0, .null, .null]))) (k : ∀ (h1 : Hp) (T1 : Tg) (A : Nat → Nat), RepM g T1 h1 x A 0 S0 (fun _ _ => 0) → Ex0 T h x T1 h1 → PR none h1) : Ct g y_MM_init w_MM_init 1 21 9120 [.ref x] h PR PX := by
  refine Ct_intro (cc := c_MM_init) (nL := 1) (ret := none) (ls := [some (.ref x)]) (by decide) (Nat.le_of_ble_eq_true rfl) rfl rfl ?_
  intro p e R s m args below meth c C ht hname
  have E0 : Ex0 T h x (tg T x (0, 0)) h := fun q hq => ⟨hq, fun n => ⟨tg_n n, rfl⟩⟩
  have s0 : stM g (tg T x (0, 0)) h x (fun _ => 0) 0 := ⟨tg_s, fun j hj => absurd hj (Nat.not_lt_zero _)⟩
  generalize tg T x (0, 0) = T0 at E0 s0
  have hx0 := h0
  refine z_aload_n C d_MM_init_0 rfl rfl ?_
  refine z_obj C d_MM_init_1 k_746 k_31 k_32 (by first | decide | omega) (Nat.le_of_ble_eq_true rfl) ?_
  refine z_aload_n C d_MM_init_4 rfl rfl ?_
  refine z_bipush (v := 10) C d_MM_init_5 (by decide) ?_
  refine z_newaI (N0 := 10) C d_MM_init_7 k_59 (zC_I C) (by decide) (by decide) (by decide) (by first | decide | omega) (by first | decide | omega) (fun q7 hq7 => ?_)
  have nx7 : x ≠ q7 := fun z => by rw [z, hq7] at hx0; cases hx0
  refine z_putF (ci := 8) (T := T_MM) (N := 29) (ty := .array .int) C d_MM_init_9 hname 3 ty_MM t_MM n_MM i_MM rfl (by decide) k_750 (fun _ q => q) rfl rfl (by decide +kernel) (by rfl) (by rfl) ((zu_n nx7).trans hx0) (by exact Nat.le_of_ble_eq_true rfl) ?_
  dsimp only [List.set]
  have E1 := E0.st (t := (0, 0 + 1)) (A := mmA g 0 (fun _ => 0)) (X := .inr (8, [.int 0, .int 0, .int 0, .ref q7, .int 0, .null, .null, .null, .int 0, .null, .null, .null, .null, .null, .null, .null, .null, .null, .int 0, .null, .int 0, .null, .null, .null, .null, .null, .int 0, .null, .null])) hq7
  have s1 := s0.step hq7 (zne hx0) (.inr (8, [.int 0, .int 0, .int 0, .ref q7, .int 0, .null, .null, .null, .int 0, .null, .null, .null, .null, .null, .null, .null, .null, .null, .int 0, .null, .int 0, .null, .null, .null, .null, .null, .int 0, .null, .null]))
  have hx1 : zu (zu h q7 (mmA g 0 (fun _ => 0))) x (.inr (8, [.int 0, .int 0, .int 0, .ref q7, .int 0, .null, .null, .null, .int 0, .null, .null, .null, .null, .null, .null, .null, .null, .null, .int 0, .null, .int 0, .null, .null, .null, .null, .null, .int 0, .null, .null])) x = some (.inr (8, [.int 0, .int 0, .int 0, .ref q7, .int 0, .null, .null, .null, .int 0, .null, .null, .null, .null, .null, .null, .null, .null, .null, .int 0, .null, .int 0, .null, .null, .null, .null, .null, .int 0, .null, .null])) := zu_s
  generalize hH1 : zu (zu h q7 (mmA g 0 (fun _ => 0))) x (.inr (8, [.int 0, .int 0, .int 0, .ref q7, .int 0, .null, .null, .null, .int 0, .null, .null, .null, .null, .null, .null, .null, .null, .null, .int 0, .null, .int 0, .null, .null, .null, .null, .null, .int 0, .null, .null])) = H1 at E1 s1 hx1
  generalize tg T0 q7 (0, 0 + 1) = T1 at E1 s1
  rw [show zu (zu h q7 (.inl (g.ca 0, 10, .inl (fun _ => 0)))) x (.inr (8, [.int 0, .int 0, .int 0, .ref q7, .int 0, .null, .null, .null, .int 0, .null, .null, .null, .null, .null, .null, .null, .null, .null, .int 0, .null, .int 0, .null, .null, .null, .null, .null, .int 0, .null, .null])) = H1 from hH1]
  clear hH1
  refine z_aload_n C d_MM_init_12 rfl rfl ?_
  refine z_sipush (v := 300) C d_MM_init_13 (by decide) ?_
  refine z_newaI (N0 := 300) C d_MM_init_16 k_59 (zC_I C) (by decide) (by decide) (by decide) (by first | decide | omega) (by first | decide | omega) (fun q16 hq16 => ?_)
  have nx16 : x ≠ q16 := fun z => by rw [z, hq16] at hx1; cases hx1
  refine z_putF (ci := 8) (T := T_MM) (N := 29) (ty := .array .int) C d_MM_init_18 hname 5 ty_MM t_MM n_MM i_MM rfl (by decide) k_752 (fun _ q => q) rfl rfl (by decide +kernel) (by rfl) (by rfl) ((zu_n nx16).trans hx1) (by exact Nat.le_of_ble_eq_true rfl) ?_
  dsimp only [List.set]
  have E2 := E1.st (t := (0, 1 + 1)) (A := mmA g 1 (fun _ => 0)) (X := .inr (8, [.int 0, .int 0, .int 0, .ref q7, .int 0, .ref q16, .null, .null, .int 0, .null, .null, .null, .null, .null, .null, .null, .null, .null, .int 0, .null, .int 0, .null, .null, .null, .null, .null, .int 0, .null, .null])) hq16
  have s2 := s1.step hq16 (zne hx1) (.inr (8, [.int 0, .int 0, .int 0, .ref q7, .int 0, .ref q16, .null, .null, .int 0, .null, .null, .null, .null, .null, .null, .null, .null, .null, .int 0, .null, .int 0, .null, .null, .null, .null, .null, .int 0, .null, .null]))
  have hx2 : zu (zu H1 q16 (mmA g 1 (fun _ => 0))) x (.inr (8, [.int 0, .int 0, .int 0, .ref q7, .int 0, .ref q16, .null, .null, .int 0, .null, .null, .null, .null, .null, .null, .null, .null, .null, .int 0, .null, .int 0, .null, .null, .null, .null, .null, .int 0, .null, .null])) x = some (.inr (8, [.int 0, .int 0, .int 0, .ref q7, .int 0, .ref q16, .null, .null, .int 0, .null, .null, .null, .null, .null, .null, .null, .null, .null, .int 0, .null, .int 0, .null, .null, .null, .null, .null, .int 0, .null, .null])) := zu_s
  generalize hH2 : zu (zu H1 q16 (mmA g 1 (fun _ => 0))) x (.inr (8, [.int 0, .int 0, .int 0, .ref q7, .int 0, .ref q16, .null, .null, .int 0, .null, .null, .null, .null, .null, .null, .null, .null, .null, .int 0, .null, .int 0, .null, .null, .null, .null, .null, .int 0, .null, .null])) = H2 at E2 s2 hx2
  generalize tg T1 q16 (0, 1 + 1) = T2 at E2 s2
  rw [show zu (zu H1 q16 (.inl (g.ca 0, 300, .inl (fun _ => 0)))) x (.inr (8, [.int 0, .int 0, .int 0, .ref q7, .int 0, .ref q16, .null, .null, .int 0, .null, .null, .null, .null, .null, .null, .null, .null, .null, .int 0, .null, .int 0, .null, .null, .null, .null, .null, .int 0, .null, .null])) = H2 from hH2]
  clear hH2 s1 E1 hx1 nx16 hq16
  refine z_aload_n C d_MM_init_21 rfl rfl ?_
  refine z_sipush (v := 300) C d_MM_init_22 (by decide) ?_
  refine z_newaI (N0 := 300) C d_MM_init_25 k_59 (zC_I C) (by decide) (by decide) (by decide) (by first | decide | omega) (by first | decide | omega) (fun q25 hq25 => ?_)
  have nx25 : x ≠ q25 := fun z => by rw [z, hq25] at hx2; cases hx2
  refine z_putF (ci := 8) (T := T_MM) (N := 29) (ty := .array .int) C d_MM_init_27 hname 6 ty_MM t_MM n_MM i_MM rfl (by decide) k_753 (fun _ q => q) rfl rfl (by decide +kernel) (by rfl) (by rfl) ((zu_n nx25).trans hx2) (by exact Nat.le_of_ble_eq_true rfl) ?_
  dsimp only [List.set]
  have E3 := E2.st (t := (0, 2 + 1)) (A := mmA g 2 (fun _ => 0)) (X := .inr (8, [.int 0, .int 0, .int 0, .ref q7, .int 0, .ref q16, .ref q25, .null, .int 0, .null, .null, .null, .null, .null, .null, .null, .null, .null, .int 0, .null, .int 0, .null, .null, .null, .null, .null, .int 0, .null, .null])) hq25
  have s3 := s2.step hq25 (zne hx2) (.inr (8, [.int 0, .int 0, .int 0, .ref q7, .int 0, .ref q16, .ref q25, .null, .int 0, .null, .null, .null, .null, .null, .null, .null, .null, .null, .int 0, .null, .int 0, .null, .null, .null, .null, .null, .int 0, .null, .null]))
  have hx3 : zu (zu H2 q25 (mmA g 2 (fun _ => 0))) x (.inr (8, [.int 0, .int 0, .int 0, .ref q7, .int 0, .ref q16, .ref q25, .null, .int 0, .null, .null, .null, .null, .null, .null, .null, .null, .null, .int 0, .null, .int 0, .null, .null, .null, .null, .null, .int 0, .null, .null])) x = some (.inr (8, [.int 0, .int 0, .int 0, .ref q7, .int 0, .ref q16, .ref q25, .null, .int 0, .null, .null, .null, .null, .null, .null, .null, .null, .null, .int 0, .null, .int 0, .null, .null, .null, .null, .null, .int 0, .null, .null])) := zu_s
  generalize hH3 : zu (zu H2 q25 (mmA g 2 (fun _ => 0))) x (.inr (8, [.int 0, .int 0, .int 0, .ref q7, .int 0, .ref q16, .ref q25, .null, .int 0, .null, .null, .null, .null, .null, .null, .null, .null, .null, .int 0, .null, .int 0, .null, .null, .null, .null, .null, .int 0, .null, .null])) = H3 at E3 s3 hx3
  generalize tg T2 q25 (0, 2 + 1) = T3 at E3 s3
  rw [show zu (zu H2 q25 (.inl (g.ca 0, 300, .inl (fun _ => 0)))) x (.inr (8, [.int 0, .int 0, .int 0, .ref q7, .int 0, .ref q16, .ref q25, .null, .int 0, .null, .null, .null, .null, .null, .null, .null, .null, .null, .int 0, .null, .int 0, .null, .null, .null, .null, .null, .int 0, .null, .null])) = H3 from hH3]
  clear hH3 s2 E2 hx2 nx25 hq25
  refine z_aload_n C d_MM_init_30 rfl rfl ?_
  refine z_sipush (v := 300) C d_MM_init_31 (by decide) ?_
  refine z_newaI (N0 := 300) C d_MM_init_34 k_59 (zC_I C) (by decide) (by decide) (by decide) (by first | decide | omega) (by first | decide | omega) (fun q34 hq34 => ?_)
  have nx34 : x ≠ q34 := fun z => by rw [z, hq34] at hx3; cases hx3
  refine z_putF (ci := 8) (T := T_MM) (N := 29) (ty := .array .int) C d_MM_init_36 hname 7 ty_MM t_MM n_MM i_MM rfl (by decide) k_754 (fun _ q => q) rfl rfl (by decide +kernel) (by rfl) (by rfl) ((zu_n nx34).trans hx3) (by exact Nat.le_of_ble_eq_true rfl) ?_
  dsimp only [List.set]
  have E4 := E3.st (t := (0, 3 + 1)) (A := mmA g 3 (fun _ => 0)) (X := .inr (8, [.int 0, .int 0, .int 0, .ref q7, .int 0, .ref q16, .ref q25, .ref q34, .int 0, .null, .null, .null, .null, .null, .null, .null, .null, .null, .int 0, .null, .int 0, .null, .null, .null, .null, .null, .int 0, .null, .null])) hq34
  have s4 := s3.step hq34 (zne hx3) (.inr (8, [.int 0, .int 0, .int 0, .ref q7, .int 0, .ref q16, .ref q25, .ref q34, .int 0, .null, .null, .null, .null, .null, .null, .null, .null, .null, .int 0, .null, .int 0, .null, .null, .null, .null, .null, .int 0, .null, .null]))
  have hx4 : zu (zu H3 q34 (mmA g 3 (fun _ => 0))) x (.inr (8, [.int 0, .int 0, .int 0, .ref q7, .int 0, .ref q16, .ref q25, .ref q34, .int 0, .null, .null, .null, .null, .null, .null, .null, .null, .null, .int 0, .null, .int 0, .null, .null, .null, .null, .null, .int 0, .null, .null])) x = some (.inr (8, [.int 0, .int 0, .int 0, .ref q7, .int 0, .ref q16, .ref q25, .ref q34, .int 0, .null, .null, .null, .null, .null, .null, .null, .null, .null, .int 0, .null, .int 0, .null, .null, .null, .null, .null, .int 0, .null, .null])) := zu_s
  generalize hH4 : zu (zu H3 q34 (mmA g 3 (fun _ => 0))) x (.inr (8, [.int 0, .int 0, .int 0, .ref q7, .int 0, .ref q16, .ref q25, .ref q34, .int 0, .null, .null, .null, .null, .null, .null, .null, .null, .null, .int 0, .null, .int 0, .null, .null, .null, .null, .null, .int 0, .null, .null])) = H4 at E4 s4 hx4
  generalize tg T3 q34 (0, 3 + 1) = T4 at E4 s4
  rw [show zu (zu H3 q34 (.inl (g.ca 0, 300, .inl (fun _ => 0)))) x (.inr (8, [.int 0, .int 0, .int 0, .ref q7, .int 0, .ref q16, .ref q25, .ref q34, .int 0, .null, .null, .null, .null, .null, .null, .null, .null, .null, .int 0, .null, .int 0, .null, .null, .null, .null, .null, .int 0, .null, .null])) = H4 from hH4]
  clear hH4 s3 E3 hx3 nx34 hq34
  refine z_aload_n C d_MM_init_39 rfl rfl ?_
  refine z_bipush (v := 40) C d_MM_init_40 (by decide) ?_
  refine z_newaI (N0 := 40) C d_MM_init_42 k_59 (zC_I C) (by decide) (by decide) (by decide) (by first | decide | omega) (by first | decide | omega) (fun q42 hq42 => ?_)
  have nx42 : x ≠ q42 := fun z => by rw [z, hq42] at hx4; cases hx4
  refine z_putF (ci := 8) (T := T_MM) (N := 29) (ty := .array .int) C d_MM_init_44 hname 9 ty_MM t_MM n_MM i_MM rfl (by decide) k_756 (fun _ q => q) rfl rfl (by decide +kernel) (by rfl) (by rfl) ((zu_n nx42).trans hx4) (by exact Nat.le_of_ble_eq_true rfl) ?_
  dsimp only [List.set]
  have E5 := E4.st (t := (0, 4 + 1)) (A := mmA g 4 (fun _ => 0)) (X := .inr (8, [.int 0, .int 0, .int 0, .ref q7, .int 0, .ref q16, .ref q25, .ref q34, .int 0, .ref q42, .null, .null, .null, .null, .null, .null, .null, .null, .int 0, .null, .int 0, .null, .null, .null, .null, .null, .int 0, .null, .null])) hq42
  have s5 := s4.step hq42 (zne hx4) (.inr (8, [.int 0, .int 0, .int 0, .ref q7, .int 0, .ref q16, .ref q25, .ref q34, .int 0, .ref q42, .null, .null, .null, .null, .null, .null, .null, .null, .int 0, .null, .int 0, .null, .null, .null, .null, .null, .int 0, .null, .null]))
  have hx5 : zu (zu H4 q42 (mmA g 4 (fun _ => 0))) x (.inr (8, [.int 0, .int 0, .int 0, .ref q7, .int 0, .ref q16, .ref q25, .ref q34, .int 0, .ref q42, .null, .null, .null, .null, .null, .null, .null, .null, .int 0, .null, .int 0, .null, .null, .null, .null, .null, .int 0, .null, .null])) x = some (.inr (8, [.int 0, .int 0, .int 0, .ref q7, .int 0, .ref q16, .ref q25, .ref q34, .int 0, .ref q42, .null, .null, .null, .null, .null, .null, .null, .null, .int 0, .null, .int 0, .null, .null, .null, .null, .null, .int 0, .null, .null])) := zu_s
  generalize hH5 : zu (zu H4 q42 (mmA g 4 (fun _ => 0))) x (.inr (8, [.int 0, .int 0, .int 0, .ref q7, .int 0, .ref q16, .ref q25, .ref q34, .int 0, .ref q42, .null, .null, .null, .null, .null, .null, .null, .null, .int 0, .null, .int 0, .null, .null, .null, .null, .null, .int 0, .null, .null])) = H5 at E5 s5 hx5
  generalize tg T4 q42 (0, 4 + 1) = T5 at E5 s5
  rw [show zu (zu H4 q42 (.inl (g.ca 0, 40, .inl (fun _ => 0)))) x (.inr (8, [.int 0, .int 0, .int 0, .ref q7, .int 0, .ref q16, .ref q25, .ref q34, .int 0, .ref q42, .null, .null, .null, .null, .null, .null, .null, .null, .int 0, .null, .int 0, .null, .null, .null, .null, .null, .int 0, .null, .null])) = H5 from hH5]
  clear hH5 s4 E4 hx4 nx42 hq42
  refine z_aload_n C d_MM_init_47 rfl rfl ?_
  refine z_bipush (v := 40) C d_MM_init_48 (by decide) ?_
  refine z_newaI (N0 := 40) C d_MM_init_50 k_59 (zC_I C) (by decide) (by decide) (by decide) (by first | decide | omega) (by first | decide | omega) (fun q50 hq50 => ?_)
  have nx50 : x ≠ q50 := fun z => by rw [z, hq50] at hx5; cases hx5
  refine z_putF (ci := 8) (T := T_MM) (N := 29) (ty := .array .int) C d_MM_init_52 hname 10 ty_MM t_MM n_MM i_MM rfl (by decide) k_757 (fun _ q => q) rfl rfl (by decide +kernel) (by rfl) (by rfl) ((zu_n nx50).trans hx5) (by exact Nat.le_of_ble_eq_true rfl) ?_
  dsimp only [List.set]
  have E6 := E5.st (t := (0, 5 + 1)) (A := mmA g 5 (fun _ => 0)) (X := .inr (8, [.int 0, .int 0, .int 0, .ref q7, .int 0, .ref q16, .ref q25, .ref q34, .int 0, .ref q42, .ref q50, .null, .null, .null, .null, .null, .null, .null, .int 0, .null, .int 0, .null, .null, .null, .null, .null, .int 0, .null, .null])) hq50
  have s6 := s5.step hq50 (zne hx5) (.inr (8, [.int 0, .int 0, .int 0, .ref q7, .int 0, .ref q16, .ref q25, .ref q34, .int 0, .ref q42, .ref q50, .null, .null, .null, .null, .null, .null, .null, .int 0, .null, .int 0, .null, .null, .null, .null, .null, .int 0, .null, .null]))
  have hx6 : zu (zu H5 q50 (mmA g 5 (fun _ => 0))) x (.inr (8, [.int 0, .int 0, .int 0, .ref q7, .int 0, .ref q16, .ref q25, .ref q34, .int 0, .ref q42, .ref q50, .null, .null, .null, .null, .null, .null, .null, .int 0, .null, .int 0, .null, .null, .null, .null, .null, .int 0, .null, .null])) x = some (.inr (8, [.int 0, .int 0, .int 0, .ref q7, .int 0, .ref q16, .ref q25, .ref q34, .int 0, .ref q42, .ref q50, .null, .null, .null, .null, .null, .null, .null, .int 0, .null, .int 0, .null, .null, .null, .null, .null, .int 0, .null, .null])) := zu_s
  generalize hH6 : zu (zu H5 q50 (mmA g 5 (fun _ => 0))) x (.inr (8, [.int 0, .int 0, .int 0, .ref q7, .int 0, .ref q16, .ref q25, .ref q34, .int 0, .ref q42, .ref q50, .null, .null, .null, .null, .null, .null, .null, .int 0, .null, .int 0, .null, .null, .null, .null, .null, .int 0, .null, .null])) = H6 at E6 s6 hx6
  generalize tg T5 q50 (0, 5 + 1) = T6 at E6 s6
  rw [show zu (zu H5 q50 (.inl (g.ca 0, 40, .inl (fun _ => 0)))) x (.inr (8, [.int 0, .int 0, .int 0, .ref q7, .int 0, .ref q16, .ref q25, .ref q34, .int 0, .ref q42, .ref q50, .null, .null, .null, .null, .null, .null, .null, .int 0, .null, .int 0, .null, .null, .null, .null, .null, .int 0, .null, .null])) = H6 from hH6]
  clear hH6 s5 E5 hx5 nx50 hq50
  refine z_aload_n C d_MM_init_55 rfl rfl ?_
  refine z_bipush (v := 40) C d_MM_init_56 (by decide) ?_
  refine z_newaI (N0 := 40) C d_MM_init_58 k_59 (zC_I C) (by decide) (by decide) (by decide) (by first | decide | omega) (by first | decide | omega) (fun q58 hq58 => ?_)
  have nx58 : x ≠ q58 := fun z => by rw [z, hq58] at hx6; cases hx6
  refine z_putF (ci := 8) (T := T_MM) (N := 29) (ty := .array .int) C d_MM_init_60 hname 11 ty_MM t_MM n_MM i_MM rfl (by decide) k_758 (fun _ q => q) rfl rfl (by decide +kernel) (by rfl) (by rfl) ((zu_n nx58).trans hx6) (by exact Nat.le_of_ble_eq_true rfl) ?_
  dsimp only [List.set]
  have E7 := E6.st (t := (0, 6 + 1)) (A := mmA g 6 (fun _ => 0)) (X := .inr (8, [.int 0, .int 0, .int 0, .ref q7, .int 0, .ref q16, .ref q25, .ref q34, .int 0, .ref q42, .ref q50, .ref q58, .null, .null, .null, .null, .null, .null, .int 0, .null, .int 0, .null, .null, .null, .null, .null, .int 0, .null, .null])) hq58
  have s7 := s6.step hq58 (zne hx6) (.inr (8, [.int 0, .int 0, .int 0, .ref q7, .int 0, .ref q16, .ref q25, .ref q34, .int 0, .ref q42, .ref q50, .ref q58, .null, .null, .null, .null, .null, .null, .int 0, .null, .int 0, .null, .null, .null, .null, .null, .int 0, .null, .null]))
  have hx7 : zu (zu H6 q58 (mmA g 6 (fun _ => 0))) x (.inr (8, [.int 0, .int 0, .int 0, .ref q7, .int 0, .ref q16, .ref q25, .ref q34, .int 0, .ref q42, .ref q50, .ref q58, .null, .null, .null, .null, .null, .null, .int 0, .null, .int 0, .null, .null, .null, .null, .null, .int 0, .null, .null])) x = some (.inr (8, [.int 0, .int 0, .int 0, .ref q7, .int 0, .ref q16, .ref q25, .ref q34, .int 0, .ref q42, .ref q50, .ref q58, .null, .null, .null, .null, .null, .null, .int 0, .null, .int 0, .null, .null, .null, .null, .null, .int 0, .null, .null])) := zu_s
  generalize hH7 : zu (zu H6 q58 (mmA g 6 (fun _ => 0))) x (.inr (8, [.int 0, .int 0, .int 0, .ref q7, .int 0, .ref q16, .ref q25, .ref q34, .int 0, .ref q42, .ref q50, .ref q58, .null, .null, .null, .null, .null, .null, .int 0, .null, .int 0, .null, .null, .null, .null, .null, .int 0, .null, .null])) = H7 at E7 s7 hx7
  generalize tg T6 q58 (0, 6 + 1) = T7 at E7 s7
  rw [show zu (zu H6 q58 (.inl (g.ca 0, 40, .inl (fun _ => 0)))) x (.inr (8, [.int 0, .int 0, .int 0, .ref q7, .int 0, .ref q16, .ref q25, .ref q34, .int 0, .ref q42, .ref q50, .ref q58, .null, .null, .null, .null, .null, .null, .int 0, .null, .int 0, .null, .null, .null, .null, .null, .int 0, .null, .null])) = H7 from hH7]
  clear hH7 s6 E6 hx6 nx58 hq58
  refine z_aload_n C d_MM_init_63 rfl rfl ?_
  refine z_bipush (v := 40) C d_MM_init_64 (by decide) ?_
  refine z_newaI (N0 := 40) C d_MM_init_66 k_59 (zC_I C) (by decide) (by decide) (by decide) (by first | decide | omega) (by first | decide | omega) (fun q66 hq66 => ?_)
  have nx66 : x ≠ q66 := fun z => by rw [z, hq66] at hx7; cases hx7
  refine z_putF (ci := 8) (T := T_MM) (N := 29) (ty := .array .int) C d_MM_init_68 hname 12 ty_MM t_MM n_MM i_MM rfl (by decide) k_759 (fun _ q => q) rfl rfl (by decide +kernel) (by rfl) (by rfl) ((zu_n nx66).trans hx7) (by exact Nat.le_of_ble_eq_true rfl) ?_
  dsimp only [List.set]
  have E8 := E7.st (t := (0, 7 + 1)) (A := mmA g 7 (fun _ => 0)) (X := .inr (8, [.int 0, .int 0, .int 0, .ref q7, .int 0, .ref q16, .ref q25, .ref q34, .int 0, .ref q42, .ref q50, .ref q58, .ref q66, .null, .null, .null, .null, .null, .int 0, .null, .int 0, .null, .null, .null, .null, .null, .int 0, .null, .null])) hq66
  have s8 := s7.step hq66 (zne hx7) (.inr (8, [.int 0, .int 0, .int 0, .ref q7, .int 0, .ref q16, .ref q25, .ref q34, .int 0, .ref q42, .ref q50, .ref q58, .ref q66, .null, .null, .null, .null, .null, .int 0, .null, .int 0, .null, .null, .null, .null, .null, .int 0, .null, .null]))
  have hx8 : zu (zu H7 q66 (mmA g 7 (fun _ => 0))) x (.inr (8, [.int 0, .int 0, .int 0, .ref q7, .int 0, .ref q16, .ref q25, .ref q34, .int 0, .ref q42, .ref q50, .ref q58, .ref q66, .null, .null, .null, .null, .null, .int 0, .null, .int 0, .null, .null, .null, .null, .null, .int 0, .null, .null])) x = some (.inr (8, [.int 0, .int 0, .int 0, .ref q7, .int 0, .ref q16, .ref q25, .ref q34, .int 0, .ref q42, .ref q50, .ref q58, .ref q66, .null, .null, .null, .null, .null, .int 0, .null, .int 0, .null, .null, .null, .null, .null, .int 0, .null, .null])) := zu_s
  generalize hH8 : zu (zu H7 q66 (mmA g 7 (fun _ => 0))) x (.inr (8, [.int 0, .int 0, .int 0, .ref q7, .int 0, .ref q16, .ref q25, .ref q34, .int 0, .ref q42, .ref q50, .ref q58, .ref q66, .null, .null, .null, .null, .null, .int 0, .null, .int 0, .null, .null, .null, .null, .null, .int 0, .null, .null])) = H8 at E8 s8 hx8
  generalize tg T7 q66 (0, 7 + 1) = T8 at E8 s8
  rw [show zu (zu H7 q66 (.inl (g.ca 0, 40, .inl (fun _ => 0)))) x (.inr (8, [.int 0, .int 0, .int 0, .ref q7, .int 0, .ref q16, .ref q25, .ref q34, .int 0, .ref q42, .ref q50, .ref q58, .ref q66, .null, .null, .null, .null, .null, .int 0, .null, .int 0, .null, .null, .null, .null, .null, .int 0, .null, .null])) = H8 from hH8]
  clear hH8 s7 E7 hx7 nx66 hq66
  refine z_aload_n C d_MM_init_71 rfl rfl ?_
  refine z_bipush (v := 40) C d_MM_init_72 (by decide) ?_
  refine z_newaI (N0 := 40) C d_MM_init_74 k_59 (zC_I C) (by decide) (by decide) (by decide) (by first | decide | omega) (by first | decide | omega) (fun q74 hq74 => ?_)
  have nx74 : x ≠ q74 := fun z => by rw [z, hq74] at hx8; cases hx8
  refine z_putF (ci := 8) (T := T_MM) (N := 29) (ty := .array .int) C d_MM_init_76 hname 13 ty_MM t_MM n_MM i_MM rfl (by decide) k_760 (fun _ q => q) rfl rfl (by decide +kernel) (by rfl) (by rfl) ((zu_n nx74).trans hx8) (by exact Nat.le_of_ble_eq_true rfl) ?_
  dsimp only [List.set]
  have E9 := E8.st (t := (0, 8 + 1)) (A := mmA g 8 (fun _ => 0)) (X := .inr (8, [.int 0, .int 0, .int 0, .ref q7, .int 0, .ref q16, .ref q25, .ref q34, .int 0, .ref q42, .ref q50, .ref q58, .ref q66, .ref q74, .null, .null, .null, .null, .int 0, .null, .int 0, .null, .null, .null, .null, .null, .int 0, .null, .null])) hq74
  have s9 := s8.step hq74 (zne hx8) (.inr (8, [.int 0, .int 0, .int 0, .ref q7, .int 0, .ref q16, .ref q25, .ref q34, .int 0, .ref q42, .ref q50, .ref q58, .ref q66, .ref q74, .null, .null, .null, .null, .int 0, .null, .int 0, .null, .null, .null, .null, .null, .int 0, .null, .null]))
  have hx9 : zu (zu H8 q74 (mmA g 8 (fun _ => 0))) x (.inr (8, [.int 0, .int 0, .int 0, .ref q7, .int 0, .ref q16, .ref q25, .ref q34, .int 0, .ref q42, .ref q50, .ref q58, .ref q66, .ref q74, .null, .null, .null, .null, .int 0, .null, .int 0, .null, .null, .null, .null, .null, .int 0, .null, .null])) x = some (.inr (8, [.int 0, .int 0, .int 0, .ref q7, .int 0, .ref q16, .ref q25, .ref q34, .int 0, .ref q42, .ref q50, .ref q58, .ref q66, .ref q74, .null, .null, .null, .null, .int 0, .null, .int 0, .null, .null, .null, .null, .null, .int 0, .null, .null])) := zu_s
  generalize hH9 : zu (zu H8 q74 (mmA g 8 (fun _ => 0))) x (.inr (8, [.int 0, .int 0, .int 0, .ref q7, .int 0, .ref q16, .ref q25, .ref q34, .int 0, .ref q42, .ref q50, .ref q58, .ref q66, .ref q74, .null, .null, .null, .null, .int 0, .null, .int 0, .null, .null, .null, .null, .null, .int 0, .null, .null])) = H9 at E9 s9 hx9
  generalize tg T8 q74 (0, 8 + 1) = T9 at E9 s9
  rw [show zu (zu H8 q74 (.inl (g.ca 0, 40, .inl (fun _ => 0)))) x (.inr (8, [.int 0, .int 0, .int 0, .ref q7, .int 0, .ref q16, .ref q25, .ref q34, .int 0, .ref q42, .ref q50, .ref q58, .ref q66, .ref q74, .null, .null, .null, .null, .int 0, .null, .int 0, .null, .null, .null, .null, .null, .int 0, .null, .null])) = H9 from hH9]
  clear hH9 s8 E8 hx8 nx74 hq74
  refine z_aload_n C d_MM_init_79 rfl rfl ?_
  refine z_bipush (v := 40) C d_MM_init_80 (by decide) ?_
  refine z_newaI (N0 := 40) C d_MM_init_82 k_59 (zC_I C) (by decide) (by decide) (by decide) (by first | decide | omega) (by first | decide | omega) (fun q82 hq82 => ?_)
  have nx82 : x ≠ q82 := fun z => by rw [z, hq82] at hx9; cases hx9
  refine z_putF (ci := 8) (T := T_MM) (N := 29) (ty := .array .int) C d_MM_init_84 hname 14 ty_MM t_MM n_MM i_MM rfl (by decide) k_761 (fun _ q => q) rfl rfl (by decide +kernel) (by rfl) (by rfl) ((zu_n nx82).trans hx9) (by exact Nat.le_of_ble_eq_true rfl) ?_
  dsimp only [List.set]
  have E10 := E9.st (t := (0, 9 + 1)) (A := mmA g 9 (fun _ => 0)) (X := .inr (8, [.int 0, .int 0, .int 0, .ref q7, .int 0, .ref q16, .ref q25, .ref q34, .int 0, .ref q42, .ref q50, .ref q58, .ref q66, .ref q74, .ref q82, .null, .null, .null, .int 0, .null, .int 0, .null, .null, .null, .null, .null, .int 0, .null, .null])) hq82
  have s10 := s9.step hq82 (zne hx9) (.inr (8, [.int 0, .int 0, .int 0, .ref q7, .int 0, .ref q16, .ref q25, .ref q34, .int 0, .ref q42, .ref q50, .ref q58, .ref q66, .ref q74, .ref q82, .null, .null, .null, .int 0, .null, .int 0, .null, .null, .null, .null, .null, .int 0, .null, .null]))
  have hx10 : zu (zu H9 q82 (mmA g 9 (fun _ => 0))) x (.inr (8, [.int 0, .int 0, .int 0, .ref q7, .int 0, .ref q16, .ref q25, .ref q34, .int 0, .ref q42, .ref q50, .ref q58, .ref q66, .ref q74, .ref q82, .null, .null, .null, .int 0, .null, .int 0, .null, .null, .null, .null, .null, .int 0, .null, .null])) x = some (.inr (8, [.int 0, .int 0, .int 0, .ref q7, .int 0, .ref q16, .ref q25, .ref q34, .int 0, .ref q42, .ref q50, .ref q58, .ref q66, .ref q74, .ref q82, .null, .null, .null, .int 0, .null, .int 0, .null, .null, .null, .null, .null, .int 0, .null, .null])) := zu_s
  generalize hH10 : zu (zu H9 q82 (mmA g 9 (fun _ => 0))) x (.inr (8, [.int 0, .int 0, .int 0, .ref q7, .int 0, .ref q16, .ref q25, .ref q34, .int 0, .ref q42, .ref q50, .ref q58, .ref q66, .ref q74, .ref q82, .null, .null, .null, .int 0, .null, .int 0, .null, .null, .null, .null, .null, .int 0, .null, .null])) = H10 at E10 s10 hx10
  generalize tg T9 q82 (0, 9 + 1) = T10 at E10 s10
  rw [show zu (zu H9 q82 (.inl (g.ca 0, 40, .inl (fun _ => 0)))) x (.inr (8, [.int 0, .int 0, .int 0, .ref q7, .int 0, .ref q16, .ref q25, .ref q34, .int 0, .ref q42, .ref q50, .ref q58, .ref q66, .ref q74, .ref q82, .null, .null, .null, .int 0, .null, .int 0, .null, .null, .null, .null, .null, .int 0, .null, .null])) = H10 from hH10]
  clear hH10 s9 E9 hx9 nx82 hq82
  refine z_aload_n C d_MM_init_87 rfl rfl ?_
  refine z_sipush (v := 2400) C d_MM_init_88 (by decide) ?_
  refine z_newaZ (N0 := 2400) C d_MM_init_91 k_678 (zC_Z C) (by decide) (by decide) (by decide) (by first | decide | omega) (by first | decide | omega) (fun q91 hq91 => ?_)
  have nx91 : x ≠ q91 := fun z => by rw [z, hq91] at hx10; cases hx10
  refine z_putF (ci := 8) (T := T_MM) (N := 29) (ty := .array .boolean) C d_MM_init_93 hname 15 ty_MM t_MM n_MM i_MM rfl (by decide) k_762 (fun _ q => q) rfl rfl (by decide +kernel) (by rfl) (by rfl) ((zu_n nx91).trans hx10) (by exact Nat.le_of_ble_eq_true rfl) ?_
  dsimp only [List.set]
  have E11 := E10.st (t := (0, 10 + 1)) (A := mmA g 10 (fun _ => 0)) (X := .inr (8, [.int 0, .int 0, .int 0, .ref q7, .int 0, .ref q16, .ref q25, .ref q34, .int 0, .ref q42, .ref q50, .ref q58, .ref q66, .ref q74, .ref q82, .ref q91, .null, .null, .int 0, .null, .int 0, .null, .null, .null, .null, .null, .int 0, .null, .null])) hq91
  have s11 := s10.step hq91 (zne hx10) (.inr (8, [.int 0, .int 0, .int 0, .ref q7, .int 0, .ref q16, .ref q25, .ref q34, .int 0, .ref q42, .ref q50, .ref q58, .ref q66, .ref q74, .ref q82, .ref q91, .null, .null, .int 0, .null, .int 0, .null, .null, .null, .null, .null, .int 0, .null, .null]))
  have hx11 : zu (zu H10 q91 (mmA g 10 (fun _ => 0))) x (.inr (8, [.int 0, .int 0, .int 0, .ref q7, .int 0, .ref q16, .ref q25, .ref q34, .int 0, .ref q42, .ref q50, .ref q58, .ref q66, .ref q74, .ref q82, .ref q91, .null, .null, .int 0, .null, .int 0, .null, .null, .null, .null, .null, .int 0, .null, .null])) x = some (.inr (8, [.int 0, .int 0, .int 0, .ref q7, .int 0, .ref q16, .ref q25, .ref q34, .int 0, .ref q42, .ref q50, .ref q58, .ref q66, .ref q74, .ref q82, .ref q91, .null, .null, .int 0, .null, .int 0, .null, .null, .null, .null, .null, .int 0, .null, .null])) := zu_s
  generalize hH11 : zu (zu H10 q91 (mmA g 10 (fun _ => 0))) x (.inr (8, [.int 0, .int 0, .int 0, .ref q7, .int 0, .ref q16, .ref q25, .ref q34, .int 0, .ref q42, .ref q50, .ref q58, .ref q66, .ref q74, .ref q82, .ref q91, .null, .null, .int 0, .null, .int 0, .null, .null, .null, .null, .null, .int 0, .null, .null])) = H11 at E11 s11 hx11
  generalize tg T10 q91 (0, 10 + 1) = T11 at E11 s11
  rw [show zu (zu H10 q91 (.inl (g.ca 1, 2400, .inl (fun _ => 0)))) x (.inr (8, [.int 0, .int 0, .int 0, .ref q7, .int 0, .ref q16, .ref q25, .ref q34, .int 0, .ref q42, .ref q50, .ref q58, .ref q66, .ref q74, .ref q82, .ref q91, .null, .null, .int 0, .null, .int 0, .null, .null, .null, .null, .null, .int 0, .null, .null])) = H11 from hH11]
  clear hH11 s10 E10 hx10 nx91 hq91
  refine z_aload_n C d_MM_init_96 rfl rfl ?_
  refine z_sipush (v := 2400) C d_MM_init_97 (by decide) ?_
  refine z_newaI (N0 := 2400) C d_MM_init_100 k_59 (zC_I C) (by decide) (by decide) (by decide) (by first | decide | omega) (by first | decide | omega) (fun q100 hq100 => ?_)
  have nx100 : x ≠ q100 := fun z => by rw [z, hq100] at hx11; cases hx11
  refine z_putF (ci := 8) (T := T_MM) (N := 29) (ty := .array .int) C d_MM_init_102 hname 16 ty_MM t_MM n_MM i_MM rfl (by decide) k_763 (fun _ q => q) rfl rfl (by decide +kernel) (by rfl) (by rfl) ((zu_n nx100).trans hx11) (by exact Nat.le_of_ble_eq_true rfl) ?_
  dsimp only [List.set]
  have E12 := E11.st (t := (0, 11 + 1)) (A := mmA g 11 (fun _ => 0)) (X := .inr (8, [.int 0, .int 0, .int 0, .ref q7, .int 0, .ref q16, .ref q25, .ref q34, .int 0, .ref q42, .ref q50, .ref q58, .ref q66, .ref q74, .ref q82, .ref q91, .ref q100, .null, .int 0, .null, .int 0, .null, .null, .null, .null, .null, .int 0, .null, .null])) hq100
  have s12 := s11.step hq100 (zne hx11) (.inr (8, [.int 0, .int 0, .int 0, .ref q7, .int 0, .ref q16, .ref q25, .ref q34, .int 0, .ref q42, .ref q50, .ref q58, .ref q66, .ref q74, .ref q82, .ref q91, .ref q100, .null, .int 0, .null, .int 0, .null, .null, .null, .null, .null, .int 0, .null, .null]))
  have hx12 : zu (zu H11 q100 (mmA g 11 (fun _ => 0))) x (.inr (8, [.int 0, .int 0, .int 0, .ref q7, .int 0, .ref q16, .ref q25, .ref q34, .int 0, .ref q42, .ref q50, .ref q58, .ref q66, .ref q74, .ref q82, .ref q91, .ref q100, .null, .int 0, .null, .int 0, .null, .null, .null, .null, .null, .int 0, .null, .null])) x = some (.inr (8, [.int 0, .int 0, .int 0, .ref q7, .int 0, .ref q16, .ref q25, .ref q34, .int 0, .ref q42, .ref q50, .ref q58, .ref q66, .ref q74, .ref q82, .ref q91, .ref q100, .null, .int 0, .null, .int 0, .null, .null, .null, .null, .null, .int 0, .null, .null])) := zu_s
  generalize hH12 : zu (zu H11 q100 (mmA g 11 (fun _ => 0))) x (.inr (8, [.int 0, .int 0, .int 0, .ref q7, .int 0, .ref q16, .ref q25, .ref q34, .int 0, .ref q42, .ref q50, .ref q58, .ref q66, .ref q74, .ref q82, .ref q91, .ref q100, .null, .int 0, .null, .int 0, .null, .null, .null, .null, .null, .int 0, .null, .null])) = H12 at E12 s12 hx12
  generalize tg T11 q100 (0, 11 + 1) = T12 at E12 s12
  rw [show zu (zu H11 q100 (.inl (g.ca 0, 2400, .inl (fun _ => 0)))) x (.inr (8, [.int 0, .int 0, .int 0, .ref q7, .int 0, .ref q16, .ref q25, .ref q34, .int 0, .ref q42, .ref q50, .ref q58, .ref q66, .ref q74, .ref q82, .ref q91, .ref q100, .null, .int 0, .null, .int 0, .null, .null, .null, .null, .null, .int 0, .null, .null])) = H12 from hH12]
  clear hH12 s11 E11 hx11 nx100 hq100
  refine z_aload_n C d_MM_init_105 rfl rfl ?_
  refine z_sipush (v := 2400) C d_MM_init_106 (by decide) ?_
  refine z_newaZ (N0 := 2400) C d_MM_init_109 k_678 (zC_Z C) (by decide) (by decide) (by decide) (by first | decide | omega) (by first | decide | omega) (fun q109 hq109 => ?_)
  have nx109 : x ≠ q109 := fun z => by rw [z, hq109] at hx12; cases hx12
  refine z_putF (ci := 8) (T := T_MM) (N := 29) (ty := .array .boolean) C d_MM_init_111 hname 17 ty_MM t_MM n_MM i_MM rfl (by decide) k_764 (fun _ q => q) rfl rfl (by decide +kernel) (by rfl) (by rfl) ((zu_n nx109).trans hx12) (by exact Nat.le_of_ble_eq_true rfl) ?_
  dsimp only [List.set]
  have E13 := E12.st (t := (0, 12 + 1)) (A := mmA g 12 (fun _ => 0)) (X := .inr (8, [.int 0, .int 0, .int 0, .ref q7, .int 0, .ref q16, .ref q25, .ref q34, .int 0, .ref q42, .ref q50, .ref q58, .ref q66, .ref q74, .ref q82, .ref q91, .ref q100, .ref q109, .int 0, .null, .int 0, .null, .null, .null, .null, .null, .int 0, .null, .null])) hq109
  have s13 := s12.step hq109 (zne hx12) (.inr (8, [.int 0, .int 0, .int 0, .ref q7, .int 0, .ref q16, .ref q25, .ref q34, .int 0, .ref q42, .ref q50, .ref q58, .ref q66, .ref q74, .ref q82, .ref q91, .ref q100, .ref q109, .int 0, .null, .int 0, .null, .null, .null, .null, .null, .int 0, .null, .null]))
  have hx13 : zu (zu H12 q109 (mmA g 12 (fun _ => 0))) x (.inr (8, [.int 0, .int 0, .int 0, .ref q7, .int 0, .ref q16, .ref q25, .ref q34, .int 0, .ref q42, .ref q50, .ref q58, .ref q66, .ref q74, .ref q82, .ref q91, .ref q100, .ref q109, .int 0, .null, .int 0, .null, .null, .null, .null, .null, .int 0, .null, .null])) x = some (.inr (8, [.int 0, .int 0, .int 0, .ref q7, .int 0, .ref q16, .ref q25, .ref q34, .int 0, .ref q42, .ref q50, .ref q58, .ref q66, .ref q74, .ref q82, .ref q91, .ref q100, .ref q109, .int 0, .null, .int 0, .null, .null, .null, .null, .null, .int 0, .null, .null])) := zu_s
  generalize hH13 : zu (zu H12 q109 (mmA g 12 (fun _ => 0))) x (.inr (8, [.int 0, .int 0, .int 0, .ref q7, .int 0, .ref q16, .ref q25, .ref q34, .int 0, .ref q42, .ref q50, .ref q58, .ref q66, .ref q74, .ref q82, .ref q91, .ref q100, .ref q109, .int 0, .null, .int 0, .null, .null, .null, .null, .null, .int 0, .null, .null])) = H13 at E13 s13 hx13
  generalize tg T12 q109 (0, 12 + 1) = T13 at E13 s13
  rw [show zu (zu H12 q109 (.inl (g.ca 1, 2400, .inl (fun _ => 0)))) x (.inr (8, [.int 0, .int 0, .int 0, .ref q7, .int 0, .ref q16, .ref q25, .ref q34, .int 0, .ref q42, .ref q50, .ref q58, .ref q66, .ref q74, .ref q82, .ref q91, .ref q100, .ref q109, .int 0, .null, .int 0, .null, .null, .null, .null, .null, .int 0, .null, .null])) = H13 from hH13]
  clear hH13 s12 E12 hx12 nx109 hq109
  refine z_aload_n C d_MM_init_114 rfl rfl ?_
  refine z_sipush (v := 400) C d_MM_init_115 (by decide) ?_
  refine z_newaI (N0 := 400) C d_MM_init_118 k_59 (zC_I C) (by decide) (by decide) (by decide) (by first | decide | omega) (by first | decide | omega) (fun q118 hq118 => ?_)
  have nx118 : x ≠ q118 := fun z => by rw [z, hq118] at hx13; cases hx13
  refine z_putF (ci := 8) (T := T_MM) (N := 29) (ty := .array .int) C d_MM_init_120 hname 19 ty_MM t_MM n_MM i_MM rfl (by decide) k_766 (fun _ q => q) rfl rfl (by decide +kernel) (by rfl) (by rfl) ((zu_n nx118).trans hx13) (by exact Nat.le_of_ble_eq_true rfl) ?_
  dsimp only [List.set]
  have E14 := E13.st (t := (0, 13 + 1)) (A := mmA g 13 (fun _ => 0)) (X := .inr (8, [.int 0, .int 0, .int 0, .ref q7, .int 0, .ref q16, .ref q25, .ref q34, .int 0, .ref q42, .ref q50, .ref q58, .ref q66, .ref q74, .ref q82, .ref q91, .ref q100, .ref q109, .int 0, .ref q118, .int 0, .null, .null, .null, .null, .null, .int 0, .null, .null])) hq118
  have s14 := s13.step hq118 (zne hx13) (.inr (8, [.int 0, .int 0, .int 0, .ref q7, .int 0, .ref q16, .ref q25, .ref q34, .int 0, .ref q42, .ref q50, .ref q58, .ref q66, .ref q74, .ref q82, .ref q91, .ref q100, .ref q109, .int 0, .ref q118, .int 0, .null, .null, .null, .null, .null, .int 0, .null, .null]))
  have hx14 : zu (zu H13 q118 (mmA g 13 (fun _ => 0))) x (.inr (8, [.int 0, .int 0, .int 0, .ref q7, .int 0, .ref q16, .ref q25, .ref q34, .int 0, .ref q42, .ref q50, .ref q58, .ref q66, .ref q74, .ref q82, .ref q91, .ref q100, .ref q109, .int 0, .ref q118, .int 0, .null, .null, .null, .null, .null, .int 0, .null, .null])) x = some (.inr (8, [.int 0, .int 0, .int 0, .ref q7, .int 0, .ref q16, .ref q25, .ref q34, .int 0, .ref q42, .ref q50, .ref q58, .ref q66, .ref q74, .ref q82, .ref q91, .ref q100, .ref q109, .int 0, .ref q118, .int 0, .null, .null, .null, .null, .null, .int 0, .null, .null])) := zu_s
  generalize hH14 : zu (zu H13 q118 (mmA g 13 (fun _ => 0))) x (.inr (8, [.int 0, .int 0, .int 0, .ref q7, .int 0, .ref q16, .ref q25, .ref q34, .int 0, .ref q42, .ref q50, .ref q58, .ref q66, .ref q74, .ref q82, .ref q91, .ref q100, .ref q109, .int 0, .ref q118, .int 0, .null, .null, .null, .null, .null, .int 0, .null, .null])) = H14 at E14 s14 hx14
  generalize tg T13 q118 (0, 13 + 1) = T14 at E14 s14
  rw [show zu (zu H13 q118 (.inl (g.ca 0, 400, .inl (fun _ => 0)))) x (.inr (8, [.int 0, .int 0, .int 0, .ref q7, .int 0, .ref q16, .ref q25, .ref q34, .int 0, .ref q42, .ref q50, .ref q58, .ref q66, .ref q74, .ref q82, .ref q91, .ref q100, .ref q109, .int 0, .ref q118, .int 0, .null, .null, .null, .null, .null, .int 0, .null, .null])) = H14 from hH14]
  clear hH14 s13 E13 hx13 nx118 hq118
  refine z_aload_n C d_MM_init_123 rfl rfl ?_
  refine z_bipush (v := 30) C d_MM_init_124 (by decide) ?_
  refine z_newaZ (N0 := 30) C d_MM_init_126 k_678 (zC_Z C) (by decide) (by decide) (by decide) (by first | decide | omega) (by first | decide | omega) (fun q126 hq126 => ?_)
  have nx126 : x ≠ q126 := fun z => by rw [z, hq126] at hx14; cases hx14
  refine z_putF (ci := 8) (T := T_MM) (N := 29) (ty := .array .boolean) C d_MM_init_128 hname 21 ty_MM t_MM n_MM i_MM rfl (by decide) k_768 (fun _ q => q) rfl rfl (by decide +kernel) (by rfl) (by rfl) ((zu_n nx126).trans hx14) (by exact Nat.le_of_ble_eq_true rfl) ?_
  dsimp only [List.set]
  have E15 := E14.st (t := (0, 14 + 1)) (A := mmA g 14 (fun _ => 0)) (X := .inr (8, [.int 0, .int 0, .int 0, .ref q7, .int 0, .ref q16, .ref q25, .ref q34, .int 0, .ref q42, .ref q50, .ref q58, .ref q66, .ref q74, .ref q82, .ref q91, .ref q100, .ref q109, .int 0, .ref q118, .int 0, .ref q126, .null, .null, .null, .null, .int 0, .null, .null])) hq126
  have s15 := s14.step hq126 (zne hx14) (.inr (8, [.int 0, .int 0, .int 0, .ref q7, .int 0, .ref q16, .ref q25, .ref q34, .int 0, .ref q42, .ref q50, .ref q58, .ref q66, .ref q74, .ref q82, .ref q91, .ref q100, .ref q109, .int 0, .ref q118, .int 0, .ref q126, .null, .null, .null, .null, .int 0, .null, .null]))
  have hx15 : zu (zu H14 q126 (mmA g 14 (fun _ => 0))) x (.inr (8, [.int 0, .int 0, .int 0, .ref q7, .int 0, .ref q16, .ref q25, .ref q34, .int 0, .ref q42, .ref q50, .ref q58, .ref q66, .ref q74, .ref q82, .ref q91, .ref q100, .ref q109, .int 0, .ref q118, .int 0, .ref q126, .null, .null, .null, .null, .int 0, .null, .null])) x = some (.inr (8, [.int 0, .int 0, .int 0, .ref q7, .int 0, .ref q16, .ref q25, .ref q34, .int 0, .ref q42, .ref q50, .ref q58, .ref q66, .ref q74, .ref q82, .ref q91, .ref q100, .ref q109, .int 0, .ref q118, .int 0, .ref q126, .null, .null, .null, .null, .int 0, .null, .null])) := zu_s
  generalize hH15 : zu (zu H14 q126 (mmA g 14 (fun _ => 0))) x (.inr (8, [.int 0, .int 0, .int 0, .ref q7, .int 0, .ref q16, .ref q25, .ref q34, .int 0, .ref q42, .ref q50, .ref q58, .ref q66, .ref q74, .ref q82, .ref q91, .ref q100, .ref q109, .int 0, .ref q118, .int 0, .ref q126, .null, .null, .null, .null, .int 0, .null, .null])) = H15 at E15 s15 hx15
  generalize tg T14 q126 (0, 14 + 1) = T15 at E15 s15
  rw [show zu (zu H14 q126 (.inl (g.ca 1, 30, .inl (fun _ => 0)))) x (.inr (8, [.int 0, .int 0, .int 0, .ref q7, .int 0, .ref q16, .ref q25, .ref q34, .int 0, .ref q42, .ref q50, .ref q58, .ref q66, .ref q74, .ref q82, .ref q91, .ref q100, .ref q109, .int 0, .ref q118, .int 0, .ref q126, .null, .null, .null, .null, .int 0, .null, .null])) = H15 from hH15]
  clear hH15 s14 E14 hx14 nx126 hq126
  refine z_aload_n C d_MM_init_131 rfl rfl ?_
  refine z_bipush (v := 30) C d_MM_init_132 (by decide) ?_
  refine z_newaI (N0 := 30) C d_MM_init_134 k_59 (zC_I C) (by decide) (by decide) (by decide) (by first | decide | omega) (by first | decide | omega) (fun q134 hq134 => ?_)
  have nx134 : x ≠ q134 := fun z => by rw [z, hq134] at hx15; cases hx15
  refine z_putF (ci := 8) (T := T_MM) (N := 29) (ty := .array .int) C d_MM_init_136 hname 22 ty_MM t_MM n_MM i_MM rfl (by decide) k_769 (fun _ q => q) rfl rfl (by decide +kernel) (by rfl) (by rfl) ((zu_n nx134).trans hx15) (by exact Nat.le_of_ble_eq_true rfl) ?_
  dsimp only [List.set]
  have E16 := E15.st (t := (0, 15 + 1)) (A := mmA g 15 (fun _ => 0)) (X := .inr (8, [.int 0, .int 0, .int 0, .ref q7, .int 0, .ref q16, .ref q25, .ref q34, .int 0, .ref q42, .ref q50, .ref q58, .ref q66, .ref q74, .ref q82, .ref q91, .ref q100, .ref q109, .int 0, .ref q118, .int 0, .ref q126, .ref q134, .null, .null, .null, .int 0, .null, .null])) hq134
  have s16 := s15.step hq134 (zne hx15) (.inr (8, [.int 0, .int 0, .int 0, .ref q7, .int 0, .ref q16, .ref q25, .ref q34, .int 0, .ref q42, .ref q50, .ref q58, .ref q66, .ref q74, .ref q82, .ref q91, .ref q100, .ref q109, .int 0, .ref q118, .int 0, .ref q126, .ref q134, .null, .null, .null, .int 0, .null, .null]))
  have hx16 : zu (zu H15 q134 (mmA g 15 (fun _ => 0))) x (.inr (8, [.int 0, .int 0, .int 0, .ref q7, .int 0, .ref q16, .ref q25, .ref q34, .int 0, .ref q42, .ref q50, .ref q58, .ref q66, .ref q74, .ref q82, .ref q91, .ref q100, .ref q109, .int 0, .ref q118, .int 0, .ref q126, .ref q134, .null, .null, .null, .int 0, .null, .null])) x = some (.inr (8, [.int 0, .int 0, .int 0, .ref q7, .int 0, .ref q16, .ref q25, .ref q34, .int 0, .ref q42, .ref q50, .ref q58, .ref q66, .ref q74, .ref q82, .ref q91, .ref q100, .ref q109, .int 0, .ref q118, .int 0, .ref q126, .ref q134, .null, .null, .null, .int 0, .null, .null])) := zu_s
  generalize hH16 : zu (zu H15 q134 (mmA g 15 (fun _ => 0))) x (.inr (8, [.int 0, .int 0, .int 0, .ref q7, .int 0, .ref q16, .ref q25, .ref q34, .int 0, .ref q42, .ref q50, .ref q58, .ref q66, .ref q74, .ref q82, .ref q91, .ref q100, .ref q109, .int 0, .ref q118, .int 0, .ref q126, .ref q134, .null, .null, .null, .int 0, .null, .null])) = H16 at E16 s16 hx16
  generalize tg T15 q134 (0, 15 + 1) = T16 at E16 s16
  rw [show zu (zu H15 q134 (.inl (g.ca 0, 30, .inl (fun _ => 0)))) x (.inr (8, [.int 0, .int 0, .int 0, .ref q7, .int 0, .ref q16, .ref q25, .ref q34, .int 0, .ref q42, .ref q50, .ref q58, .ref q66, .ref q74, .ref q82, .ref q91, .ref q100, .ref q109, .int 0, .ref q118, .int 0, .ref q126, .ref q134, .null, .null, .null, .int 0, .null, .null])) = H16 from hH16]
  clear hH16 s15 E15 hx15 nx134 hq134
  refine z_aload_n C d_MM_init_139 rfl rfl ?_
  refine z_bipush (v := 30) C d_MM_init_140 (by decide) ?_
  refine z_newaI (N0 := 30) C d_MM_init_142 k_59 (zC_I C) (by decide) (by decide) (by decide) (by first | decide | omega) (by first | decide | omega) (fun q142 hq142 => ?_)
  have nx142 : x ≠ q142 := fun z => by rw [z, hq142] at hx16; cases hx16
  refine z_putF (ci := 8) (T := T_MM) (N := 29) (ty := .array .int) C d_MM_init_144 hname 23 ty_MM t_MM n_MM i_MM rfl (by decide) k_770 (fun _ q => q) rfl rfl (by decide +kernel) (by rfl) (by rfl) ((zu_n nx142).trans hx16) (by exact Nat.le_of_ble_eq_true rfl) ?_
  dsimp only [List.set]
  have E17 := E16.st (t := (0, 16 + 1)) (A := mmA g 16 (fun _ => 0)) (X := .inr (8, [.int 0, .int 0, .int 0, .ref q7, .int 0, .ref q16, .ref q25, .ref q34, .int 0, .ref q42, .ref q50, .ref q58, .ref q66, .ref q74, .ref q82, .ref q91, .ref q100, .ref q109, .int 0, .ref q118, .int 0, .ref q126, .ref q134, .ref q142, .null, .null, .int 0, .null, .null])) hq142
  have s17 := s16.step hq142 (zne hx16) (.inr (8, [.int 0, .int 0, .int 0, .ref q7, .int 0, .ref q16, .ref q25, .ref q34, .int 0, .ref q42, .ref q50, .ref q58, .ref q66, .ref q74, .ref q82, .ref q91, .ref q100, .ref q109, .int 0, .ref q118, .int 0, .ref q126, .ref q134, .ref q142, .null, .null, .int 0, .null, .null]))
  have hx17 : zu (zu H16 q142 (mmA g 16 (fun _ => 0))) x (.inr (8, [.int 0, .int 0, .int 0, .ref q7, .int 0, .ref q16, .ref q25, .ref q34, .int 0, .ref q42, .ref q50, .ref q58, .ref q66, .ref q74, .ref q82, .ref q91, .ref q100, .ref q109, .int 0, .ref q118, .int 0, .ref q126, .ref q134, .ref q142, .null, .null, .int 0, .null, .null])) x = some (.inr (8, [.int 0, .int 0, .int 0, .ref q7, .int 0, .ref q16, .ref q25, .ref q34, .int 0, .ref q42, .ref q50, .ref q58, .ref q66, .ref q74, .ref q82, .ref q91, .ref q100, .ref q109, .int 0, .ref q118, .int 0, .ref q126, .ref q134, .ref q142, .null, .null, .int 0, .null, .null])) := zu_s
  generalize hH17 : zu (zu H16 q142 (mmA g 16 (fun _ => 0))) x (.inr (8, [.int 0, .int 0, .int 0, .ref q7, .int 0, .ref q16, .ref q25, .ref q34, .int 0, .ref q42, .ref q50, .ref q58, .ref q66, .ref q74, .ref q82, .ref q91, .ref q100, .ref q109, .int 0, .ref q118, .int 0, .ref q126, .ref q134, .ref q142, .null, .null, .int 0, .null, .null])) = H17 at E17 s17 hx17
  generalize tg T16 q142 (0, 16 + 1) = T17 at E17 s17
  rw [show zu (zu H16 q142 (.inl (g.ca 0, 30, .inl (fun _ => 0)))) x (.inr (8, [.int 0, .int 0, .int 0, .ref q7, .int 0, .ref q16, .ref q25, .ref q34, .int 0, .ref q42, .ref q50, .ref q58, .ref q66, .ref q74, .ref q82, .ref q91, .ref q100, .ref q109, .int 0, .ref q118, .int 0, .ref q126, .ref q134, .ref q142, .null, .null, .int 0, .null, .null])) = H17 from hH17]
  clear hH17 s16 E16 hx16 nx142 hq142
  refine z_aload_n C d_MM_init_147 rfl rfl ?_
  refine z_bipush (v := 30) C d_MM_init_148 (by decide) ?_
  refine z_newaI (N0 := 30) C d_MM_init_150 k_59 (zC_I C) (by decide) (by decide) (by decide) (by first | decide | omega) (by first | decide | omega) (fun q150 hq150 => ?_)
  have nx150 : x ≠ q150 := fun z => by rw [z, hq150] at hx17; cases hx17
  refine z_putF (ci := 8) (T := T_MM) (N := 29) (ty := .array .int) C d_MM_init_152 hname 24 ty_MM t_MM n_MM i_MM rfl (by decide) k_771 (fun _ q => q) rfl rfl (by decide +kernel) (by rfl) (by rfl) ((zu_n nx150).trans hx17) (by exact Nat.le_of_ble_eq_true rfl) ?_
  dsimp only [List.set]
  have E18 := E17.st (t := (0, 17 + 1)) (A := mmA g 17 (fun _ => 0)) (X := .inr (8, [.int 0, .int 0, .int 0, .ref q7, .int 0, .ref q16, .ref q25, .ref q34, .int 0, .ref q42, .ref q50, .ref q58, .ref q66, .ref q74, .ref q82, .ref q91, .ref q100, .ref q109, .int 0, .ref q118, .int 0, .ref q126, .ref q134, .ref q142, .ref q150, .null, .int 0, .null, .null])) hq150
  have s18 := s17.step hq150 (zne hx17) (.inr (8, [.int 0, .int 0, .int 0, .ref q7, .int 0, .ref q16, .ref q25, .ref q34, .int 0, .ref q42, .ref q50, .ref q58, .ref q66, .ref q74, .ref q82, .ref q91, .ref q100, .ref q109, .int 0, .ref q118, .int 0, .ref q126, .ref q134, .ref q142, .ref q150, .null, .int 0, .null, .null]))
  have hx18 : zu (zu H17 q150 (mmA g 17 (fun _ => 0))) x (.inr (8, [.int 0, .int 0, .int 0, .ref q7, .int 0, .ref q16, .ref q25, .ref q34, .int 0, .ref q42, .ref q50, .ref q58, .ref q66, .ref q74, .ref q82, .ref q91, .ref q100, .ref q109, .int 0, .ref q118, .int 0, .ref q126, .ref q134, .ref q142, .ref q150, .null, .int 0, .null, .null])) x = some (.inr (8, [.int 0, .int 0, .int 0, .ref q7, .int 0, .ref q16, .ref q25, .ref q34, .int 0, .ref q42, .ref q50, .ref q58, .ref q66, .ref q74, .ref q82, .ref q91, .ref q100, .ref q109, .int 0, .ref q118, .int 0, .ref q126, .ref q134, .ref q142, .ref q150, .null, .int 0, .null, .null])) := zu_s
  generalize hH18 : zu (zu H17 q150 (mmA g 17 (fun _ => 0))) x (.inr (8, [.int 0, .int 0, .int 0, .ref q7, .int 0, .ref q16, .ref q25, .ref q34, .int 0, .ref q42, .ref q50, .ref q58, .ref q66, .ref q74, .ref q82, .ref q91, .ref q100, .ref q109, .int 0, .ref q118, .int 0, .ref q126, .ref q134, .ref q142, .ref q150, .null, .int 0, .null, .null])) = H18 at E18 s18 hx18
  generalize tg T17 q150 (0, 17 + 1) = T18 at E18 s18
  rw [show zu (zu H17 q150 (.inl (g.ca 0, 30, .inl (fun _ => 0)))) x (.inr (8, [.int 0, .int 0, .int 0, .ref q7, .int 0, .ref q16, .ref q25, .ref q34, .int 0, .ref q42, .ref q50, .ref q58, .ref q66, .ref q74, .ref q82, .ref q91, .ref q100, .ref q109, .int 0, .ref q118, .int 0, .ref q126, .ref q134, .ref q142, .ref q150, .null, .int 0, .null, .null])) = H18 from hH18]
  clear hH18 s17 E17 hx17 nx150 hq150
  refine z_aload_n C d_MM_init_155 rfl rfl ?_
  refine z_bipush (v := 30) C d_MM_init_156 (by decide) ?_
  refine z_newaI (N0 := 30) C d_MM_init_158 k_59 (zC_I C) (by decide) (by decide) (by decide) (by first | decide | omega) (by first | decide | omega) (fun q158 hq158 => ?_)
  have nx158 : x ≠ q158 := fun z => by rw [z, hq158] at hx18; cases hx18
  refine z_putF (ci := 8) (T := T_MM) (N := 29) (ty := .array .int) C d_MM_init_160 hname 25 ty_MM t_MM n_MM i_MM rfl (by decide) k_772 (fun _ q => q) rfl rfl (by decide +kernel) (by rfl) (by rfl) ((zu_n nx158).trans hx18) (by exact Nat.le_of_ble_eq_true rfl) ?_
  dsimp only [List.set]
  have E19 := E18.st (t := (0, 18 + 1)) (A := mmA g 18 (fun _ => 0)) (X := .inr (8, [.int 0, .int 0, .int 0, .ref q7, .int 0, .ref q16, .ref q25, .ref q34, .int 0, .ref q42, .ref q50, .ref q58, .ref q66, .ref q74, .ref q82, .ref q91, .ref q100, .ref q109, .int 0, .ref q118, .int 0, .ref q126, .ref q134, .ref q142, .ref q150, .ref q158, .int 0, .null, .null])) hq158
  have s19 := s18.step hq158 (zne hx18) (.inr (8, [.int 0, .int 0, .int 0, .ref q7, .int 0, .ref q16, .ref q25, .ref q34, .int 0, .ref q42, .ref q50, .ref q58, .ref q66, .ref q74, .ref q82, .ref q91, .ref q100, .ref q109, .int 0, .ref q118, .int 0, .ref q126, .ref q134, .ref q142, .ref q150, .ref q158, .int 0, .null, .null]))
  have hx19 : zu (zu H18 q158 (mmA g 18 (fun _ => 0))) x (.inr (8, [.int 0, .int 0, .int 0, .ref q7, .int 0, .ref q16, .ref q25, .ref q34, .int 0, .ref q42, .ref q50, .ref q58, .ref q66, .ref q74, .ref q82, .ref q91, .ref q100, .ref q109, .int 0, .ref q118, .int 0, .ref q126, .ref q134, .ref q142, .ref q150, .ref q158, .int 0, .null, .null])) x = some (.inr (8, [.int 0, .int 0, .int 0, .ref q7, .int 0, .ref q16, .ref q25, .ref q34, .int 0, .ref q42, .ref q50, .ref q58, .ref q66, .ref q74, .ref q82, .ref q91, .ref q100, .ref q109, .int 0, .ref q118, .int 0, .ref q126, .ref q134, .ref q142, .ref q150, .ref q158, .int 0, .null, .null])) := zu_s
  generalize hH19 : zu (zu H18 q158 (mmA g 18 (fun _ => 0))) x (.inr (8, [.int 0, .int 0, .int 0, .ref q7, .int 0, .ref q16, .ref q25, .ref q34, .int 0, .ref q42, .ref q50, .ref q58, .ref q66, .ref q74, .ref q82, .ref q91, .ref q100, .ref q109, .int 0, .ref q118, .int 0, .ref q126, .ref q134, .ref q142, .ref q150, .ref q158, .int 0, .null, .null])) = H19 at E19 s19 hx19
  generalize tg T18 q158 (0, 18 + 1) = T19 at E19 s19
  rw [show zu (zu H18 q158 (.inl (g.ca 0, 30, .inl (fun _ => 0)))) x (.inr (8, [.int 0, .int 0, .int 0, .ref q7, .int 0, .ref q16, .ref q25, .ref q34, .int 0, .ref q42, .ref q50, .ref q58, .ref q66, .ref q74, .ref q82, .ref q91, .ref q100, .ref q109, .int 0, .ref q118, .int 0, .ref q126, .ref q134, .ref q142, .ref q150, .ref q158, .int 0, .null, .null])) = H19 from hH19]
  clear hH19 s18 E18 hx18 nx158 hq158
  refine z_aload_n C d_MM_init_163 rfl rfl ?_
  refine z_bipush (v := 20) C d_MM_init_164 (by decide) ?_
  refine z_newaI (N0 := 20) C d_MM_init_166 k_59 (zC_I C) (by decide) (by decide) (by decide) (by first | decide | omega) (by first | decide | omega) (fun q166 hq166 => ?_)
  have nx166 : x ≠ q166 := fun z => by rw [z, hq166] at hx19; cases hx19
  refine z_putF (ci := 8) (T := T_MM) (N := 29) (ty := .array .int) C d_MM_init_168 hname 27 ty_MM t_MM n_MM i_MM rfl (by decide) k_774 (fun _ q => q) rfl rfl (by decide +kernel) (by rfl) (by rfl) ((zu_n nx166).trans hx19) (by exact Nat.le_of_ble_eq_true rfl) ?_
  dsimp only [List.set]
  have E20 := E19.st (t := (0, 19 + 1)) (A := mmA g 19 (fun _ => 0)) (X := .inr (8, [.int 0, .int 0, .int 0, .ref q7, .int 0, .ref q16, .ref q25, .ref q34, .int 0, .ref q42, .ref q50, .ref q58, .ref q66, .ref q74, .ref q82, .ref q91, .ref q100, .ref q109, .int 0, .ref q118, .int 0, .ref q126, .ref q134, .ref q142, .ref q150, .ref q158, .int 0, .ref q166, .null])) hq166
  have s20 := s19.step hq166 (zne hx19) (.inr (8, [.int 0, .int 0, .int 0, .ref q7, .int 0, .ref q16, .ref q25, .ref q34, .int 0, .ref q42, .ref q50, .ref q58, .ref q66, .ref q74, .ref q82, .ref q91, .ref q100, .ref q109, .int 0, .ref q118, .int 0, .ref q126, .ref q134, .ref q142, .ref q150, .ref q158, .int 0, .ref q166, .null]))
  have hx20 : zu (zu H19 q166 (mmA g 19 (fun _ => 0))) x (.inr (8, [.int 0, .int 0, .int 0, .ref q7, .int 0, .ref q16, .ref q25, .ref q34, .int 0, .ref q42, .ref q50, .ref q58, .ref q66, .ref q74, .ref q82, .ref q91, .ref q100, .ref q109, .int 0, .ref q118, .int 0, .ref q126, .ref q134, .ref q142, .ref q150, .ref q158, .int 0, .ref q166, .null])) x = some (.inr (8, [.int 0, .int 0, .int 0, .ref q7, .int 0, .ref q16, .ref q25, .ref q34, .int 0, .ref q42, .ref q50, .ref q58, .ref q66, .ref q74, .ref q82, .ref q91, .ref q100, .ref q109, .int 0, .ref q118, .int 0, .ref q126, .ref q134, .ref q142, .ref q150, .ref q158, .int 0, .ref q166, .null])) := zu_s
  generalize hH20 : zu (zu H19 q166 (mmA g 19 (fun _ => 0))) x (.inr (8, [.int 0, .int 0, .int 0, .ref q7, .int 0, .ref q16, .ref q25, .ref q34, .int 0, .ref q42, .ref q50, .ref q58, .ref q66, .ref q74, .ref q82, .ref q91, .ref q100, .ref q109, .int 0, .ref q118, .int 0, .ref q126, .ref q134, .ref q142, .ref q150, .ref q158, .int 0, .ref q166, .null])) = H20 at E20 s20 hx20
  generalize tg T19 q166 (0, 19 + 1) = T20 at E20 s20
  rw [show zu (zu H19 q166 (.inl (g.ca 0, 20, .inl (fun _ => 0)))) x (.inr (8, [.int 0, .int 0, .int 0, .ref q7, .int 0, .ref q16, .ref q25, .ref q34, .int 0, .ref q42, .ref q50, .ref q58, .ref q66, .ref q74, .ref q82, .ref q91, .ref q100, .ref q109, .int 0, .ref q118, .int 0, .ref q126, .ref q134, .ref q142, .ref q150, .ref q158, .int 0, .ref q166, .null])) = H20 from hH20]
  clear hH20 s19 E19 hx19 nx166 hq166
  refine z_aload_n C d_MM_init_171 rfl rfl ?_
  refine z_sipush (v := 200) C d_MM_init_172 (by decide) ?_
  refine z_newaI (N0 := 200) C d_MM_init_175 k_59 (zC_I C) (by decide) (by decide) (by decide) (by first | decide | omega) (by first | decide | omega) (fun q175 hq175 => ?_)
  have nx175 : x ≠ q175 := fun z => by rw [z, hq175] at hx20; cases hx20
  refine z_putF (ci := 8) (T := T_MM) (N := 29) (ty := .array .int) C d_MM_init_177 hname 28 ty_MM t_MM n_MM i_MM rfl (by decide) k_775 (fun _ q => q) rfl rfl (by decide +kernel) (by rfl) (by rfl) ((zu_n nx175).trans hx20) (by exact Nat.le_of_ble_eq_true rfl) ?_
  dsimp only [List.set]
  have E21 := E20.st (t := (0, 20 + 1)) (A := mmA g 20 (fun _ => 0)) (X := .inr (8, [.int 0, .int 0, .int 0, .ref q7, .int 0, .ref q16, .ref q25, .ref q34, .int 0, .ref q42, .ref q50, .ref q58, .ref q66, .ref q74, .ref q82, .ref q91, .ref q100, .ref q109, .int 0, .ref q118, .int 0, .ref q126, .ref q134, .ref q142, .ref q150, .ref q158, .int 0, .ref q166, .ref q175])) hq175
  have s21 := s20.step hq175 (zne hx20) (.inr (8, [.int 0, .int 0, .int 0, .ref q7, .int 0, .ref q16, .ref q25, .ref q34, .int 0, .ref q42, .ref q50, .ref q58, .ref q66, .ref q74, .ref q82, .ref q91, .ref q100, .ref q109, .int 0, .ref q118, .int 0, .ref q126, .ref q134, .ref q142, .ref q150, .ref q158, .int 0, .ref q166, .ref q175]))
  have hx21 : zu (zu H20 q175 (mmA g 20 (fun _ => 0))) x (.inr (8, [.int 0, .int 0, .int 0, .ref q7, .int 0, .ref q16, .ref q25, .ref q34, .int 0, .ref q42, .ref q50, .ref q58, .ref q66, .ref q74, .ref q82, .ref q91, .ref q100, .ref q109, .int 0, .ref q118, .int 0, .ref q126, .ref q134, .ref q142, .ref q150, .ref q158, .int 0, .ref q166, .ref q175])) x = some (.inr (8, [.int 0, .int 0, .int 0, .ref q7, .int 0, .ref q16, .ref q25, .ref q34, .int 0, .ref q42, .ref q50, .ref q58, .ref q66, .ref q74, .ref q82, .ref q91, .ref q100, .ref q109, .int 0, .ref q118, .int 0, .ref q126, .ref q134, .ref q142, .ref q150, .ref q158, .int 0, .ref q166, .ref q175])) := zu_s
  generalize hH21 : zu (zu H20 q175 (mmA g 20 (fun _ => 0))) x (.inr (8, [.int 0, .int 0, .int 0, .ref q7, .int 0, .ref q16, .ref q25, .ref q34, .int 0, .ref q42, .ref q50, .ref q58, .ref q66, .ref q74, .ref q82, .ref q91, .ref q100, .ref q109, .int 0, .ref q118, .int 0, .ref q126, .ref q134, .ref q142, .ref q150, .ref q158, .int 0, .ref q166, .ref q175])) = H21 at E21 s21 hx21
  generalize tg T20 q175 (0, 20 + 1) = T21 at E21 s21
  rw [show zu (zu H20 q175 (.inl (g.ca 0, 200, .inl (fun _ => 0)))) x (.inr (8, [.int 0, .int 0, .int 0, .ref q7, .int 0, .ref q16, .ref q25, .ref q34, .int 0, .ref q42, .ref q50, .ref q58, .ref q66, .ref q74, .ref q82, .ref q91, .ref q100, .ref q109, .int 0, .ref q118, .int 0, .ref q126, .ref q134, .ref q142, .ref q150, .ref q158, .int 0, .ref q166, .ref q175])) = H21 from hH21]
  clear hH21 s20 E20 hx20 nx175 hq175
  refine z_vret C d_MM_init_180 ?_
  refine k H21 T21 _ ⟨?_, s21.1, s21.2⟩ E21
  exact hx21
end ND
