/-! the class's constructor -/
def Ex0 (T : Tg) (h : Hp) (x : Nat) (T1 : Tg) (h1 : Hp) : Prop := ∀ q, h q ≠ none → h1 q ≠ none ∧ (q ≠ x → T1 q = T q ∧ h1 q = h q)
theorem Ex0.st {T TK : Tg} {h hK : Hp} {x q : Nat} {t : Nat × Nat} {A X : va_E} (E : Ex0 T h x TK hK) (hq : hK q = none) : Ex0 T h x (tg TK q t) (zu (zu hK q A) x X) := by
  intro z hz
  obtain ⟨e1, e2⟩ := E z hz
  have n1 : z ≠ q := fun w => e1 (w ▸ hq)
  refine ⟨?_, fun n2 => ⟨(tg_n n1).trans (e2 n2).1, (zu_n n2).trans ((zu_n n1).trans (e2 n2).2)⟩⟩
  by_cases hzx : z = x
  · rw [hzx, zu_s]; exact zsm
  · rw [zu_n hzx, zu_n n1]; exact e1
theorem ls0 {g : zG} {T : Tg} {h : Hp} {kd a : Nat} (h1 : h a = some (.inr (0, [.ref g.ea, .int 0, .int 0]))) (h2 : T a = (kd, 0)) : zLS g T h kd a [] [] :=
  ⟨g.ea, 0, fun _ => none, 0, ⟨h1, by decide, Or.inl ⟨rfl, rfl⟩⟩, h2, Or.inl ⟨rfl, rfl⟩, rfl, fun i y hy => by cases hy⟩
section RW
variable {g : zG} {T : Tg} {h : Hp} {PR : Option Value → Hp → Prop} {PX : String → Hp → Prop}
set_option maxRecDepth 100000 in
theorem ct_AC_init {q : Nat} (k : PR none h) : Ct g y_AC_init w_AC_init 1 0 0 [.ref q] h PR PX := by
  refine Ct_intro (cc := c_AC_init) (nL := 1) (ret := none) (ls := [some (.ref q)]) (by decide) (Nat.le_of_ble_eq_true rfl) rfl rfl ?_
  intro p e R s m args below meth c C ht hname
  refine z_aload_n C d_AC_init_0 rfl rfl ?_
  refine z_obj C d_AC_init_1 k_44 k_31 k_32 (by first | decide | omega) (Nat.le_of_ble_eq_true rfl) ?_
  refine z_vret C d_AC_init_4 ?_
  exact k
set_option maxRecDepth 100000 in
theorem ct_AB_init {q : Nat} {v : Value} {a b : Int32} (h0 : h q = some (.inr (0, [v, .int a, .int b]))) (k : PR none (zu h q (.inr (0, [v, .int a, .int 0])))) : Ct g y_AB_init w_AB_init 2 0 0 [.ref q] h PR PX := by
  refine Ct_intro (cc := c_AB_init) (nL := 1) (ret := none) (ls := [some (.ref q)]) (by decide) (Nat.le_of_ble_eq_true rfl) rfl rfl ?_
  intro p e R s m args below meth c C ht hname
  refine z_aload_n C d_AB_init_0 rfl rfl ?_
  refine z_callI (n := 0) (As := []) (rest := []) (r1 := 1) (mc1 := 0) (ms1 := 0) C d_AB_init_1 k_43 k_41 k_42 k_2 rfl (by decide +kernel) rfl (by decide) (by decide) (Nat.le_of_ble_eq_true rfl) (by first | decide | omega) (by first | decide | omega) rfl ?_
  refine ct_AC_init ?_
  dsimp only [zps]
  refine z_aload_n C d_AB_init_4 rfl rfl ?_
  refine z_iconst (v := 0) C d_AB_init_5 (by decide) ?_
  refine z_put (ci := 0) (T := T_AL) (N := 3) (ty := .int) C d_AB_init_6 2 ty_AL t_AL n_AL i_AL rfl (by decide) k_49 (fun _ q => q) rfl (by decide +kernel) (by rfl) (by rfl) (h0) (by exact Nat.le_of_ble_eq_true rfl) ?_
  dsimp only [List.set]
  refine z_vret C d_AB_init_9 ?_
  exact k
set_option maxRecDepth 100000 in
theorem ct_AL_init {q : Nat} {v : Value} {a b : Int32} (h0 : h q = some (.inr (0, [v, .int a, .int b]))) (k : PR none (zu h q (.inr (0, [.ref g.ea, .int a, .int 0])))) : Ct g y_AL_init w_AL_init 3 0 0 [.ref q] h PR PX := by
  refine Ct_intro (cc := c_AL_init) (nL := 1) (ret := none) (ls := [some (.ref q)]) (by decide) (Nat.le_of_ble_eq_true rfl) rfl rfl ?_
  intro p e R s m args below meth c C ht hname
  refine z_aload_n C d_AL_init_0 rfl rfl ?_
  refine z_callI (n := 0) (As := []) (rest := []) (r1 := 2) (mc1 := 0) (ms1 := 0) C d_AL_init_1 k_40 k_38 k_39 k_3 rfl (by decide +kernel) rfl (by decide) (by decide) (Nat.le_of_ble_eq_true rfl) (by first | decide | omega) (by first | decide | omega) rfl ?_
  refine ct_AB_init h0 ?_
  dsimp only [zps]
  refine z_aload_n C d_AL_init_4 rfl rfl ?_
  refine z_empty C d_AL_init_5 k_45 ?_
  refine z_put (ci := 0) (T := T_AL) (N := 3) (ty := .array (.object "java/lang/Object")) C d_AL_init_8 0 ty_AL t_AL n_AL i_AL rfl (by decide) k_47 (fun _ q => q) rfl (by decide +kernel) (by rfl) (by rfl) (zu_s) (by exact Nat.le_of_ble_eq_true rfl) ?_
  dsimp only [List.set]
  refine z_vret C d_AL_init_11 ?_
  rw [zu_zu]
  exact k
abbrev S0 : CS := (0, fun _ => 0, [], [], [], [], [], [])
set_option maxRecDepth 100000 in
theorem ct_RC_init {x : Nat} (h0 : h x = some (.inr (7, [.null, .null, .null, .null, .null, .null, .null, .int 0]))) (k : ∀ (h1 : Hp) (T1 : Tg), RepC g T1 h1 x S0 → Ex0 T h x T1 h1 → PR none h1) : Ct g y_RC_init w_RC_init 4 7 28 [.ref x] h PR PX := by
  refine Ct_intro (cc := c_RC_init) (nL := 1) (ret := none) (ls := [some (.ref x)]) (by decide) (Nat.le_of_ble_eq_true rfl) rfl rfl ?_
  intro p e R s m args below meth c C ht hname
  have E0 : Ex0 T h x (tg T x (10, 0)) h := fun q hq => ⟨hq, fun n => ⟨tg_n n, rfl⟩⟩
  have t0 : tg T x (10, 0) x = (10, 0) := tg_s
  generalize tg T x (10, 0) = T0 at E0 t0
  refine z_aload_n C d_RC_init_0 rfl rfl ?_
  refine z_obj C d_RC_init_1 k_30 k_31 k_32 (by first | decide | omega) (Nat.le_of_ble_eq_true rfl) ?_
  refine z_aload_n C d_RC_init_4 rfl rfl ?_
  refine z_bipush (v := 10) C d_RC_init_5 (by decide) ?_
  refine z_newaI (N0 := 10) C d_RC_init_7 k_59 (zC_I C) (by decide) (by decide) (by decide) (by first | decide | omega) (by first | decide | omega) (fun q7 hq7 => ?_)
  have nx : x ≠ q7 := fun z => by rw [z, hq7] at h0; cases h0
  refine z_putF (ci := 7) (T := T_RC) (N := 8) (ty := .array .int) C d_RC_init_9 hname 0 ty_RC t_RC n_RC i_RC rfl (by decide) k_60 (fun _ q => q) rfl rfl (by decide +kernel) (by rfl) (by rfl) ((zu_n nx).trans h0) (by exact Nat.le_of_ble_eq_true rfl) ?_
  dsimp only [List.set]
  have E1 := E0.st (t := (10, 1)) (A := ia g 10 (fun _ => 0)) (X := .inr (7, [.ref q7, .null, .null, .null, .null, .null, .null, .int 0])) hq7
  have hg1 : zu (zu h q7 (ia g 10 (fun _ => 0))) x (.inr (7, [.ref q7, .null, .null, .null, .null, .null, .null, .int 0])) q7 = some (ia g 10 (fun _ => 0)) := (zu_n nx.symm).trans zu_s
  have tg1 : tg T0 q7 (10, 1) q7 = (10, 1) := tg_s
  have t1 : tg T0 q7 (10, 1) x = (10, 0) := (tg_n nx).trans t0
  have hx1 : zu (zu h q7 (ia g 10 (fun _ => 0))) x (.inr (7, [.ref q7, .null, .null, .null, .null, .null, .null, .int 0])) x = some (.inr (7, [.ref q7, .null, .null, .null, .null, .null, .null, .int 0])) := zu_s
  generalize zu (zu h q7 (ia g 10 (fun _ => 0))) x (.inr (7, [.ref q7, .null, .null, .null, .null, .null, .null, .int 0])) = H1 at E1 hg1 hx1 ⊢
  generalize tg T0 q7 (10, 1) = T1 at E1 tg1 t1

  refine z_aload_n C d_RC_init_12 rfl rfl ?_
  refine z_new (ci := 0) (fs := [.null, .int 0, .int 0]) (T := T_AL) (N := 3) C d_RC_init_13 ty_AL t_AL i_AL rfl k_33 k_34 k_4 (fun j hj => by rcases (show j = 0 ∨ j = 1 ∨ j = 2 by omega) with rfl | rfl | rfl <;> rfl) (by first | decide | omega) (by first | decide | omega) (fun q13 hq13 => ?_)
  refine z_dup C d_RC_init_16 rfl ?_
  have nx13 : x ≠ q13 := fun z => by rw [z, hq13] at hx1; cases hx1
  refine z_callI (n := 0) (As := []) (rest := [.ref q13, .ref x]) (r1 := 3) (mc1 := 0) (ms1 := 0) C d_RC_init_17 k_37 k_35 k_36 k_4 rfl (by decide +kernel) rfl (by decide) (by decide) (Nat.le_of_ble_eq_true rfl) (by first | decide | omega) (by first | decide | omega) rfl ?_
  refine ct_AL_init zu_s ?_
  dsimp only [zps]
  rw [zu_zu]
  refine z_putF (ci := 7) (T := T_RC) (N := 8) (ty := .object "java/util/ArrayList") C d_RC_init_20 hname 1 ty_RC t_RC n_RC i_RC rfl (by decide) k_61 (fun _ q => q) rfl rfl (by decide +kernel) (by rfl) (by rfl) ((zu_n nx13).trans hx1) (by exact Nat.le_of_ble_eq_true rfl) ?_
  dsimp only [List.set]
  have E2 := E1.st (t := (1, 0)) (A := .inr (0, [.ref g.ea, .int 0, .int 0])) (X := .inr (7, [.ref q7, .ref q13, .null, .null, .null, .null, .null, .int 0])) hq13
  have ngq13 : q7 ≠ q13 := fun z => by rw [← z, hg1] at hq13; cases hq13
  have nxg13 : q7 ≠ x := fun z => by rw [z, t1] at tg1; exact absurd (congrArg Prod.snd tg1) (by decide)
  have hg2 : zu (zu H1 q13 (.inr (0, [.ref g.ea, .int 0, .int 0]))) x (.inr (7, [.ref q7, .ref q13, .null, .null, .null, .null, .null, .int 0])) q7 = some (ia g 10 (fun _ => 0)) := (zu_n nxg13).trans ((zu_n ngq13).trans hg1)
  have tg2 : tg T1 q13 (1, 0) q7 = (10, 1) := (tg_n ngq13).trans tg1
  have t2 : tg T1 q13 (1, 0) x = (10, 0) := (tg_n nx13).trans t1
  have hx2 : zu (zu H1 q13 (.inr (0, [.ref g.ea, .int 0, .int 0]))) x (.inr (7, [.ref q7, .ref q13, .null, .null, .null, .null, .null, .int 0])) x = some (.inr (7, [.ref q7, .ref q13, .null, .null, .null, .null, .null, .int 0])) := zu_s
  have m1_2 : zLS g (tg T1 q13 (1, 0)) (zu (zu H1 q13 (.inr (0, [.ref g.ea, .int 0, .int 0]))) x (.inr (7, [.ref q7, .ref q13, .null, .null, .null, .null, .null, .int 0]))) 1 q13 [] [] := ls0 ((zu_n nx13.symm).trans zu_s) tg_s
  generalize zu (zu H1 q13 (.inr (0, [.ref g.ea, .int 0, .int 0]))) x (.inr (7, [.ref q7, .ref q13, .null, .null, .null, .null, .null, .int 0])) = H2 at E2 hg2 hx2 m1_2 ⊢
  generalize tg T1 q13 (1, 0) = T2 at E2 tg2 t2 m1_2
  refine z_aload_n C d_RC_init_23 rfl rfl ?_
  refine z_new (ci := 0) (fs := [.null, .int 0, .int 0]) (T := T_AL) (N := 3) C d_RC_init_24 ty_AL t_AL i_AL rfl k_33 k_34 k_4 (fun j hj => by rcases (show j = 0 ∨ j = 1 ∨ j = 2 by omega) with rfl | rfl | rfl <;> rfl) (by first | decide | omega) (by first | decide | omega) (fun q24 hq24 => ?_)
  refine z_dup C d_RC_init_27 rfl ?_
  have nx24 : x ≠ q24 := fun z => by rw [z, hq24] at hx2; cases hx2
  refine z_callI (n := 0) (As := []) (rest := [.ref q24, .ref x]) (r1 := 3) (mc1 := 0) (ms1 := 0) C d_RC_init_28 k_37 k_35 k_36 k_4 rfl (by decide +kernel) rfl (by decide) (by decide) (Nat.le_of_ble_eq_true rfl) (by first | decide | omega) (by first | decide | omega) rfl ?_
  refine ct_AL_init zu_s ?_
  dsimp only [zps]
  rw [zu_zu]
  refine z_putF (ci := 7) (T := T_RC) (N := 8) (ty := .object "java/util/ArrayList") C d_RC_init_31 hname 2 ty_RC t_RC n_RC i_RC rfl (by decide) k_62 (fun _ q => q) rfl rfl (by decide +kernel) (by rfl) (by rfl) ((zu_n nx24).trans hx2) (by exact Nat.le_of_ble_eq_true rfl) ?_
  dsimp only [List.set]
  have E3 := E2.st (t := (2, 0)) (A := .inr (0, [.ref g.ea, .int 0, .int 0])) (X := .inr (7, [.ref q7, .ref q13, .ref q24, .null, .null, .null, .null, .int 0])) hq24
  have ngq24 : q7 ≠ q24 := fun z => by rw [← z, hg2] at hq24; cases hq24
  have nxg24 : q7 ≠ x := fun z => by rw [z, t2] at tg2; exact absurd (congrArg Prod.snd tg2) (by decide)
  have hg3 : zu (zu H2 q24 (.inr (0, [.ref g.ea, .int 0, .int 0]))) x (.inr (7, [.ref q7, .ref q13, .ref q24, .null, .null, .null, .null, .int 0])) q7 = some (ia g 10 (fun _ => 0)) := (zu_n nxg24).trans ((zu_n ngq24).trans hg2)
  have tg3 : tg T2 q24 (2, 0) q7 = (10, 1) := (tg_n ngq24).trans tg2
  have t3 : tg T2 q24 (2, 0) x = (10, 0) := (tg_n nx24).trans t2
  have hx3 : zu (zu H2 q24 (.inr (0, [.ref g.ea, .int 0, .int 0]))) x (.inr (7, [.ref q7, .ref q13, .ref q24, .null, .null, .null, .null, .int 0])) x = some (.inr (7, [.ref q7, .ref q13, .ref q24, .null, .null, .null, .null, .int 0])) := zu_s
  have m2_3 : zLS g (tg T2 q24 (2, 0)) (zu (zu H2 q24 (.inr (0, [.ref g.ea, .int 0, .int 0]))) x (.inr (7, [.ref q7, .ref q13, .ref q24, .null, .null, .null, .null, .int 0]))) 2 q24 [] [] := ls0 ((zu_n nx24.symm).trans zu_s) tg_s
  have m1_3 : zLS g (tg T2 q24 (2, 0)) (zu (zu H2 q24 (.inr (0, [.ref g.ea, .int 0, .int 0]))) x (.inr (7, [.ref q7, .ref q13, .ref q24, .null, .null, .null, .null, .int 0]))) 1 q13 [] [] := (m1_2.new hq24).put (tk t3 (by decide))
  generalize zu (zu H2 q24 (.inr (0, [.ref g.ea, .int 0, .int 0]))) x (.inr (7, [.ref q7, .ref q13, .ref q24, .null, .null, .null, .null, .int 0])) = H3 at E3 hg3 hx3 m1_3 m2_3 ⊢
  generalize tg T2 q24 (2, 0) = T3 at E3 tg3 t3 m1_3 m2_3
  refine z_aload_n C d_RC_init_34 rfl rfl ?_
  refine z_new (ci := 0) (fs := [.null, .int 0, .int 0]) (T := T_AL) (N := 3) C d_RC_init_35 ty_AL t_AL i_AL rfl k_33 k_34 k_4 (fun j hj => by rcases (show j = 0 ∨ j = 1 ∨ j = 2 by omega) with rfl | rfl | rfl <;> rfl) (by first | decide | omega) (by first | decide | omega) (fun q35 hq35 => ?_)
  refine z_dup C d_RC_init_38 rfl ?_
  have nx35 : x ≠ q35 := fun z => by rw [z, hq35] at hx3; cases hx3
  refine z_callI (n := 0) (As := []) (rest := [.ref q35, .ref x]) (r1 := 3) (mc1 := 0) (ms1 := 0) C d_RC_init_39 k_37 k_35 k_36 k_4 rfl (by decide +kernel) rfl (by decide) (by decide) (Nat.le_of_ble_eq_true rfl) (by first | decide | omega) (by first | decide | omega) rfl ?_
  refine ct_AL_init zu_s ?_
  dsimp only [zps]
  rw [zu_zu]
  refine z_putF (ci := 7) (T := T_RC) (N := 8) (ty := .object "java/util/ArrayList") C d_RC_init_42 hname 3 ty_RC t_RC n_RC i_RC rfl (by decide) k_63 (fun _ q => q) rfl rfl (by decide +kernel) (by rfl) (by rfl) ((zu_n nx35).trans hx3) (by exact Nat.le_of_ble_eq_true rfl) ?_
  dsimp only [List.set]
  have E4 := E3.st (t := (3, 0)) (A := .inr (0, [.ref g.ea, .int 0, .int 0])) (X := .inr (7, [.ref q7, .ref q13, .ref q24, .ref q35, .null, .null, .null, .int 0])) hq35
  have ngq35 : q7 ≠ q35 := fun z => by rw [← z, hg3] at hq35; cases hq35
  have nxg35 : q7 ≠ x := fun z => by rw [z, t3] at tg3; exact absurd (congrArg Prod.snd tg3) (by decide)
  have hg4 : zu (zu H3 q35 (.inr (0, [.ref g.ea, .int 0, .int 0]))) x (.inr (7, [.ref q7, .ref q13, .ref q24, .ref q35, .null, .null, .null, .int 0])) q7 = some (ia g 10 (fun _ => 0)) := (zu_n nxg35).trans ((zu_n ngq35).trans hg3)
  have tg4 : tg T3 q35 (3, 0) q7 = (10, 1) := (tg_n ngq35).trans tg3
  have t4 : tg T3 q35 (3, 0) x = (10, 0) := (tg_n nx35).trans t3
  have hx4 : zu (zu H3 q35 (.inr (0, [.ref g.ea, .int 0, .int 0]))) x (.inr (7, [.ref q7, .ref q13, .ref q24, .ref q35, .null, .null, .null, .int 0])) x = some (.inr (7, [.ref q7, .ref q13, .ref q24, .ref q35, .null, .null, .null, .int 0])) := zu_s
  have m3_4 : zLS g (tg T3 q35 (3, 0)) (zu (zu H3 q35 (.inr (0, [.ref g.ea, .int 0, .int 0]))) x (.inr (7, [.ref q7, .ref q13, .ref q24, .ref q35, .null, .null, .null, .int 0]))) 3 q35 [] [] := ls0 ((zu_n nx35.symm).trans zu_s) tg_s
  have m1_4 : zLS g (tg T3 q35 (3, 0)) (zu (zu H3 q35 (.inr (0, [.ref g.ea, .int 0, .int 0]))) x (.inr (7, [.ref q7, .ref q13, .ref q24, .ref q35, .null, .null, .null, .int 0]))) 1 q13 [] [] := (m1_3.new hq35).put (tk t4 (by decide))
  have m2_4 : zLS g (tg T3 q35 (3, 0)) (zu (zu H3 q35 (.inr (0, [.ref g.ea, .int 0, .int 0]))) x (.inr (7, [.ref q7, .ref q13, .ref q24, .ref q35, .null, .null, .null, .int 0]))) 2 q24 [] [] := (m2_3.new hq35).put (tk t4 (by decide))
  generalize zu (zu H3 q35 (.inr (0, [.ref g.ea, .int 0, .int 0]))) x (.inr (7, [.ref q7, .ref q13, .ref q24, .ref q35, .null, .null, .null, .int 0])) = H4 at E4 hg4 hx4 m1_4 m2_4 m3_4 ⊢
  generalize tg T3 q35 (3, 0) = T4 at E4 tg4 t4 m1_4 m2_4 m3_4
  refine z_aload_n C d_RC_init_45 rfl rfl ?_
  refine z_new (ci := 0) (fs := [.null, .int 0, .int 0]) (T := T_AL) (N := 3) C d_RC_init_46 ty_AL t_AL i_AL rfl k_33 k_34 k_4 (fun j hj => by rcases (show j = 0 ∨ j = 1 ∨ j = 2 by omega) with rfl | rfl | rfl <;> rfl) (by first | decide | omega) (by first | decide | omega) (fun q46 hq46 => ?_)
  refine z_dup C d_RC_init_49 rfl ?_
  have nx46 : x ≠ q46 := fun z => by rw [z, hq46] at hx4; cases hx4
  refine z_callI (n := 0) (As := []) (rest := [.ref q46, .ref x]) (r1 := 3) (mc1 := 0) (ms1 := 0) C d_RC_init_50 k_37 k_35 k_36 k_4 rfl (by decide +kernel) rfl (by decide) (by decide) (Nat.le_of_ble_eq_true rfl) (by first | decide | omega) (by first | decide | omega) rfl ?_
  refine ct_AL_init zu_s ?_
  dsimp only [zps]
  rw [zu_zu]
  refine z_putF (ci := 7) (T := T_RC) (N := 8) (ty := .object "java/util/ArrayList") C d_RC_init_53 hname 4 ty_RC t_RC n_RC i_RC rfl (by decide) k_64 (fun _ q => q) rfl rfl (by decide +kernel) (by rfl) (by rfl) ((zu_n nx46).trans hx4) (by exact Nat.le_of_ble_eq_true rfl) ?_
  dsimp only [List.set]
  have E5 := E4.st (t := (4, 0)) (A := .inr (0, [.ref g.ea, .int 0, .int 0])) (X := .inr (7, [.ref q7, .ref q13, .ref q24, .ref q35, .ref q46, .null, .null, .int 0])) hq46
  have ngq46 : q7 ≠ q46 := fun z => by rw [← z, hg4] at hq46; cases hq46
  have nxg46 : q7 ≠ x := fun z => by rw [z, t4] at tg4; exact absurd (congrArg Prod.snd tg4) (by decide)
  have hg5 : zu (zu H4 q46 (.inr (0, [.ref g.ea, .int 0, .int 0]))) x (.inr (7, [.ref q7, .ref q13, .ref q24, .ref q35, .ref q46, .null, .null, .int 0])) q7 = some (ia g 10 (fun _ => 0)) := (zu_n nxg46).trans ((zu_n ngq46).trans hg4)
  have tg5 : tg T4 q46 (4, 0) q7 = (10, 1) := (tg_n ngq46).trans tg4
  have t5 : tg T4 q46 (4, 0) x = (10, 0) := (tg_n nx46).trans t4
  have hx5 : zu (zu H4 q46 (.inr (0, [.ref g.ea, .int 0, .int 0]))) x (.inr (7, [.ref q7, .ref q13, .ref q24, .ref q35, .ref q46, .null, .null, .int 0])) x = some (.inr (7, [.ref q7, .ref q13, .ref q24, .ref q35, .ref q46, .null, .null, .int 0])) := zu_s
  have m4_5 : zLS g (tg T4 q46 (4, 0)) (zu (zu H4 q46 (.inr (0, [.ref g.ea, .int 0, .int 0]))) x (.inr (7, [.ref q7, .ref q13, .ref q24, .ref q35, .ref q46, .null, .null, .int 0]))) 4 q46 [] [] := ls0 ((zu_n nx46.symm).trans zu_s) tg_s
  have m1_5 : zLS g (tg T4 q46 (4, 0)) (zu (zu H4 q46 (.inr (0, [.ref g.ea, .int 0, .int 0]))) x (.inr (7, [.ref q7, .ref q13, .ref q24, .ref q35, .ref q46, .null, .null, .int 0]))) 1 q13 [] [] := (m1_4.new hq46).put (tk t5 (by decide))
  have m2_5 : zLS g (tg T4 q46 (4, 0)) (zu (zu H4 q46 (.inr (0, [.ref g.ea, .int 0, .int 0]))) x (.inr (7, [.ref q7, .ref q13, .ref q24, .ref q35, .ref q46, .null, .null, .int 0]))) 2 q24 [] [] := (m2_4.new hq46).put (tk t5 (by decide))
  have m3_5 : zLS g (tg T4 q46 (4, 0)) (zu (zu H4 q46 (.inr (0, [.ref g.ea, .int 0, .int 0]))) x (.inr (7, [.ref q7, .ref q13, .ref q24, .ref q35, .ref q46, .null, .null, .int 0]))) 3 q35 [] [] := (m3_4.new hq46).put (tk t5 (by decide))
  generalize zu (zu H4 q46 (.inr (0, [.ref g.ea, .int 0, .int 0]))) x (.inr (7, [.ref q7, .ref q13, .ref q24, .ref q35, .ref q46, .null, .null, .int 0])) = H5 at E5 hg5 hx5 m1_5 m2_5 m3_5 m4_5 ⊢
  generalize tg T4 q46 (4, 0) = T5 at E5 tg5 t5 m1_5 m2_5 m3_5 m4_5
  refine z_aload_n C d_RC_init_56 rfl rfl ?_
  refine z_new (ci := 0) (fs := [.null, .int 0, .int 0]) (T := T_AL) (N := 3) C d_RC_init_57 ty_AL t_AL i_AL rfl k_33 k_34 k_4 (fun j hj => by rcases (show j = 0 ∨ j = 1 ∨ j = 2 by omega) with rfl | rfl | rfl <;> rfl) (by first | decide | omega) (by first | decide | omega) (fun q57 hq57 => ?_)
  refine z_dup C d_RC_init_60 rfl ?_
  have nx57 : x ≠ q57 := fun z => by rw [z, hq57] at hx5; cases hx5
  refine z_callI (n := 0) (As := []) (rest := [.ref q57, .ref x]) (r1 := 3) (mc1 := 0) (ms1 := 0) C d_RC_init_61 k_37 k_35 k_36 k_4 rfl (by decide +kernel) rfl (by decide) (by decide) (Nat.le_of_ble_eq_true rfl) (by first | decide | omega) (by first | decide | omega) rfl ?_
  refine ct_AL_init zu_s ?_
  dsimp only [zps]
  rw [zu_zu]
  refine z_putF (ci := 7) (T := T_RC) (N := 8) (ty := .object "java/util/ArrayList") C d_RC_init_64 hname 5 ty_RC t_RC n_RC i_RC rfl (by decide) k_65 (fun _ q => q) rfl rfl (by decide +kernel) (by rfl) (by rfl) ((zu_n nx57).trans hx5) (by exact Nat.le_of_ble_eq_true rfl) ?_
  dsimp only [List.set]
  have E6 := E5.st (t := (5, 0)) (A := .inr (0, [.ref g.ea, .int 0, .int 0])) (X := .inr (7, [.ref q7, .ref q13, .ref q24, .ref q35, .ref q46, .ref q57, .null, .int 0])) hq57
  have ngq57 : q7 ≠ q57 := fun z => by rw [← z, hg5] at hq57; cases hq57
  have nxg57 : q7 ≠ x := fun z => by rw [z, t5] at tg5; exact absurd (congrArg Prod.snd tg5) (by decide)
  have hg6 : zu (zu H5 q57 (.inr (0, [.ref g.ea, .int 0, .int 0]))) x (.inr (7, [.ref q7, .ref q13, .ref q24, .ref q35, .ref q46, .ref q57, .null, .int 0])) q7 = some (ia g 10 (fun _ => 0)) := (zu_n nxg57).trans ((zu_n ngq57).trans hg5)
  have tg6 : tg T5 q57 (5, 0) q7 = (10, 1) := (tg_n ngq57).trans tg5
  have t6 : tg T5 q57 (5, 0) x = (10, 0) := (tg_n nx57).trans t5
  have hx6 : zu (zu H5 q57 (.inr (0, [.ref g.ea, .int 0, .int 0]))) x (.inr (7, [.ref q7, .ref q13, .ref q24, .ref q35, .ref q46, .ref q57, .null, .int 0])) x = some (.inr (7, [.ref q7, .ref q13, .ref q24, .ref q35, .ref q46, .ref q57, .null, .int 0])) := zu_s
  have m5_6 : zLS g (tg T5 q57 (5, 0)) (zu (zu H5 q57 (.inr (0, [.ref g.ea, .int 0, .int 0]))) x (.inr (7, [.ref q7, .ref q13, .ref q24, .ref q35, .ref q46, .ref q57, .null, .int 0]))) 5 q57 [] [] := ls0 ((zu_n nx57.symm).trans zu_s) tg_s
  have m1_6 : zLS g (tg T5 q57 (5, 0)) (zu (zu H5 q57 (.inr (0, [.ref g.ea, .int 0, .int 0]))) x (.inr (7, [.ref q7, .ref q13, .ref q24, .ref q35, .ref q46, .ref q57, .null, .int 0]))) 1 q13 [] [] := (m1_5.new hq57).put (tk t6 (by decide))
  have m2_6 : zLS g (tg T5 q57 (5, 0)) (zu (zu H5 q57 (.inr (0, [.ref g.ea, .int 0, .int 0]))) x (.inr (7, [.ref q7, .ref q13, .ref q24, .ref q35, .ref q46, .ref q57, .null, .int 0]))) 2 q24 [] [] := (m2_5.new hq57).put (tk t6 (by decide))
  have m3_6 : zLS g (tg T5 q57 (5, 0)) (zu (zu H5 q57 (.inr (0, [.ref g.ea, .int 0, .int 0]))) x (.inr (7, [.ref q7, .ref q13, .ref q24, .ref q35, .ref q46, .ref q57, .null, .int 0]))) 3 q35 [] [] := (m3_5.new hq57).put (tk t6 (by decide))
  have m4_6 : zLS g (tg T5 q57 (5, 0)) (zu (zu H5 q57 (.inr (0, [.ref g.ea, .int 0, .int 0]))) x (.inr (7, [.ref q7, .ref q13, .ref q24, .ref q35, .ref q46, .ref q57, .null, .int 0]))) 4 q46 [] [] := (m4_5.new hq57).put (tk t6 (by decide))
  generalize zu (zu H5 q57 (.inr (0, [.ref g.ea, .int 0, .int 0]))) x (.inr (7, [.ref q7, .ref q13, .ref q24, .ref q35, .ref q46, .ref q57, .null, .int 0])) = H6 at E6 hg6 hx6 m1_6 m2_6 m3_6 m4_6 m5_6 ⊢
  generalize tg T5 q57 (5, 0) = T6 at E6 tg6 t6 m1_6 m2_6 m3_6 m4_6 m5_6
  refine z_aload_n C d_RC_init_67 rfl rfl ?_
  refine z_new (ci := 0) (fs := [.null, .int 0, .int 0]) (T := T_AL) (N := 3) C d_RC_init_68 ty_AL t_AL i_AL rfl k_33 k_34 k_4 (fun j hj => by rcases (show j = 0 ∨ j = 1 ∨ j = 2 by omega) with rfl | rfl | rfl <;> rfl) (by first | decide | omega) (by first | decide | omega) (fun q68 hq68 => ?_)
  refine z_dup C d_RC_init_71 rfl ?_
  have nx68 : x ≠ q68 := fun z => by rw [z, hq68] at hx6; cases hx6
  refine z_callI (n := 0) (As := []) (rest := [.ref q68, .ref x]) (r1 := 3) (mc1 := 0) (ms1 := 0) C d_RC_init_72 k_37 k_35 k_36 k_4 rfl (by decide +kernel) rfl (by decide) (by decide) (Nat.le_of_ble_eq_true rfl) (by first | decide | omega) (by first | decide | omega) rfl ?_
  refine ct_AL_init zu_s ?_
  dsimp only [zps]
  rw [zu_zu]
  refine z_putF (ci := 7) (T := T_RC) (N := 8) (ty := .object "java/util/ArrayList") C d_RC_init_75 hname 6 ty_RC t_RC n_RC i_RC rfl (by decide) k_66 (fun _ q => q) rfl rfl (by decide +kernel) (by rfl) (by rfl) ((zu_n nx68).trans hx6) (by exact Nat.le_of_ble_eq_true rfl) ?_
  dsimp only [List.set]
  have E7 := E6.st (t := (6, 0)) (A := .inr (0, [.ref g.ea, .int 0, .int 0])) (X := .inr (7, [.ref q7, .ref q13, .ref q24, .ref q35, .ref q46, .ref q57, .ref q68, .int 0])) hq68
  have ngq68 : q7 ≠ q68 := fun z => by rw [← z, hg6] at hq68; cases hq68
  have nxg68 : q7 ≠ x := fun z => by rw [z, t6] at tg6; exact absurd (congrArg Prod.snd tg6) (by decide)
  have hg7 : zu (zu H6 q68 (.inr (0, [.ref g.ea, .int 0, .int 0]))) x (.inr (7, [.ref q7, .ref q13, .ref q24, .ref q35, .ref q46, .ref q57, .ref q68, .int 0])) q7 = some (ia g 10 (fun _ => 0)) := (zu_n nxg68).trans ((zu_n ngq68).trans hg6)
  have tg7 : tg T6 q68 (6, 0) q7 = (10, 1) := (tg_n ngq68).trans tg6
  have t7 : tg T6 q68 (6, 0) x = (10, 0) := (tg_n nx68).trans t6
  have hx7 : zu (zu H6 q68 (.inr (0, [.ref g.ea, .int 0, .int 0]))) x (.inr (7, [.ref q7, .ref q13, .ref q24, .ref q35, .ref q46, .ref q57, .ref q68, .int 0])) x = some (.inr (7, [.ref q7, .ref q13, .ref q24, .ref q35, .ref q46, .ref q57, .ref q68, .int 0])) := zu_s
  have m6_7 : zLS g (tg T6 q68 (6, 0)) (zu (zu H6 q68 (.inr (0, [.ref g.ea, .int 0, .int 0]))) x (.inr (7, [.ref q7, .ref q13, .ref q24, .ref q35, .ref q46, .ref q57, .ref q68, .int 0]))) 6 q68 [] [] := ls0 ((zu_n nx68.symm).trans zu_s) tg_s
  have m1_7 : zLS g (tg T6 q68 (6, 0)) (zu (zu H6 q68 (.inr (0, [.ref g.ea, .int 0, .int 0]))) x (.inr (7, [.ref q7, .ref q13, .ref q24, .ref q35, .ref q46, .ref q57, .ref q68, .int 0]))) 1 q13 [] [] := (m1_6.new hq68).put (tk t7 (by decide))
  have m2_7 : zLS g (tg T6 q68 (6, 0)) (zu (zu H6 q68 (.inr (0, [.ref g.ea, .int 0, .int 0]))) x (.inr (7, [.ref q7, .ref q13, .ref q24, .ref q35, .ref q46, .ref q57, .ref q68, .int 0]))) 2 q24 [] [] := (m2_6.new hq68).put (tk t7 (by decide))
  have m3_7 : zLS g (tg T6 q68 (6, 0)) (zu (zu H6 q68 (.inr (0, [.ref g.ea, .int 0, .int 0]))) x (.inr (7, [.ref q7, .ref q13, .ref q24, .ref q35, .ref q46, .ref q57, .ref q68, .int 0]))) 3 q35 [] [] := (m3_6.new hq68).put (tk t7 (by decide))
  have m4_7 : zLS g (tg T6 q68 (6, 0)) (zu (zu H6 q68 (.inr (0, [.ref g.ea, .int 0, .int 0]))) x (.inr (7, [.ref q7, .ref q13, .ref q24, .ref q35, .ref q46, .ref q57, .ref q68, .int 0]))) 4 q46 [] [] := (m4_6.new hq68).put (tk t7 (by decide))
  have m5_7 : zLS g (tg T6 q68 (6, 0)) (zu (zu H6 q68 (.inr (0, [.ref g.ea, .int 0, .int 0]))) x (.inr (7, [.ref q7, .ref q13, .ref q24, .ref q35, .ref q46, .ref q57, .ref q68, .int 0]))) 5 q57 [] [] := (m5_6.new hq68).put (tk t7 (by decide))
  generalize zu (zu H6 q68 (.inr (0, [.ref g.ea, .int 0, .int 0]))) x (.inr (7, [.ref q7, .ref q13, .ref q24, .ref q35, .ref q46, .ref q57, .ref q68, .int 0])) = H7 at E7 hg7 hx7 m1_7 m2_7 m3_7 m4_7 m5_7 m6_7 ⊢
  generalize tg T6 q68 (6, 0) = T7 at E7 tg7 t7 m1_7 m2_7 m3_7 m4_7 m5_7 m6_7
  refine z_aload_n C d_RC_init_78 rfl rfl ?_
  refine z_iconst (v := 0) C d_RC_init_79 (by decide) ?_
  refine z_put (ci := 7) (T := T_RC) (N := 8) (ty := .int) C d_RC_init_80 7 ty_RC t_RC n_RC i_RC rfl (by decide) k_67 (fun _ q => q) rfl (by decide +kernel) (by rfl) (by rfl) (by first | assumption | exact zu_s) (by exact Nat.le_of_ble_eq_true rfl) ?_
  dsimp only [List.set]
  refine z_vret C d_RC_init_83 ?_
  have kp : ∀ (kd : Nat), kd ≠ 10 → ∀ q, H7 q ≠ none → (T7 q).1 = kd → zu H7 x (.inr (7, [.ref q7, .ref q13, .ref q24, .ref q35, .ref q46, .ref q57, .ref q68, .int 0])) q = H7 q := fun kd h8 q hq e => zu_n (fun z => h8 (by rw [← e, z, t7]))
  have hT : ∀ q, H7 q ≠ none → T7 q = T7 q := fun _ _ => rfl
  have nxg : q7 ≠ x := fun z => by rw [z, t7] at tg7; exact absurd (congrArg Prod.snd tg7) (by decide)
  refine k _ T7 ⟨q7, q13, q24, q35, q46, q57, q68, [], [], [], [], [], [], ⟨zu_s, t7⟩, ⟨(zu_n nxg).trans hg7, tg7⟩, m1_7.keep hT (kp 1 (by decide)), m2_7.keep hT (kp 2 (by decide)), m3_7.keep hT (kp 3 (by decide)), m4_7.keep hT (kp 4 (by decide)), m5_7.keep hT (kp 5 (by decide)), m6_7.keep hT (kp 6 (by decide)), (fun i r hr => by cases hr), (fun i r hr => by cases hr), by decide, by decide, by decide, by decide, by decide, by decide⟩ ?_
  intro q hq
  obtain ⟨e1, e2⟩ := E7 q hq
  refine ⟨?_, fun n => ⟨(e2 n).1, (zu_n n).trans (e2 n).2⟩⟩
  by_cases hqx : q = x
  · rw [hqx, zu_s]; exact zsm
  · rw [zu_n hqx]; exact e1
end RW
