/-! THE CLASS'S SMALL OBJECTS -/
abbrev peC (s r k : Int32) : va_E := .inr (1, [.int s, .int r, .int k])
abbrev mvC (p s t : Int32) : va_E := .inr (2, [.int p, .int s, .int t])
abbrev roC (num sec : Int32) (ct : Nat) (rd as co ga gs st mi : Int32) : va_E := .inr (3, [.int num, .int sec, .ref ct, .int rd, .int as, .int co, .int ga, .int gs, .int st, .int mi])
abbrev dcC (p f o r : Int32) : va_E := .inr (4, [.int p, .int f, .int o, .int r])
abbrev mdC (p pl t op tm : Int32) : va_E := .inr (5, [.int p, .int pl, .int t, .int op, .int tm])
abbrev evC (ls : Int32) (mu lt : Nat) (lf told : Int32) : va_E := .inr (6, [.int ls, .ref mu, .ref lt, .int lf, .int told])
abbrev rcC (gu lp lm lr ld ly le : Nat) (sec : Int32) : va_E := .inr (7, [.ref gu, .ref lp, .ref lm, .ref lr, .ref ld, .ref ly, .ref le, .int sec])
theorem zi1 : Int32.ofInt 1 = 1 := by decide
theorem zim1 : Int32.ofInt (-1) = -1 := by decide
theorem zu_zu {h : Hp} {a : Nat} {e e1 : va_E} : zu (zu h a e) a e1 = zu h a e1 := by
  funext x
  by_cases hx : x = a
  · subst hx; rw [zu_s, zu_s]
  · rw [zu_n hx, zu_n hx, zu_n hx]
theorem zu_sw {h : Hp} {a b : Nat} {e e1 : va_E} (hab : a ≠ b) : zu (zu h a e) b e1 = zu (zu h b e1) a e := by
  funext x
  by_cases hx : x = a
  · subst hx; rw [zu_s, zu_n hab, zu_s]
  · rw [zu_n hx]
    by_cases hb : x = b
    · subst hb; rw [zu_s, zu_s]
    · rw [zu_n hb, zu_n hb, zu_n hx]
section CE
variable {g : zG} {h : Hp} {PR : Option Value → Hp → Prop} {PX : String → Hp → Prop}
set_option maxRecDepth 100000 in
theorem ct_PE_init {q : Nat} (h0 : h q = some (peC 0 0 0)) (k : PR none (zu h q (peC (-1) 0 (-1)))) : Ct g y_PE_init w_PE_init 1 0 0 [.ref q] h PR PX := by
  refine Ct_intro (cc := c_PE_init) (nL := 1) (ret := none) (ls := [some (.ref q)]) (by decide) (Nat.le_of_ble_eq_true rfl) rfl rfl ?_
  intro p e R s m args below meth c C ht hname
  refine z_aload_n C d_PE_init_0 rfl rfl ?_
  refine z_obj C d_PE_init_1 k_171 k_31 k_32 (by first | decide | omega) (Nat.le_of_ble_eq_true rfl) ?_
  refine z_aload_n C d_PE_init_4 rfl rfl ?_
  refine z_iconst (v := (-1)) C d_PE_init_5 (by decide) ?_
  refine z_put (ci := 1) (T := T_PE) (N := 3) (ty := .int) C d_PE_init_6 0 ty_PE t_PE n_PE i_PE rfl (by decide) k_172 (fun _ q => q) rfl (by decide +kernel) (by rfl) (by rfl) (by first | assumption | exact zu_s) (by exact Nat.le_of_ble_eq_true rfl) ?_
  dsimp only [List.set]
  refine z_aload_n C d_PE_init_9 rfl rfl ?_
  refine z_iconst (v := 0) C d_PE_init_10 (by decide) ?_
  refine z_put (ci := 1) (T := T_PE) (N := 3) (ty := .int) C d_PE_init_11 1 ty_PE t_PE n_PE i_PE rfl (by decide) k_174 (fun _ q => q) rfl (by decide +kernel) (by rfl) (by rfl) (by first | assumption | exact zu_s) (by exact Nat.le_of_ble_eq_true rfl) ?_
  dsimp only [List.set]
  refine z_aload_n C d_PE_init_14 rfl rfl ?_
  refine z_iconst (v := (-1)) C d_PE_init_15 (by decide) ?_
  refine z_put (ci := 1) (T := T_PE) (N := 3) (ty := .int) C d_PE_init_16 2 ty_PE t_PE n_PE i_PE rfl (by decide) k_176 (fun _ q => q) rfl (by decide +kernel) (by rfl) (by rfl) (by first | assumption | exact zu_s) (by exact Nat.le_of_ble_eq_true rfl) ?_
  dsimp only [List.set]
  refine z_vret C d_PE_init_19 ?_
  rw [zu_zu, zu_zu]
  exact k
set_option maxRecDepth 100000 in
theorem ct_PE_cameOutSince {q : Nat} {s0 r0 k0 x : Int32} (h0 : h q = some (peC s0 r0 k0)) (k : PR (some (.int (if x < r0 then 1 else 0))) h) : Ct g y_PE_cameOutSince w_PE_cameOutSince 1 0 0 [.ref q, .int x] h PR PX := by
  refine Ct_intro (cc := c_PE_cameOutSince) (nL := 2) (ret := (some FieldType.boolean)) (ls := [some (.ref q), some (.int x)]) (by decide) (Nat.le_of_ble_eq_true rfl) rfl rfl ?_
  intro p e R s m args below meth c C ht hname
  refine z_iload_n C d_PE_cameOutSince_0 rfl rfl ?_
  refine z_aload_n C d_PE_cameOutSince_1 rfl rfl ?_
  refine z_get (ci := 1) (T := T_PE) (N := 3) C d_PE_cameOutSince_2 1 i_PE rfl (by decide) k_174 (fun _ q => q) (by first | assumption | exact zu_s) (by rfl) ?_
  refine z_icmp_ge 12 C d_PE_cameOutSince_5 (by decide) (fun c5 => ?_) (fun c5 => ?_)
  · refine z_iconst (v := 0) C d_PE_cameOutSince_12 (by decide) ?_
    refine z_zret C d_PE_cameOutSince_13 (by first | rfl | assumption) ?_
    rw [if_neg (Int32.not_lt.mpr c5)] at k
    exact k
  · refine z_iconst (v := 1) C d_PE_cameOutSince_8 (by decide) ?_
    refine z_goto 13 C d_PE_cameOutSince_9 (by decide) ?_
    refine z_zret C d_PE_cameOutSince_13 (by first | rfl | assumption) ?_
    rw [if_pos (Int32.not_le.mp c5)] at k
    exact k
set_option maxRecDepth 100000 in
theorem ct_MO_init {q : Nat} {a b d : Int32} (h0 : h q = some (mvC 0 0 0)) (k : PR none (zu h q (mvC a b d))) : Ct g y_MO_init w_MO_init 1 0 0 [.ref q, .int a, .int b, .int d] h PR PX := by
  refine Ct_intro (cc := c_MO_init) (nL := 4) (ret := none) (ls := [some (.ref q), some (.int a), some (.int b), some (.int d)]) (by decide) (Nat.le_of_ble_eq_true rfl) rfl rfl ?_
  intro p e R s m args below meth c C ht hname
  refine z_aload_n C d_MO_init_0 rfl rfl ?_
  refine z_obj C d_MO_init_1 k_318 k_31 k_32 (by first | decide | omega) (Nat.le_of_ble_eq_true rfl) ?_
  refine z_aload_n C d_MO_init_4 rfl rfl ?_
  refine z_iload_n C d_MO_init_5 rfl rfl ?_
  refine z_putF (ci := 2) (T := T_MO) (N := 3) (ty := .int) C d_MO_init_6 hname 0 ty_MO t_MO n_MO i_MO rfl (by decide) k_319 (fun _ q => q) rfl rfl (by decide +kernel) (by rfl) (by rfl) (by first | assumption | exact zu_s) (by exact Nat.le_of_ble_eq_true rfl) ?_
  dsimp only [List.set]
  refine z_aload_n C d_MO_init_9 rfl rfl ?_
  refine z_iload_n C d_MO_init_10 rfl rfl ?_
  refine z_putF (ci := 2) (T := T_MO) (N := 3) (ty := .int) C d_MO_init_11 hname 1 ty_MO t_MO n_MO i_MO rfl (by decide) k_321 (fun _ q => q) rfl rfl (by decide +kernel) (by rfl) (by rfl) (by first | assumption | exact zu_s) (by exact Nat.le_of_ble_eq_true rfl) ?_
  dsimp only [List.set]
  refine z_aload_n C d_MO_init_14 rfl rfl ?_
  refine z_iload_n C d_MO_init_15 rfl rfl ?_
  refine z_putF (ci := 2) (T := T_MO) (N := 3) (ty := .int) C d_MO_init_16 hname 2 ty_MO t_MO n_MO i_MO rfl (by decide) k_323 (fun _ q => q) rfl rfl (by decide +kernel) (by rfl) (by rfl) (by first | assumption | exact zu_s) (by exact Nat.le_of_ble_eq_true rfl) ?_
  dsimp only [List.set]
  refine z_vret C d_MO_init_19 ?_
  rw [zu_zu, zu_zu]
  exact k
set_option maxRecDepth 100000 in
theorem ct_DC_init {q : Nat} {a b d f : Int32} (h0 : h q = some (dcC 0 0 0 0)) (k : PR none (zu h q (dcC a b d f))) : Ct g y_DC_init w_DC_init 1 0 0 [.ref q, .int a, .int b, .int d, .int f] h PR PX := by
  refine Ct_intro (cc := c_DC_init) (nL := 5) (ret := none) (ls := [some (.ref q), some (.int a), some (.int b), some (.int d), some (.int f)]) (by decide) (Nat.le_of_ble_eq_true rfl) rfl rfl ?_
  intro p e R s m args below meth c C ht hname
  refine z_aload_n C d_DC_init_0 rfl rfl ?_
  refine z_obj C d_DC_init_1 k_478 k_31 k_32 (by first | decide | omega) (Nat.le_of_ble_eq_true rfl) ?_
  refine z_aload_n C d_DC_init_4 rfl rfl ?_
  refine z_iload_n C d_DC_init_5 rfl rfl ?_
  refine z_putF (ci := 4) (T := T_DC) (N := 4) (ty := .int) C d_DC_init_6 hname 0 ty_DC t_DC n_DC i_DC rfl (by decide) k_479 (fun _ q => q) rfl rfl (by decide +kernel) (by rfl) (by rfl) (by first | assumption | exact zu_s) (by exact Nat.le_of_ble_eq_true rfl) ?_
  dsimp only [List.set]
  refine z_aload_n C d_DC_init_9 rfl rfl ?_
  refine z_iload_n C d_DC_init_10 rfl rfl ?_
  refine z_putF (ci := 4) (T := T_DC) (N := 4) (ty := .int) C d_DC_init_11 hname 1 ty_DC t_DC n_DC i_DC rfl (by decide) k_481 (fun _ q => q) rfl rfl (by decide +kernel) (by rfl) (by rfl) (by first | assumption | exact zu_s) (by exact Nat.le_of_ble_eq_true rfl) ?_
  dsimp only [List.set]
  refine z_aload_n C d_DC_init_14 rfl rfl ?_
  refine z_iload_n C d_DC_init_15 rfl rfl ?_
  refine z_putF (ci := 4) (T := T_DC) (N := 4) (ty := .int) C d_DC_init_16 hname 2 ty_DC t_DC n_DC i_DC rfl (by decide) k_483 (fun _ q => q) rfl rfl (by decide +kernel) (by rfl) (by rfl) (by first | assumption | exact zu_s) (by exact Nat.le_of_ble_eq_true rfl) ?_
  dsimp only [List.set]
  refine z_aload_n C d_DC_init_19 rfl rfl ?_
  refine z_iload C d_DC_init_20 rfl ?_
  refine z_putF (ci := 4) (T := T_DC) (N := 4) (ty := .int) C d_DC_init_22 hname 3 ty_DC t_DC n_DC i_DC rfl (by decide) k_485 (fun _ q => q) rfl rfl (by decide +kernel) (by rfl) (by rfl) (by first | assumption | exact zu_s) (by exact Nat.le_of_ble_eq_true rfl) ?_
  dsimp only [List.set]
  refine z_vret C d_DC_init_25 ?_
  rw [zu_zu, zu_zu, zu_zu]
  exact k
set_option maxRecDepth 100000 in
theorem ct_MD_init {q : Nat} {a b d f : Int32} (h0 : h q = some (mdC 0 0 0 0 0)) (k : PR none (zu h q (mdC a b d 1 f))) : Ct g y_MD_init w_MD_init 1 0 0 [.ref q, .int a, .int b, .int d, .int f] h PR PX := by
  refine Ct_intro (cc := c_MD_init) (nL := 5) (ret := none) (ls := [some (.ref q), some (.int a), some (.int b), some (.int d), some (.int f)]) (by decide) (Nat.le_of_ble_eq_true rfl) rfl rfl ?_
  intro p e R s m args below meth c C ht hname
  refine z_aload_n C d_MD_init_0 rfl rfl ?_
  refine z_obj C d_MD_init_1 k_585 k_31 k_32 (by first | decide | omega) (Nat.le_of_ble_eq_true rfl) ?_
  refine z_aload_n C d_MD_init_4 rfl rfl ?_
  refine z_iload_n C d_MD_init_5 rfl rfl ?_
  refine z_putF (ci := 5) (T := T_MD) (N := 5) (ty := .int) C d_MD_init_6 hname 0 ty_MD t_MD n_MD i_MD rfl (by decide) k_586 (fun _ q => q) rfl rfl (by decide +kernel) (by rfl) (by rfl) (by first | assumption | exact zu_s) (by exact Nat.le_of_ble_eq_true rfl) ?_
  dsimp only [List.set]
  refine z_aload_n C d_MD_init_9 rfl rfl ?_
  refine z_iload_n C d_MD_init_10 rfl rfl ?_
  refine z_putF (ci := 5) (T := T_MD) (N := 5) (ty := .int) C d_MD_init_11 hname 1 ty_MD t_MD n_MD i_MD rfl (by decide) k_588 (fun _ q => q) rfl rfl (by decide +kernel) (by rfl) (by rfl) (by first | assumption | exact zu_s) (by exact Nat.le_of_ble_eq_true rfl) ?_
  dsimp only [List.set]
  refine z_aload_n C d_MD_init_14 rfl rfl ?_
  refine z_iload_n C d_MD_init_15 rfl rfl ?_
  refine z_putF (ci := 5) (T := T_MD) (N := 5) (ty := .int) C d_MD_init_16 hname 2 ty_MD t_MD n_MD i_MD rfl (by decide) k_590 (fun _ q => q) rfl rfl (by decide +kernel) (by rfl) (by rfl) (by first | assumption | exact zu_s) (by exact Nat.le_of_ble_eq_true rfl) ?_
  dsimp only [List.set]
  refine z_aload_n C d_MD_init_19 rfl rfl ?_
  refine z_iload C d_MD_init_20 rfl ?_
  refine z_put (ci := 5) (T := T_MD) (N := 5) (ty := .int) C d_MD_init_22 4 ty_MD t_MD n_MD i_MD rfl (by decide) k_594 (fun _ q => q) rfl (by decide +kernel) (by rfl) (by rfl) (by first | assumption | exact zu_s) (by exact Nat.le_of_ble_eq_true rfl) ?_
  dsimp only [List.set]
  refine z_aload_n C d_MD_init_25 rfl rfl ?_
  refine z_iconst (v := 1) C d_MD_init_26 (by decide) ?_
  refine z_put (ci := 5) (T := T_MD) (N := 5) (ty := .boolean) C d_MD_init_27 3 ty_MD t_MD n_MD i_MD rfl (by decide) k_592 (fun _ q => q) rfl (by decide +kernel) (by rfl) (by rfl) (by first | assumption | exact zu_s) (by exact Nat.le_of_ble_eq_true rfl) ?_
  dsimp only [List.set]
  refine z_vret C d_MD_init_30 ?_
  rw [zu_zu, zu_zu, zu_zu, zu_zu]
  exact k
set_option maxRecDepth 100000 in
theorem ct_EV_init {q : Nat} {a : Int32} (h0 : h q = some (.inr (6, [.int 0, .null, .null, .int 0, .int 0]))) (k : ∀ q1 q2, h q1 = none → h q2 = none → q1 ≠ q2 → PR none (zu (zu (zu h q (evC a q1 q2 0 0)) q1 (ba g 10 (fun _ => 0))) q2 (ba g 10 (fun _ => 0)))) : Ct g y_EV_init w_EV_init 1 2 20 [.ref q, .int a] h PR PX := by
  refine Ct_intro (cc := c_EV_init) (nL := 2) (ret := none) (ls := [some (.ref q), some (.int a)]) (by decide) (Nat.le_of_ble_eq_true rfl) rfl rfl ?_
  intro p e R s m args below meth c C ht hname
  refine z_aload_n C d_EV_init_0 rfl rfl ?_
  refine z_obj C d_EV_init_1 k_658 k_31 k_32 (by first | decide | omega) (Nat.le_of_ble_eq_true rfl) ?_
  refine z_aload_n C d_EV_init_4 rfl rfl ?_
  refine z_iload_n C d_EV_init_5 rfl rfl ?_
  refine z_putF (ci := 6) (T := T_EV) (N := 5) (ty := .int) C d_EV_init_6 hname 0 ty_EV t_EV n_EV i_EV rfl (by decide) k_659 (fun _ q => q) rfl rfl (by decide +kernel) (by rfl) (by rfl) (by first | assumption | exact zu_s) (by exact Nat.le_of_ble_eq_true rfl) ?_
  dsimp only [List.set]
  refine z_aload_n C d_EV_init_9 rfl rfl ?_
  refine z_bipush (v := 10) C d_EV_init_10 (by decide) ?_
  refine z_newaZ (N0 := 10) C d_EV_init_12 k_678 (zC_Z C) (by decide) (by decide) (by decide) (by first | decide | omega) (by first | decide | omega) (fun q12 hq12 => ?_)
  have n1 : q ≠ q12 := by
    rintro rfl
    rw [zu_s] at hq12
    cases hq12
  have e1 : zu (zu h q (.inr (6, [.int a, .null, .null, .int 0, .int 0]))) q12 (ba g 10 (fun _ => 0)) q = some (.inr (6, [.int a, .null, .null, .int 0, .int 0])) := by rw [zu_n n1, zu_s]
  refine z_putF (ci := 6) (T := T_EV) (N := 5) (ty := .array .boolean) C d_EV_init_14 hname 1 ty_EV t_EV n_EV i_EV rfl (by decide) k_660 (fun _ q => q) rfl rfl (by decide +kernel) (by rfl) (by rfl) e1 (by exact Nat.le_of_ble_eq_true rfl) ?_
  dsimp only [List.set]
  refine z_aload_n C d_EV_init_17 rfl rfl ?_
  refine z_bipush (v := 10) C d_EV_init_18 (by decide) ?_
  refine z_newaZ (N0 := 10) C d_EV_init_20 k_678 (zC_Z C) (by decide) (by decide) (by decide) (by first | decide | omega) (by first | decide | omega) (fun q20 hq20 => ?_)
  have n2 : q ≠ q20 := by
    rintro rfl
    rw [zu_s] at hq20
    cases hq20
  have n3 : q12 ≠ q20 := by
    rintro rfl
    rw [zu_n n1.symm, zu_s] at hq20
    cases hq20
  have e2 : zu (zu (zu (zu h q (.inr (6, [.int a, .null, .null, .int 0, .int 0]))) q12 (ba g 10 (fun _ => 0))) q (.inr (6, [.int a, .ref q12, .null, .int 0, .int 0]))) q20 (ba g 10 (fun _ => 0)) q = some (.inr (6, [.int a, .ref q12, .null, .int 0, .int 0])) := by rw [zu_n n2, zu_s]
  refine z_putF (ci := 6) (T := T_EV) (N := 5) (ty := .array .boolean) C d_EV_init_22 hname 2 ty_EV t_EV n_EV i_EV rfl (by decide) k_662 (fun _ q => q) rfl rfl (by decide +kernel) (by rfl) (by rfl) e2 (by exact Nat.le_of_ble_eq_true rfl) ?_
  dsimp only [List.set]
  refine z_vret C d_EV_init_25 ?_
  have e3 : zu (zu (zu (zu (zu h q (.inr (6, [.int a, .null, .null, .int 0, .int 0]))) q12 (ba g 10 (fun _ => 0))) q (.inr (6, [.int a, .ref q12, .null, .int 0, .int 0]))) q20 (ba g 10 (fun _ => 0))) q (evC a q12 q20 0 0) = zu (zu (zu h q (evC a q12 q20 0 0)) q12 (ba g 10 (fun _ => 0))) q20 (ba g 10 (fun _ => 0)) := by
    rw [zu_sw n2.symm, zu_zu, zu_sw n1.symm, zu_zu]
  rw [e3]
  rw [zu_n n1.symm] at hq12
  refine k q12 q20 hq12 ?_ n3
  rw [zu_n n2.symm, zu_n n3.symm, zu_n n2.symm] at hq20
  exact hq20
set_option maxRecDepth 100000 in
theorem ct_AR_fill {a n : Nat} {f : Nat → Int32} {v : Int32} (h0 : h a = some (ia g n f)) (hn : n ≤ 1000) (k : PR none (zu h a (ia g n (fun i => if i < n then v else f i)))) : Ct g y_AR_fill w_AR_fill 1 0 0 [.ref a, .int v] h PR PX := by
  refine Ct_intro (cc := c_AR_fill) (nL := 4) (ret := none) (ls := [some (.ref a), some (.int v), none, none]) (by decide) (Nat.le_of_ble_eq_true rfl) rfl rfl ?_
  intro p e R s m args below meth c C ht hname
  have loop : ∀ (j i : Nat), i + j = n → Z g 4 0 0 p e R s m args below meth c (vx_MQ below (zQ g PR) (zX g PX) args s 0 0 (zA g)) 0 0 5 [some (.ref a), some (.int v), some (.int (nI i)), some (.int (nI n))] [] (zu h a (ia g n (fun x => if x < i then v else f x))) := by
    intro j
    induction j with
    | zero =>
      intro i hi
      have : i = n := by omega
      subst this
      refine z_iload_n C d_AR_fill_5 rfl rfl ?_
      refine z_iload_n C d_AR_fill_6 rfl rfl ?_
      refine z_icmp_ge 20 C d_AR_fill_7 (by decide) (fun c7 => ?_) (fun c7 => ?_)
      · refine z_vret C d_AR_fill_20 ?_
        exact k
      · exact absurd (Int32.le_refl _) c7
    | succ j ih =>
      intro i hi
      refine z_iload_n C d_AR_fill_5 rfl rfl ?_
      refine z_iload_n C d_AR_fill_6 rfl rfl ?_
      refine z_icmp_ge 20 C d_AR_fill_7 (by decide) (fun c7 => ?_) (fun c7 => ?_)
      · exact absurd c7 (nI_ge (by omega) (by omega))
      · refine z_aload_n C d_AR_fill_10 rfl rfl ?_
        refine z_iload_n C d_AR_fill_11 rfl rfl ?_
        refine z_iload_n C d_AR_fill_12 rfl rfl ?_
        refine z_iast C d_AR_fill_13 zu_s (vp_in_nI (by omega) (by omega)) ?_
        rw [zu_zu, nI_clamp (by omega)]
        have e1 : upd (fun x => if x < i then v else f x) i v = (fun x => if x < i + 1 then v else f x) := by
          funext x
          by_cases hx : x = i
          · subst hx; rw [pk_us, if_pos (by omega)]
          · rw [pk_un hx]
            by_cases hl : x < i
            · rw [if_pos hl, if_pos (by omega)]
            · rw [if_neg hl, if_neg (by omega)]
        rw [e1]
        refine z_iinc C d_AR_fill_14 rfl (by decide) rfl ?_
        simp only [List.set, zi1, zim1]
        rw [nI_1]
        refine z_goto 5 C d_AR_fill_17 (by decide) ?_
        exact ih (i + 1) (by omega)
  refine z_iconst (v := 0) C d_AR_fill_0 (by decide) ?_
  refine z_istore_n C d_AR_fill_1 rfl (by decide) rfl ?_
  dsimp only [List.set]
  refine z_aload_n C d_AR_fill_2 rfl rfl ?_
  refine z_alen 0 C d_AR_fill_3 h0 rfl ?_
  refine z_istore_n C d_AR_fill_4 rfl (by decide) rfl ?_
  dsimp only [List.set]
  have h1 := loop n 0 (by omega)
  have e0 : zu h a (ia g n (fun x => if x < 0 then v else f x)) = h := by
    funext x
    by_cases hx : x = a
    · subst hx; rw [zu_s, h0]; rfl
    · rw [zu_n hx]
  rw [e0] at h1
  exact h1
set_option maxRecDepth 100000 in
theorem ct_RO_init {q N : Nat} {a b : Int32} (hN : N ≤ 60) (h0 : h q = some (.inr (3, [.int 0, .int 0, .null, .int 0, .int 0, .int 0, .int 0, .int 0, .int 0, .int 0]))) (k : ∀ ct, h ct = none → PR none (zu (zu h q (roC a b ct 1 0 0 0 0 0 0)) ct (ia g N (fun i => if i < N then -2 else 0)))) : Ct g y_RO_init w_RO_init 2 1 60 [.ref q, .int a, .int b, .int (nI N)] h PR PX := by
  refine Ct_intro (cc := c_RO_init) (nL := 4) (ret := none) (ls := [some (.ref q), some (.int a), some (.int b), some (.int (nI N))]) (by decide) (Nat.le_of_ble_eq_true rfl) rfl rfl ?_
  intro p e R s m args below meth c C ht hname
  refine z_aload_n C d_RO_init_0 rfl rfl ?_
  refine z_obj C d_RO_init_1 k_395 k_31 k_32 (by first | decide | omega) (Nat.le_of_ble_eq_true rfl) ?_
  refine z_aload_n C d_RO_init_4 rfl rfl ?_
  refine z_iload_n C d_RO_init_5 rfl rfl ?_
  refine z_putF (ci := 3) (T := T_RO) (N := 10) (ty := .int) C d_RO_init_6 hname 0 ty_RO t_RO n_RO i_RO rfl (by decide) k_400 (fun _ q => q) rfl rfl (by decide +kernel) (by rfl) (by rfl) (by first | assumption | exact zu_s) (by exact Nat.le_of_ble_eq_true rfl) ?_
  dsimp only [List.set]
  refine z_aload_n C d_RO_init_9 rfl rfl ?_
  refine z_iload_n C d_RO_init_10 rfl rfl ?_
  refine z_putF (ci := 3) (T := T_RO) (N := 10) (ty := .int) C d_RO_init_11 hname 1 ty_RO t_RO n_RO i_RO rfl (by decide) k_402 (fun _ q => q) rfl rfl (by decide +kernel) (by rfl) (by rfl) (by first | assumption | exact zu_s) (by exact Nat.le_of_ble_eq_true rfl) ?_
  dsimp only [List.set]
  rw [zu_zu]
  refine z_aload_n C d_RO_init_14 rfl rfl ?_
  refine z_iconst (v := 0) C d_RO_init_15 (by decide) ?_
  refine z_iload_n C d_RO_init_16 rfl rfl ?_
  refine z_max C d_RO_init_17 k_396 k_205 k_12 k_206 (by decide) (Nat.le_of_ble_eq_true rfl) ?_
  have e1 : (if (0 : Int32) < nI N then nI N else 0) = nI N := by
    by_cases hz : N = 0
    · subst hz; rfl
    · rw [if_pos]
      rw [← nI_0]
      exact nI_lt (by omega) (by omega)
  rw [e1]
  refine z_newaI C d_RO_init_20 k_59 (zC_I C) (nI_pos (by omega)) (nI_clamp (by omega)) (by omega) (by first | decide | omega) (by first | decide | omega) (fun q20 hq20 => ?_)
  have n1 : q ≠ q20 := by
    rintro rfl
    rw [zu_s] at hq20
    cases hq20
  have e2 : zu (zu h q (.inr (3, [.int a, .int b, .null, .int 0, .int 0, .int 0, .int 0, .int 0, .int 0, .int 0]))) q20 (ia g N (fun _ => 0)) q = some (.inr (3, [.int a, .int b, .null, .int 0, .int 0, .int 0, .int 0, .int 0, .int 0, .int 0])) := by rw [zu_n n1, zu_s]
  refine z_putF (ci := 3) (T := T_RO) (N := 10) (ty := .array .int) C d_RO_init_22 hname 2 ty_RO t_RO n_RO i_RO rfl (by decide) k_403 (fun _ q => q) rfl rfl (by decide +kernel) (by rfl) (by rfl) e2 (by exact Nat.le_of_ble_eq_true rfl) ?_
  dsimp only [List.set]
  have e3 : zu (zu (zu h q (.inr (3, [.int a, .int b, .null, .int 0, .int 0, .int 0, .int 0, .int 0, .int 0, .int 0]))) q20 (ia g N (fun _ => 0))) q (roC a b q20 0 0 0 0 0 0 0) = zu (zu h q (roC a b q20 0 0 0 0 0 0 0)) q20 (ia g N (fun _ => 0)) := by rw [zu_sw n1.symm, zu_zu]
  rw [e3]
  have e4 : zu (zu h q (roC a b q20 0 0 0 0 0 0 0)) q20 (ia g N (fun _ => 0)) q = some (roC a b q20 0 0 0 0 0 0 0) := by rw [zu_n n1, zu_s]
  refine z_aload_n C d_RO_init_25 rfl rfl ?_
  refine z_get (ci := 3) (T := T_RO) (N := 10) C d_RO_init_26 2 i_RO rfl (by decide) k_403 (fun _ q => q) (by first | assumption | exact zu_s) (by rfl) ?_
  refine z_bipush (v := (-2)) C d_RO_init_29 (by decide) ?_
  refine z_callS (n := 2) (As := [.ref q20, .int (-2)]) (rest := []) (r1 := 1) (mc1 := 0) (ms1 := 0) C d_RO_init_31 k_399 k_397 k_398 k_13 (by decide +kernel) rfl (by decide) (by decide) (Nat.le_of_ble_eq_true rfl) (by first | decide | omega) (by first | decide | omega) rfl ?_
  refine ct_AR_fill zu_s (by omega) ?_
  dsimp only [zps]
  rw [zu_zu]
  have e5 : zu (zu h q (roC a b q20 0 0 0 0 0 0 0)) q20 (ia g N (fun i => if i < N then -2 else 0)) q = some (roC a b q20 0 0 0 0 0 0 0) := by rw [zu_n n1, zu_s]
  refine z_aload_n C d_RO_init_34 rfl rfl ?_
  refine z_iconst (v := 1) C d_RO_init_35 (by decide) ?_
  refine z_put (ci := 3) (T := T_RO) (N := 10) (ty := .int) C d_RO_init_36 3 ty_RO t_RO n_RO i_RO rfl (by decide) k_404 (fun _ q => q) rfl (by decide +kernel) (by rfl) (by rfl) e5 (by exact Nat.le_of_ble_eq_true rfl) ?_
  dsimp only [List.set]
  refine z_vret C d_RO_init_39 ?_
  rw [zu_sw n1.symm, zu_zu]
  rw [zu_n n1.symm] at hq20
  exact k q20 hq20
set_option maxRecDepth 100000 in
theorem ct_RO_asksSector {q ct : Nat} {num sec rd as co ga gs st mi x : Int32} (h0 : h q = some (roC num sec ct rd as co ga gs st mi)) (k : PR (some (.int (if sec = -1 ∨ sec = x then 1 else 0))) h) : Ct g y_RO_asksSector w_RO_asksSector 1 0 0 [.ref q, .int x] h PR PX := by
  refine Ct_intro (cc := c_RO_asksSector) (nL := 2) (ret := (some FieldType.boolean)) (ls := [some (.ref q), some (.int x)]) (by decide) (Nat.le_of_ble_eq_true rfl) rfl rfl ?_
  intro p e R s m args below meth c C ht hname
  refine z_aload_n C d_RO_asksSector_0 rfl rfl ?_
  refine z_get (ci := 3) (T := T_RO) (N := 10) C d_RO_asksSector_1 1 i_RO rfl (by decide) k_402 (fun _ q => q) (by first | assumption | exact zu_s) (by rfl) ?_
  refine z_iconst (v := (-1)) C d_RO_asksSector_4 (by decide) ?_
  refine z_icmp_eq 16 C d_RO_asksSector_5 (by decide) (fun c5 => ?_) (fun c5 => ?_)
  · refine z_iconst (v := 1) C d_RO_asksSector_16 (by decide) ?_
    refine z_goto 21 C d_RO_asksSector_17 (by decide) ?_
    refine z_zret C d_RO_asksSector_21 (by first | rfl | assumption) ?_
    rw [if_pos (Or.inl c5)] at k
    exact k
  · refine z_aload_n C d_RO_asksSector_8 rfl rfl ?_
    refine z_get (ci := 3) (T := T_RO) (N := 10) C d_RO_asksSector_9 1 i_RO rfl (by decide) k_402 (fun _ q => q) (by first | assumption | exact zu_s) (by rfl) ?_
    refine z_iload_n C d_RO_asksSector_12 rfl rfl ?_
    refine z_icmp_ne 20 C d_RO_asksSector_13 (by decide) (fun c13 => ?_) (fun c13 => ?_)
    · refine z_iconst (v := 0) C d_RO_asksSector_20 (by decide) ?_
      refine z_zret C d_RO_asksSector_21 (by first | rfl | assumption) ?_
      rw [if_neg (by rintro (z | z); exact c5 z; exact c13 z)] at k
      exact k
    · refine z_iconst (v := 1) C d_RO_asksSector_16 (by decide) ?_
      refine z_goto 21 C d_RO_asksSector_17 (by decide) ?_
      refine z_zret C d_RO_asksSector_21 (by first | rfl | assumption) ?_
      rw [if_pos (Or.inr c13)] at k
      exact k
set_option maxRecDepth 100000 in
theorem ct_RO_isOver {q ct : Nat} {num sec rd as co ga gs st mi : Int32} (h0 : h q = some (roC num sec ct rd as co ga gs st mi)) (k : PR (some (.int (if rd < 3 then 0 else 1))) h) : Ct g y_RO_isOver w_RO_isOver 1 0 0 [.ref q] h PR PX := by
  refine Ct_intro (cc := c_RO_isOver) (nL := 1) (ret := (some FieldType.boolean)) (ls := [some (.ref q)]) (by decide) (Nat.le_of_ble_eq_true rfl) rfl rfl ?_
  intro p e R s m args below meth c C ht hname
  refine z_aload_n C d_RO_isOver_0 rfl rfl ?_
  refine z_get (ci := 3) (T := T_RO) (N := 10) C d_RO_isOver_1 3 i_RO rfl (by decide) k_404 (fun _ q => q) (by first | assumption | exact zu_s) (by rfl) ?_
  refine z_iconst (v := 3) C d_RO_isOver_4 (by decide) ?_
  refine z_icmp_lt 12 C d_RO_isOver_5 (by decide) (fun c5 => ?_) (fun c5 => ?_)
  · refine z_iconst (v := 0) C d_RO_isOver_12 (by decide) ?_
    refine z_zret C d_RO_isOver_13 (by first | rfl | assumption) ?_
    rw [if_pos c5] at k
    exact k
  · refine z_iconst (v := 1) C d_RO_isOver_8 (by decide) ?_
    refine z_goto 13 C d_RO_isOver_9 (by decide) ?_
    refine z_zret C d_RO_isOver_13 (by first | rfl | assumption) ?_
    rw [if_neg c5] at k
    exact k
set_option maxRecDepth 100000 in
theorem ct_RO_endIfNobodyIsAsked {q ct : Nat} {num sec rd as co ga gs st mi : Int32} (h0 : h q = some (roC num sec ct rd as co ga gs st mi)) (k : PR none (zu h q (roC num sec ct (if as = 0 ∧ ga = 0 then 3 else rd) as co ga gs st mi))) : Ct g y_RO_endIfNobodyIsAsked w_RO_endIfNobodyIsAsked 1 0 0 [.ref q] h PR PX := by
  have same : zu h q (roC num sec ct rd as co ga gs st mi) = h := by
    funext x
    by_cases hx : x = q
    · subst hx; rw [zu_s, h0]
    · rw [zu_n hx]
  refine Ct_intro (cc := c_RO_endIfNobodyIsAsked) (nL := 1) (ret := none) (ls := [some (.ref q)]) (by decide) (Nat.le_of_ble_eq_true rfl) rfl rfl ?_
  intro p e R s m args below meth c C ht hname
  refine z_aload_n C d_RO_endIfNobodyIsAsked_0 rfl rfl ?_
  refine z_get (ci := 3) (T := T_RO) (N := 10) C d_RO_endIfNobodyIsAsked_1 4 i_RO rfl (by decide) k_406 (fun _ q => q) (by first | assumption | exact zu_s) (by rfl) ?_
  refine z_if_ne 19 C d_RO_endIfNobodyIsAsked_4 (by decide) (fun c4 => ?_) (fun c4 => ?_)
  · refine z_vret C d_RO_endIfNobodyIsAsked_19 ?_
    rw [if_neg (fun z => c4 z.1), same] at k
    exact k
  · refine z_aload_n C d_RO_endIfNobodyIsAsked_7 rfl rfl ?_
    refine z_get (ci := 3) (T := T_RO) (N := 10) C d_RO_endIfNobodyIsAsked_8 6 i_RO rfl (by decide) k_410 (fun _ q => q) (by first | assumption | exact zu_s) (by rfl) ?_
    refine z_if_ne 19 C d_RO_endIfNobodyIsAsked_11 (by decide) (fun c11 => ?_) (fun c11 => ?_)
    · refine z_vret C d_RO_endIfNobodyIsAsked_19 ?_
      rw [if_neg (fun z => c11 z.2), same] at k
      exact k
    · refine z_aload_n C d_RO_endIfNobodyIsAsked_14 rfl rfl ?_
      refine z_iconst (v := 3) C d_RO_endIfNobodyIsAsked_15 (by decide) ?_
      refine z_put (ci := 3) (T := T_RO) (N := 10) (ty := .int) C d_RO_endIfNobodyIsAsked_16 3 ty_RO t_RO n_RO i_RO rfl (by decide) k_404 (fun _ q => q) rfl (by decide +kernel) (by rfl) (by rfl) (by first | assumption | exact zu_s) (by exact Nat.le_of_ble_eq_true rfl) ?_
      dsimp only [List.set]
      refine z_vret C d_RO_endIfNobodyIsAsked_19 ?_
      rw [if_pos ⟨c4, c11⟩] at k
      exact k
/-- what counterOf answers -/
def cof (n : Nat) (f : Nat → Int32) (x : Int32) : Int32 := if x < 0 ∨ nI n ≤ x then -2 else f x.toNatClampNeg
set_option maxRecDepth 100000 in
theorem ct_RO_counterOf {q ct n : Nat} {f : Nat → Int32} {num sec rd as co ga gs st mi x : Int32} (h0 : h q = some (roC num sec ct rd as co ga gs st mi)) (h1 : h ct = some (ia g n f)) (hn : n ≤ 60) (k : PR (some (.int (cof n f x))) h) : Ct g y_RO_counterOf w_RO_counterOf 1 0 0 [.ref q, .int x] h PR PX := by
  unfold cof at k
  refine Ct_intro (cc := c_RO_counterOf) (nL := 2) (ret := (some FieldType.int)) (ls := [some (.ref q), some (.int x)]) (by decide) (Nat.le_of_ble_eq_true rfl) rfl rfl ?_
  intro p e R s m args below meth c C ht hname
  refine z_iload_n C d_RO_counterOf_0 rfl rfl ?_
  refine z_if_lt 22 C d_RO_counterOf_1 (by decide) (fun c1 => ?_) (fun c1 => ?_)
  · refine z_bipush (v := (-2)) C d_RO_counterOf_22 (by decide) ?_
    refine z_iret C d_RO_counterOf_24 ?_
    rw [if_pos (Or.inl c1)] at k
    exact k
  · refine z_iload_n C d_RO_counterOf_4 rfl rfl ?_
    refine z_aload_n C d_RO_counterOf_5 rfl rfl ?_
    refine z_get (ci := 3) (T := T_RO) (N := 10) C d_RO_counterOf_6 2 i_RO rfl (by decide) k_403 (fun _ q => q) (by first | assumption | exact zu_s) (by rfl) ?_
    refine z_alen 0 C d_RO_counterOf_9 h1 rfl ?_
    refine z_icmp_ge 22 C d_RO_counterOf_10 (by decide) (fun c10 => ?_) (fun c10 => ?_)
    · refine z_bipush (v := (-2)) C d_RO_counterOf_22 (by decide) ?_
      refine z_iret C d_RO_counterOf_24 ?_
      rw [if_pos (Or.inr c10)] at k
      exact k
    · obtain ⟨j, hj, rfl, -⟩ := pk_mu c1 c10 (by omega)
      refine z_aload_n C d_RO_counterOf_13 rfl rfl ?_
      refine z_get (ci := 3) (T := T_RO) (N := 10) C d_RO_counterOf_14 2 i_RO rfl (by decide) k_403 (fun _ q => q) (by first | assumption | exact zu_s) (by rfl) ?_
      refine z_iload_n C d_RO_counterOf_17 rfl rfl ?_
      refine z_iald C d_RO_counterOf_18 h1 (vp_in_nI hj (by omega)) ?_
      refine z_goto 24 C d_RO_counterOf_19 (by decide) ?_
      refine z_iret C d_RO_counterOf_24 ?_
      rw [if_neg (by rintro (z | z); exact c1 z; exact c10 z)] at k
      exact k
set_option maxRecDepth 100000 in
theorem ct_RO_askPerson {q ct n i : Nat} {f : Nat → Int32} {num sec rd as co ga gs st mi : Int32} (h0 : h q = some (roC num sec ct rd as co ga gs st mi)) (h1 : h ct = some (ia g n f)) (hn : n ≤ 60) (hi : i < n) (hne : q ≠ ct) (k : PR none (zu (zu h ct (ia g n (upd f i (-1)))) q (roC num sec ct rd (as + 1) co ga gs st mi))) : Ct g y_RO_askPerson w_RO_askPerson 1 0 0 [.ref q, .int (nI i)] h PR PX := by
  refine Ct_intro (cc := c_RO_askPerson) (nL := 2) (ret := none) (ls := [some (.ref q), some (.int (nI i))]) (by decide) (Nat.le_of_ble_eq_true rfl) rfl rfl ?_
  intro p e R s m args below meth c C ht hname
  refine z_iload_n C d_RO_askPerson_0 rfl rfl ?_
  refine z_if_lt 30 C d_RO_askPerson_1 (by decide) (fun c1 => ?_) (fun c1 => ?_)
  · exact absurd c1 (nI_pos (by omega))
  · refine z_iload_n C d_RO_askPerson_4 rfl rfl ?_
    refine z_aload_n C d_RO_askPerson_5 rfl rfl ?_
    refine z_get (ci := 3) (T := T_RO) (N := 10) C d_RO_askPerson_6 2 i_RO rfl (by decide) k_403 (fun _ q => q) (by first | assumption | exact zu_s) (by rfl) ?_
    refine z_alen 0 C d_RO_askPerson_9 h1 rfl ?_
    refine z_icmp_ge 30 C d_RO_askPerson_10 (by decide) (fun c10 => ?_) (fun c10 => ?_)
    · exact absurd c10 (nI_ge hi (by omega))
    · refine z_aload_n C d_RO_askPerson_13 rfl rfl ?_
      refine z_get (ci := 3) (T := T_RO) (N := 10) C d_RO_askPerson_14 2 i_RO rfl (by decide) k_403 (fun _ q => q) (by first | assumption | exact zu_s) (by rfl) ?_
      refine z_iload_n C d_RO_askPerson_17 rfl rfl ?_
      refine z_iconst (v := (-1)) C d_RO_askPerson_18 (by decide) ?_
      refine z_iast C d_RO_askPerson_19 h1 (vp_in_nI hi (by omega)) ?_
      rw [nI_clamp (by omega)]
      have e1 : zu h ct (ia g n (upd f i (-1))) q = some (roC num sec ct rd as co ga gs st mi) := by rw [zu_n hne]; exact h0
      refine z_aload_n C d_RO_askPerson_20 rfl rfl ?_
      refine z_dup C d_RO_askPerson_21 rfl ?_
      refine z_get (ci := 3) (T := T_RO) (N := 10) C d_RO_askPerson_22 4 i_RO rfl (by decide) k_406 (fun _ q => q) (by first | assumption | exact zu_s) (by rfl) ?_
      refine z_iconst (v := 1) C d_RO_askPerson_25 (by decide) ?_
      refine z_iadd C d_RO_askPerson_26 ?_
      refine z_put (ci := 3) (T := T_RO) (N := 10) (ty := .int) C d_RO_askPerson_27 4 ty_RO t_RO n_RO i_RO rfl (by decide) k_406 (fun _ q => q) rfl (by decide +kernel) (by rfl) (by rfl) (by first | assumption | exact zu_s) (by exact Nat.le_of_ble_eq_true rfl) ?_
      dsimp only [List.set]
      refine z_vret C d_RO_askPerson_30 ?_
      exact k
set_option maxRecDepth 100000 in
theorem ct_RO_countPerson {q ct n i : Nat} {f : Nat → Int32} {num sec rd as co ga gs st mi v : Int32} (h0 : h q = some (roC num sec ct rd as co ga gs st mi)) (h1 : h ct = some (ia g n f)) (hn : n ≤ 60) (hi : i < n) (hne : q ≠ ct) (k : PR none (zu (zu h ct (ia g n (upd f i v))) q (roC num sec ct rd as (co + 1) ga gs st mi))) : Ct g y_RO_countPerson w_RO_countPerson 1 0 0 [.ref q, .int (nI i), .int v] h PR PX := by
  refine Ct_intro (cc := c_RO_countPerson) (nL := 3) (ret := none) (ls := [some (.ref q), some (.int (nI i)), some (.int v)]) (by decide) (Nat.le_of_ble_eq_true rfl) rfl rfl ?_
  intro p e R s m args below meth c C ht hname
  refine z_iload_n C d_RO_countPerson_0 rfl rfl ?_
  refine z_if_lt 30 C d_RO_countPerson_1 (by decide) (fun c1 => ?_) (fun c1 => ?_)
  · exact absurd c1 (nI_pos (by omega))
  · refine z_iload_n C d_RO_countPerson_4 rfl rfl ?_
    refine z_aload_n C d_RO_countPerson_5 rfl rfl ?_
    refine z_get (ci := 3) (T := T_RO) (N := 10) C d_RO_countPerson_6 2 i_RO rfl (by decide) k_403 (fun _ q => q) (by first | assumption | exact zu_s) (by rfl) ?_
    refine z_alen 0 C d_RO_countPerson_9 h1 rfl ?_
    refine z_icmp_ge 30 C d_RO_countPerson_10 (by decide) (fun c10 => ?_) (fun c10 => ?_)
    · exact absurd c10 (nI_ge hi (by omega))
    · refine z_aload_n C d_RO_countPerson_13 rfl rfl ?_
      refine z_get (ci := 3) (T := T_RO) (N := 10) C d_RO_countPerson_14 2 i_RO rfl (by decide) k_403 (fun _ q => q) (by first | assumption | exact zu_s) (by rfl) ?_
      refine z_iload_n C d_RO_countPerson_17 rfl rfl ?_
      refine z_iload_n C d_RO_countPerson_18 rfl rfl ?_
      refine z_iast C d_RO_countPerson_19 h1 (vp_in_nI hi (by omega)) ?_
      rw [nI_clamp (by omega)]
      have e1 : zu h ct (ia g n (upd f i v)) q = some (roC num sec ct rd as co ga gs st mi) := by rw [zu_n hne]; exact h0
      refine z_aload_n C d_RO_countPerson_20 rfl rfl ?_
      refine z_dup C d_RO_countPerson_21 rfl ?_
      refine z_get (ci := 3) (T := T_RO) (N := 10) C d_RO_countPerson_22 5 i_RO rfl (by decide) k_408 (fun _ q => q) (by first | assumption | exact zu_s) (by rfl) ?_
      refine z_iconst (v := 1) C d_RO_countPerson_25 (by decide) ?_
      refine z_iadd C d_RO_countPerson_26 ?_
      refine z_put (ci := 3) (T := T_RO) (N := 10) (ty := .int) C d_RO_countPerson_27 5 ty_RO t_RO n_RO i_RO rfl (by decide) k_408 (fun _ q => q) rfl (by decide +kernel) (by rfl) (by rfl) (by first | assumption | exact zu_s) (by exact Nat.le_of_ble_eq_true rfl) ?_
      dsimp only [List.set]
      refine z_vret C d_RO_countPerson_30 ?_
      exact k
set_option maxRecDepth 100000 in
theorem ct_EV_tellLate {q mu lt : Nat} {fm fl : Nat → Int32} {ls lf told x : Int32} (h0 : h q = some (evC ls mu lt lf told)) (h1 : h mu = some (ba g 10 fm)) (h2 : h lt = some (ba g 10 fl)) (hb : ∀ i, vp_nar .boolean (fm i) = fm i) (n1 : q ≠ mu) (n2 : q ≠ lt) (n3 : mu ≠ lt)
    (k1 : ¬ told = 0 ∨ x ≤ ls → PR (some (.int 0)) h) (k2 : told = 0 → ls < x → PR (some (.int lf)) (zu (zu h q (evC ls mu lt lf 1)) lt (ba g 10 (fun i => if i < 10 then fm i else fl i)))) : Ct g y_EV_tellLate w_EV_tellLate 1 0 0 [.ref q, .int x] h PR PX := by
  refine Ct_intro (cc := c_EV_tellLate) (nL := 3) (ret := (some FieldType.int)) (ls := [some (.ref q), some (.int x), none]) (by decide) (Nat.le_of_ble_eq_true rfl) rfl rfl ?_
  intro p e R s m args below meth c C ht hname
  have loop : ∀ (j i : Nat), i + j = 10 → told = 0 → ls < x → Z g 3 0 0 p e R s m args below meth c (vx_MQ below (zQ g PR) (zX g PX) args s 0 0 (zA g)) 0 0 24 [some (.ref q), some (.int x), some (.int (nI i))] [] (zu (zu h q (evC ls mu lt lf 1)) lt (ba g 10 (fun y => if y < i then fm y else fl y))) := by
    intro j
    induction j with
    | zero =>
      intro i hi ht0 hlx
      have : i = 10 := by omega
      subst this
      refine z_iload_n C d_EV_tellLate_24 rfl rfl ?_
      refine z_bipush (v := 10) C d_EV_tellLate_25 (by decide) ?_
      refine z_icmp_ge 48 C d_EV_tellLate_27 (by decide) (fun c27 => ?_) (fun c27 => ?_)
      · have e1 : zu (zu h q (evC ls mu lt lf 1)) lt (ba g 10 (fun y => if y < 10 then fm y else fl y)) q = some (evC ls mu lt lf 1) := by rw [zu_n n2, zu_s]
        refine z_aload_n C d_EV_tellLate_48 rfl rfl ?_
        refine z_get (ci := 6) (T := T_EV) (N := 5) C d_EV_tellLate_49 3 i_EV rfl (by decide) k_664 (fun _ q => q) (by first | assumption | exact zu_s) (by rfl) ?_
        refine z_iret C d_EV_tellLate_52 ?_
        exact k2 ht0 hlx
      · exact absurd (by decide) c27
    | succ j ih =>
      intro i hi ht0 hlx
      refine z_iload_n C d_EV_tellLate_24 rfl rfl ?_
      refine z_bipush (v := 10) C d_EV_tellLate_25 (by decide) ?_
      refine z_icmp_ge 48 C d_EV_tellLate_27 (by decide) (fun c27 => ?_) (fun c27 => ?_)
      · exact absurd c27 (by rw [show (10 : Int32) = nI 10 from rfl]; exact nI_ge (by omega) (by omega))
      · have e1 : zu (zu h q (evC ls mu lt lf 1)) lt (ba g 10 (fun y => if y < i then fm y else fl y)) q = some (evC ls mu lt lf 1) := by rw [zu_n n2, zu_s]
        have e2 : zu (zu h q (evC ls mu lt lf 1)) lt (ba g 10 (fun y => if y < i then fm y else fl y)) mu = some (ba g 10 fm) := by rw [zu_n n3, zu_n n1.symm]; exact h1
        refine z_aload_n C d_EV_tellLate_30 rfl rfl ?_
        refine z_get (ci := 6) (T := T_EV) (N := 5) C d_EV_tellLate_31 2 i_EV rfl (by decide) k_662 (fun _ q => q) (by first | assumption | exact zu_s) (by rfl) ?_
        refine z_iload_n C d_EV_tellLate_34 rfl rfl ?_
        refine z_aload_n C d_EV_tellLate_35 rfl rfl ?_
        refine z_get (ci := 6) (T := T_EV) (N := 5) C d_EV_tellLate_36 1 i_EV rfl (by decide) k_660 (fun _ q => q) (by first | assumption | exact zu_s) (by rfl) ?_
        refine z_iload_n C d_EV_tellLate_39 rfl rfl ?_
        refine z_zald C d_EV_tellLate_40 e2 (vp_in_nI (by omega) (by omega)) ?_
        rw [nI_clamp (by omega)]
        have e4 := hb i
        refine z_zast C d_EV_tellLate_41 zu_s (vp_in_nI (by omega) (by omega)) (by first | rfl | assumption) ?_
        rw [zu_zu, nI_clamp (by omega)]
        have e3 : upd (fun y => if y < i then fm y else fl y) i (fm i) = (fun y => if y < i + 1 then fm y else fl y) := by
          funext y
          by_cases hy : y = i
          · subst hy; rw [pk_us, if_pos (by omega)]
          · rw [pk_un hy]
            by_cases hl : y < i
            · rw [if_pos hl, if_pos (by omega)]
            · rw [if_neg hl, if_neg (by omega)]
        rw [e3]
        refine z_iinc C d_EV_tellLate_42 rfl (by decide) rfl ?_
        simp only [List.set, zi1, zim1]
        rw [nI_1]
        refine z_goto 24 C d_EV_tellLate_45 (by decide) ?_
        exact ih (i + 1) (by omega) ht0 hlx
  refine z_aload_n C d_EV_tellLate_0 rfl rfl ?_
  refine z_get (ci := 6) (T := T_EV) (N := 5) C d_EV_tellLate_1 4 i_EV rfl (by decide) k_666 (fun _ q => q) (by first | assumption | exact zu_s) (by rfl) ?_
  have go : told = 0 → ls < x → Z g 3 0 0 p e R s m args below meth c (vx_MQ below (zQ g PR) (zX g PX) args s 0 0 (zA g)) 0 0 17 [some (.ref q), some (.int x), none] [] h := by
    intro ht0 hlx
    refine z_aload_n C d_EV_tellLate_17 rfl rfl ?_
    refine z_iconst (v := 1) C d_EV_tellLate_18 (by decide) ?_
    refine z_put (ci := 6) (T := T_EV) (N := 5) (ty := .boolean) C d_EV_tellLate_19 4 ty_EV t_EV n_EV i_EV rfl (by decide) k_666 (fun _ q => q) rfl (by decide +kernel) (by rfl) (by rfl) (by first | assumption | exact zu_s) (by exact Nat.le_of_ble_eq_true rfl) ?_
    dsimp only [List.set]
    refine z_iconst (v := 0) C d_EV_tellLate_22 (by decide) ?_
    refine z_istore_n C d_EV_tellLate_23 rfl (by decide) rfl ?_
    dsimp only [List.set]
    have e0 : zu (zu h q (evC ls mu lt lf 1)) lt (ba g 10 (fun y => if y < 0 then fm y else fl y)) = zu h q (evC ls mu lt lf 1) := by
      funext y
      by_cases hy : y = lt
      · subst hy; rw [zu_s, zu_n n2.symm, h2]; rfl
      · rw [zu_n hy]
    have := loop 10 0 (by omega) ht0 hlx
    rw [e0] at this
    exact this
  refine z_if_ne 15 C d_EV_tellLate_4 (by decide) (fun c4 => ?_) (fun c4 => ?_)
  · refine z_iconst (v := 0) C d_EV_tellLate_15 (by decide) ?_
    refine z_iret C d_EV_tellLate_16 ?_
    exact k1 (Or.inl c4)
  · refine z_iload_n C d_EV_tellLate_7 rfl rfl ?_
    refine z_aload_n C d_EV_tellLate_8 rfl rfl ?_
    refine z_get (ci := 6) (T := T_EV) (N := 5) C d_EV_tellLate_9 0 i_EV rfl (by decide) k_659 (fun _ q => q) (by first | assumption | exact zu_s) (by rfl) ?_
    refine z_icmp_gt 17 C d_EV_tellLate_12 (by decide) (fun c12 => ?_) (fun c12 => ?_)
    · exact go c4 c12
    · refine z_iconst (v := 0) C d_EV_tellLate_15 (by decide) ?_
      refine z_iret C d_EV_tellLate_16 ?_
      exact k1 (Or.inr (Int32.not_lt.mp c12))
end CE
