/-! more helpers of the class that only read -/
section RI
variable {g : zG} {T : Tg} {h : Hp} {PR : Option Value → Hp → Prop} {PX : String → Hp → Prop} {x gu lp lm lr ld ly le : Nat} {sec : Int32} {LP LM LR LD LY LE : List Nat}

set_option maxRecDepth 100000 in
theorem ct_RC_isSomebodyIn {l : List PeT} {i0 : Int32} (hx : h x = some (rcC gu lp lm lr ld ly le sec)) (hL : zLS g T h 1 lp LP (l.map peE)) (k : PR (some (.int (if l.any (fun e => e.1 == i0) = true then 1 else 0))) h) : Ct g y_RC_isSomebodyIn w_RC_isSomebodyIn 4 0 0 [.ref x, .int i0] h PR PX := by
  have hlt := hL.lt
  rw [List.length_map] at hlt
  obtain ⟨vs, hvs⟩ := hL.obj
  refine Ct_intro (cc := c_RC_isSomebodyIn) (nL := 3) (ret := (some FieldType.boolean)) (ls := [some (.ref x), some (.int i0), none]) (by decide) (Nat.le_of_ble_eq_true rfl) rfl rfl ?_
  intro p e R s m args below meth c C ht hname
  have loop : ∀ (j i : Nat) , i + j = l.length → PR (some (.int (if (l.drop i).any (fun e => e.1 == i0) = true then 1 else 0))) h → Z g 3 0 0 p e R s m args below meth c (vx_MQ below (zQ g PR) (zX g PX) args s 0 0 (zA g)) 0 0 2 [some (.ref x), some (.int i0), some (.int (nI i))] [] h := by
    intro j
    induction j with
    | zero =>
      intro i hi hp
      have : i = l.length := by omega
      subst this
      rw [List.drop_length] at hp
      refine z_iload_n C d_RC_isSomebodyIn_2 rfl rfl ?_
      refine z_aload_n C d_RC_isSomebodyIn_3 rfl rfl ?_
      refine z_get (ci := 7) (T := T_RC) (N := 8) C d_RC_isSomebodyIn_4 1 i_RC rfl (by decide) k_61 (fun _ q => q) (by first | assumption | exact zu_s) (by rfl) ?_
      refine z_callV (n := 0) (As := []) (rest := [.int (nI l.length)]) (r1 := 1) (mc1 := 0) (ms1 := 0) (ci := 0) (T0 := T_AL) C d_RC_isSomebodyIn_7 k_96 k_93 k_94 k_95 k_4 (by decide +kernel) rfl rfl (by first | assumption | exact zu_s) (by decide) (by decide) (Nat.le_of_ble_eq_true rfl) (by first | decide | omega) (by first | decide | omega) rfl ?_
      refine cl_size hL ?_
      dsimp only [zps]
      rw [List.length_map]
      refine z_icmp_ge 39 C d_RC_isSomebodyIn_10 (by decide) (fun c10 => ?_) (fun c10 => ?_)
      · refine z_iconst (v := 0) C d_RC_isSomebodyIn_39 (by decide) ?_
        refine z_zret C d_RC_isSomebodyIn_40 (by first | rfl | assumption) ?_
        exact hp
      · exact absurd (Int32.le_refl _) c10
    | succ j ih =>
      intro i hi hp
      obtain ⟨e0, he, hd⟩ := zdrop (l := l) (k := i) (by omega)
      rw [hd, List.any_cons] at hp
      obtain ⟨y, hy, hye, hyT⟩ := hL.atm he
      refine z_iload_n C d_RC_isSomebodyIn_2 rfl rfl ?_
      refine z_aload_n C d_RC_isSomebodyIn_3 rfl rfl ?_
      refine z_get (ci := 7) (T := T_RC) (N := 8) C d_RC_isSomebodyIn_4 1 i_RC rfl (by decide) k_61 (fun _ q => q) (by first | assumption | exact zu_s) (by rfl) ?_
      refine z_callV (n := 0) (As := []) (rest := [.int (nI i)]) (r1 := 1) (mc1 := 0) (ms1 := 0) (ci := 0) (T0 := T_AL) C d_RC_isSomebodyIn_7 k_96 k_93 k_94 k_95 k_4 (by decide +kernel) rfl rfl (by first | assumption | exact zu_s) (by decide) (by decide) (Nat.le_of_ble_eq_true rfl) (by first | decide | omega) (by first | decide | omega) rfl ?_
      refine cl_size hL ?_
      dsimp only [zps]
      rw [List.length_map]
      refine z_icmp_ge 39 C d_RC_isSomebodyIn_10 (by decide) (fun c10 => ?_) (fun c10 => ?_)
      · exact absurd c10 (nI_ge (by omega) (by omega))
      · refine z_aload_n C d_RC_isSomebodyIn_13 rfl rfl ?_
        refine z_get (ci := 7) (T := T_RC) (N := 8) C d_RC_isSomebodyIn_14 1 i_RC rfl (by decide) k_61 (fun _ q => q) (by first | assumption | exact zu_s) (by rfl) ?_
        refine z_iload_n C d_RC_isSomebodyIn_17 rfl rfl ?_
        refine z_callV (n := 1) (As := [.int (nI i)]) (rest := []) (r1 := 3) (mc1 := 0) (ms1 := 0) (ci := 0) (T0 := T_AL) C d_RC_isSomebodyIn_18 k_277 k_274 k_275 k_276 k_4 (by decide +kernel) rfl rfl (by first | assumption | exact zu_s) (by decide) (by decide) (Nat.le_of_ble_eq_true rfl) (by first | decide | omega) (by first | decide | omega) rfl ?_
        refine cl_get hL hy ?_
        dsimp only [zps]
        refine z_cast (ci := 1) C d_RC_isSomebodyIn_21 rfl k_166 hye ?_
        refine z_get (ci := 1) (T := T_PE) (N := 3) C d_RC_isSomebodyIn_24 0 i_PE rfl (by decide) k_173 (fun _ q => q) hye (by rfl) ?_
        refine z_iload_n C d_RC_isSomebodyIn_27 rfl rfl ?_
        refine z_icmp_ne 33 C d_RC_isSomebodyIn_28 (by decide) (fun c28 => ?_) (fun c28 => ?_)
        · refine z_iinc C d_RC_isSomebodyIn_33 rfl (by decide) rfl ?_
          simp only [List.set, zi1, zim1]
          rw [nI_1]
          refine z_goto 2 C d_RC_isSomebodyIn_36 (by decide) ?_
          refine ih (i + 1) (by omega) ?_
          rw [show (e0.1 == i0) = false from beq_eq_false_iff_ne.mpr c28, Bool.false_or] at hp
          exact hp
        · refine z_iconst (v := 1) C d_RC_isSomebodyIn_31 (by decide) ?_
          refine z_zret C d_RC_isSomebodyIn_32 (by first | rfl | assumption) ?_
          rw [show (e0.1 == i0) = true from beq_iff_eq.mpr c28, Bool.true_or, if_pos rfl] at hp
          exact hp
  refine z_iconst (v := 0) C d_RC_isSomebodyIn_0 (by decide) ?_
  refine z_istore_n C d_RC_isSomebodyIn_1 rfl (by decide) rfl ?_
  dsimp only [List.set]
  exact loop l.length 0 (by omega) (by rw [List.drop_zero]; exact k)
set_option maxRecDepth 100000 in
theorem ct_RC_isSent {l : List MdT} {i0 : Int32} (hx : h x = some (rcC gu lp lm lr ld ly le sec)) (hL : zLS g T h 5 ly LY (l.map mdE)) (k : PR (some (.int (if l.any (fun e => e.tm == i0) = true then 1 else 0))) h) : Ct g y_RC_isSent w_RC_isSent 4 0 0 [.ref x, .int i0] h PR PX := by
  have hlt := hL.lt
  rw [List.length_map] at hlt
  obtain ⟨vs, hvs⟩ := hL.obj
  refine Ct_intro (cc := c_RC_isSent) (nL := 3) (ret := (some FieldType.boolean)) (ls := [some (.ref x), some (.int i0), none]) (by decide) (Nat.le_of_ble_eq_true rfl) rfl rfl ?_
  intro p e R s m args below meth c C ht hname
  have loop : ∀ (j i : Nat) , i + j = l.length → PR (some (.int (if (l.drop i).any (fun e => e.tm == i0) = true then 1 else 0))) h → Z g 3 0 0 p e R s m args below meth c (vx_MQ below (zQ g PR) (zX g PX) args s 0 0 (zA g)) 0 0 2 [some (.ref x), some (.int i0), some (.int (nI i))] [] h := by
    intro j
    induction j with
    | zero =>
      intro i hi hp
      have : i = l.length := by omega
      subst this
      rw [List.drop_length] at hp
      refine z_iload_n C d_RC_isSent_2 rfl rfl ?_
      refine z_aload_n C d_RC_isSent_3 rfl rfl ?_
      refine z_get (ci := 7) (T := T_RC) (N := 8) C d_RC_isSent_4 5 i_RC rfl (by decide) k_65 (fun _ q => q) (by first | assumption | exact zu_s) (by rfl) ?_
      refine z_callV (n := 0) (As := []) (rest := [.int (nI l.length)]) (r1 := 1) (mc1 := 0) (ms1 := 0) (ci := 0) (T0 := T_AL) C d_RC_isSent_7 k_96 k_93 k_94 k_95 k_4 (by decide +kernel) rfl rfl (by first | assumption | exact zu_s) (by decide) (by decide) (Nat.le_of_ble_eq_true rfl) (by first | decide | omega) (by first | decide | omega) rfl ?_
      refine cl_size hL ?_
      dsimp only [zps]
      rw [List.length_map]
      refine z_icmp_ge 39 C d_RC_isSent_10 (by decide) (fun c10 => ?_) (fun c10 => ?_)
      · refine z_iconst (v := 0) C d_RC_isSent_39 (by decide) ?_
        refine z_zret C d_RC_isSent_40 (by first | rfl | assumption) ?_
        exact hp
      · exact absurd (Int32.le_refl _) c10
    | succ j ih =>
      intro i hi hp
      obtain ⟨e0, he, hd⟩ := zdrop (l := l) (k := i) (by omega)
      rw [hd, List.any_cons] at hp
      obtain ⟨y, hy, hye, hyT⟩ := hL.atm he
      refine z_iload_n C d_RC_isSent_2 rfl rfl ?_
      refine z_aload_n C d_RC_isSent_3 rfl rfl ?_
      refine z_get (ci := 7) (T := T_RC) (N := 8) C d_RC_isSent_4 5 i_RC rfl (by decide) k_65 (fun _ q => q) (by first | assumption | exact zu_s) (by rfl) ?_
      refine z_callV (n := 0) (As := []) (rest := [.int (nI i)]) (r1 := 1) (mc1 := 0) (ms1 := 0) (ci := 0) (T0 := T_AL) C d_RC_isSent_7 k_96 k_93 k_94 k_95 k_4 (by decide +kernel) rfl rfl (by first | assumption | exact zu_s) (by decide) (by decide) (Nat.le_of_ble_eq_true rfl) (by first | decide | omega) (by first | decide | omega) rfl ?_
      refine cl_size hL ?_
      dsimp only [zps]
      rw [List.length_map]
      refine z_icmp_ge 39 C d_RC_isSent_10 (by decide) (fun c10 => ?_) (fun c10 => ?_)
      · exact absurd c10 (nI_ge (by omega) (by omega))
      · refine z_aload_n C d_RC_isSent_13 rfl rfl ?_
        refine z_get (ci := 7) (T := T_RC) (N := 8) C d_RC_isSent_14 5 i_RC rfl (by decide) k_65 (fun _ q => q) (by first | assumption | exact zu_s) (by rfl) ?_
        refine z_iload_n C d_RC_isSent_17 rfl rfl ?_
        refine z_callV (n := 1) (As := [.int (nI i)]) (rest := []) (r1 := 3) (mc1 := 0) (ms1 := 0) (ci := 0) (T0 := T_AL) C d_RC_isSent_18 k_277 k_274 k_275 k_276 k_4 (by decide +kernel) rfl rfl (by first | assumption | exact zu_s) (by decide) (by decide) (Nat.le_of_ble_eq_true rfl) (by first | decide | omega) (by first | decide | omega) rfl ?_
        refine cl_get hL hy ?_
        dsimp only [zps]
        refine z_cast (ci := 5) C d_RC_isSent_21 rfl k_388 hye ?_
        refine z_get (ci := 5) (T := T_MD) (N := 5) C d_RC_isSent_24 4 i_MD rfl (by decide) k_595 (fun _ q => q) hye (by rfl) ?_
        refine z_iload_n C d_RC_isSent_27 rfl rfl ?_
        refine z_icmp_ne 33 C d_RC_isSent_28 (by decide) (fun c28 => ?_) (fun c28 => ?_)
        · refine z_iinc C d_RC_isSent_33 rfl (by decide) rfl ?_
          simp only [List.set, zi1, zim1]
          rw [nI_1]
          refine z_goto 2 C d_RC_isSent_36 (by decide) ?_
          refine ih (i + 1) (by omega) ?_
          rw [show (e0.tm == i0) = false from beq_eq_false_iff_ne.mpr c28, Bool.false_or] at hp
          exact hp
        · refine z_iconst (v := 1) C d_RC_isSent_31 (by decide) ?_
          refine z_zret C d_RC_isSent_32 (by first | rfl | assumption) ?_
          rw [show (e0.tm == i0) = true from beq_iff_eq.mpr c28, Bool.true_or, if_pos rfl] at hp
          exact hp
  refine z_iconst (v := 0) C d_RC_isSent_0 (by decide) ?_
  refine z_istore_n C d_RC_isSent_1 rfl (by decide) rfl ?_
  dsimp only [List.set]
  exact loop l.length 0 (by omega) (by rw [List.drop_zero]; exact k)
set_option maxRecDepth 100000 in
theorem ct_RC_hasOpenMayday {l : List MdT} {i0 : Int32} (hx : h x = some (rcC gu lp lm lr ld ly le sec)) (hL : zLS g T h 5 ly LY (l.map mdE)) (k : PR (some (.int (if l.any (fun e => e.op != 0 && e.1 == i0) = true then 1 else 0))) h) : Ct g y_RC_hasOpenMayday w_RC_hasOpenMayday 4 0 0 [.ref x, .int i0] h PR PX := by
  have hlt := hL.lt
  rw [List.length_map] at hlt
  obtain ⟨vs, hvs⟩ := hL.obj
  refine Ct_intro (cc := c_RC_hasOpenMayday) (nL := 4) (ret := (some FieldType.boolean)) (ls := [some (.ref x), some (.int i0), none, none]) (by decide) (Nat.le_of_ble_eq_true rfl) rfl rfl ?_
  intro p e R s m args below meth c C ht hname
  have loop : ∀ (j i : Nat) (z3 : Option Value), i + j = l.length → PR (some (.int (if (l.drop i).any (fun e => e.op != 0 && e.1 == i0) = true then 1 else 0))) h → Z g 4 0 0 p e R s m args below meth c (vx_MQ below (zQ g PR) (zX g PX) args s 0 0 (zA g)) 0 0 2 [some (.ref x), some (.int i0), some (.int (nI i)), z3] [] h := by
    intro j
    induction j with
    | zero =>
      intro i z3 hi hp
      have : i = l.length := by omega
      subst this
      rw [List.drop_length] at hp
      refine z_iload_n C d_RC_hasOpenMayday_2 rfl rfl ?_
      refine z_aload_n C d_RC_hasOpenMayday_3 rfl rfl ?_
      refine z_get (ci := 7) (T := T_RC) (N := 8) C d_RC_hasOpenMayday_4 5 i_RC rfl (by decide) k_65 (fun _ q => q) (by first | assumption | exact zu_s) (by rfl) ?_
      refine z_callV (n := 0) (As := []) (rest := [.int (nI l.length)]) (r1 := 1) (mc1 := 0) (ms1 := 0) (ci := 0) (T0 := T_AL) C d_RC_hasOpenMayday_7 k_96 k_93 k_94 k_95 k_4 (by decide +kernel) rfl rfl (by first | assumption | exact zu_s) (by decide) (by decide) (Nat.le_of_ble_eq_true rfl) (by first | decide | omega) (by first | decide | omega) rfl ?_
      refine cl_size hL ?_
      dsimp only [zps]
      rw [List.length_map]
      refine z_icmp_ge 48 C d_RC_hasOpenMayday_10 (by decide) (fun c10 => ?_) (fun c10 => ?_)
      · refine z_iconst (v := 0) C d_RC_hasOpenMayday_48 (by decide) ?_
        refine z_zret C d_RC_hasOpenMayday_49 (by first | rfl | assumption) ?_
        exact hp
      · exact absurd (Int32.le_refl _) c10
    | succ j ih =>
      intro i z3 hi hp
      obtain ⟨e0, he, hd⟩ := zdrop (l := l) (k := i) (by omega)
      rw [hd, List.any_cons] at hp
      obtain ⟨y, hy, hye, hyT⟩ := hL.atm he
      refine z_iload_n C d_RC_hasOpenMayday_2 rfl rfl ?_
      refine z_aload_n C d_RC_hasOpenMayday_3 rfl rfl ?_
      refine z_get (ci := 7) (T := T_RC) (N := 8) C d_RC_hasOpenMayday_4 5 i_RC rfl (by decide) k_65 (fun _ q => q) (by first | assumption | exact zu_s) (by rfl) ?_
      refine z_callV (n := 0) (As := []) (rest := [.int (nI i)]) (r1 := 1) (mc1 := 0) (ms1 := 0) (ci := 0) (T0 := T_AL) C d_RC_hasOpenMayday_7 k_96 k_93 k_94 k_95 k_4 (by decide +kernel) rfl rfl (by first | assumption | exact zu_s) (by decide) (by decide) (Nat.le_of_ble_eq_true rfl) (by first | decide | omega) (by first | decide | omega) rfl ?_
      refine cl_size hL ?_
      dsimp only [zps]
      rw [List.length_map]
      refine z_icmp_ge 48 C d_RC_hasOpenMayday_10 (by decide) (fun c10 => ?_) (fun c10 => ?_)
      · exact absurd c10 (nI_ge (by omega) (by omega))
      · refine z_aload_n C d_RC_hasOpenMayday_13 rfl rfl ?_
        refine z_get (ci := 7) (T := T_RC) (N := 8) C d_RC_hasOpenMayday_14 5 i_RC rfl (by decide) k_65 (fun _ q => q) (by first | assumption | exact zu_s) (by rfl) ?_
        refine z_iload_n C d_RC_hasOpenMayday_17 rfl rfl ?_
        refine z_callV (n := 1) (As := [.int (nI i)]) (rest := []) (r1 := 3) (mc1 := 0) (ms1 := 0) (ci := 0) (T0 := T_AL) C d_RC_hasOpenMayday_18 k_277 k_274 k_275 k_276 k_4 (by decide +kernel) rfl rfl (by first | assumption | exact zu_s) (by decide) (by decide) (Nat.le_of_ble_eq_true rfl) (by first | decide | omega) (by first | decide | omega) rfl ?_
        refine cl_get hL hy ?_
        dsimp only [zps]
        refine z_cast (ci := 5) C d_RC_hasOpenMayday_21 rfl k_388 hye ?_
        refine z_astore_n C d_RC_hasOpenMayday_24 rfl (by decide) rfl ?_
        dsimp only [List.set]
        refine z_aload_n C d_RC_hasOpenMayday_25 rfl rfl ?_
        refine z_get (ci := 5) (T := T_MD) (N := 5) C d_RC_hasOpenMayday_26 3 i_MD rfl (by decide) k_593 (fun _ q => q) hye (by rfl) ?_
        refine z_if_eq 42 C d_RC_hasOpenMayday_29 (by decide) (fun c29 => ?_) (fun c29 => ?_)
        · refine z_iinc C d_RC_hasOpenMayday_42 rfl (by decide) rfl ?_
          simp only [List.set, zi1, zim1]
          rw [nI_1]
          refine z_goto 2 C d_RC_hasOpenMayday_45 (by decide) ?_
          refine ih (i + 1) _ (by omega) ?_
          rw [show (e0.op != 0) = false from by simpa using c29, Bool.false_and, Bool.false_or] at hp
          exact hp
        · refine z_aload_n C d_RC_hasOpenMayday_32 rfl rfl ?_
          refine z_get (ci := 5) (T := T_MD) (N := 5) C d_RC_hasOpenMayday_33 0 i_MD rfl (by decide) k_587 (fun _ q => q) hye (by rfl) ?_
          refine z_iload_n C d_RC_hasOpenMayday_36 rfl rfl ?_
          refine z_icmp_ne 42 C d_RC_hasOpenMayday_37 (by decide) (fun c37 => ?_) (fun c37 => ?_)
          · refine z_iinc C d_RC_hasOpenMayday_42 rfl (by decide) rfl ?_
            simp only [List.set, zi1, zim1]
            rw [nI_1]
            refine z_goto 2 C d_RC_hasOpenMayday_45 (by decide) ?_
            refine ih (i + 1) _ (by omega) ?_
            rw [show (e0.1 == i0) = false from beq_eq_false_iff_ne.mpr c37, Bool.and_false, Bool.false_or] at hp
            exact hp
          · refine z_iconst (v := 1) C d_RC_hasOpenMayday_40 (by decide) ?_
            refine z_zret C d_RC_hasOpenMayday_41 (by first | rfl | assumption) ?_
            rw [show (e0.1 == i0) = true from beq_iff_eq.mpr c37, show (e0.op != 0) = true from by simpa using c29, Bool.and_true, Bool.true_or, if_pos rfl] at hp
            exact hp
  refine z_iconst (v := 0) C d_RC_hasOpenMayday_0 (by decide) ?_
  refine z_istore_n C d_RC_hasOpenMayday_1 rfl (by decide) rfl ?_
  dsimp only [List.set]
  exact loop l.length 0 none (by omega) (by rw [List.drop_zero]; exact k)
set_option maxRecDepth 100000 in
theorem ct_RC_isAskedNow {l : List RoT} {i0 : Int32} (hx : h x = some (rcC gu lp lm lr ld ly le sec)) (hL : zLS g T h 3 lr LR (l.map roE)) (k : PR (some (.int (if l.any (fun e => decide (e.rd < 3) && (i0 == -1 || decide (e.1.2 = -1 ∨ e.1.2 = i0))) = true then 1 else 0))) h) : Ct g y_RC_isAskedNow w_RC_isAskedNow 4 0 0 [.ref x, .int i0] h PR PX := by
  have hlt := hL.lt
  rw [List.length_map] at hlt
  obtain ⟨vs, hvs⟩ := hL.obj
  refine Ct_intro (cc := c_RC_isAskedNow) (nL := 4) (ret := (some FieldType.boolean)) (ls := [some (.ref x), some (.int i0), none, none]) (by decide) (Nat.le_of_ble_eq_true rfl) rfl rfl ?_
  intro p e R s m args below meth c C ht hname
  have loop : ∀ (j i : Nat) (z3 : Option Value), i + j = l.length → PR (some (.int (if (l.drop i).any (fun e => decide (e.rd < 3) && (i0 == -1 || decide (e.1.2 = -1 ∨ e.1.2 = i0))) = true then 1 else 0))) h → Z g 4 0 0 p e R s m args below meth c (vx_MQ below (zQ g PR) (zX g PX) args s 0 0 (zA g)) 0 0 2 [some (.ref x), some (.int i0), some (.int (nI i)), z3] [] h := by
    intro j
    induction j with
    | zero =>
      intro i z3 hi hp
      have : i = l.length := by omega
      subst this
      rw [List.drop_length] at hp
      refine z_iload_n C d_RC_isAskedNow_2 rfl rfl ?_
      refine z_aload_n C d_RC_isAskedNow_3 rfl rfl ?_
      refine z_get (ci := 7) (T := T_RC) (N := 8) C d_RC_isAskedNow_4 3 i_RC rfl (by decide) k_63 (fun _ q => q) (by first | assumption | exact zu_s) (by rfl) ?_
      refine z_callV (n := 0) (As := []) (rest := [.int (nI l.length)]) (r1 := 1) (mc1 := 0) (ms1 := 0) (ci := 0) (T0 := T_AL) C d_RC_isAskedNow_7 k_96 k_93 k_94 k_95 k_4 (by decide +kernel) rfl rfl (by first | assumption | exact zu_s) (by decide) (by decide) (Nat.le_of_ble_eq_true rfl) (by first | decide | omega) (by first | decide | omega) rfl ?_
      refine cl_size hL ?_
      dsimp only [zps]
      rw [List.length_map]
      refine z_icmp_ge 53 C d_RC_isAskedNow_10 (by decide) (fun c10 => ?_) (fun c10 => ?_)
      · refine z_iconst (v := 0) C d_RC_isAskedNow_53 (by decide) ?_
        refine z_zret C d_RC_isAskedNow_54 (by first | rfl | assumption) ?_
        exact hp
      · exact absurd (Int32.le_refl _) c10
    | succ j ih =>
      intro i z3 hi hp
      obtain ⟨e0, he, hd⟩ := zdrop (l := l) (k := i) (by omega)
      rw [hd, List.any_cons] at hp
      obtain ⟨y, hy, hye, hyT⟩ := hL.atm he
      refine z_iload_n C d_RC_isAskedNow_2 rfl rfl ?_
      refine z_aload_n C d_RC_isAskedNow_3 rfl rfl ?_
      refine z_get (ci := 7) (T := T_RC) (N := 8) C d_RC_isAskedNow_4 3 i_RC rfl (by decide) k_63 (fun _ q => q) (by first | assumption | exact zu_s) (by rfl) ?_
      refine z_callV (n := 0) (As := []) (rest := [.int (nI i)]) (r1 := 1) (mc1 := 0) (ms1 := 0) (ci := 0) (T0 := T_AL) C d_RC_isAskedNow_7 k_96 k_93 k_94 k_95 k_4 (by decide +kernel) rfl rfl (by first | assumption | exact zu_s) (by decide) (by decide) (Nat.le_of_ble_eq_true rfl) (by first | decide | omega) (by first | decide | omega) rfl ?_
      refine cl_size hL ?_
      dsimp only [zps]
      rw [List.length_map]
      refine z_icmp_ge 53 C d_RC_isAskedNow_10 (by decide) (fun c10 => ?_) (fun c10 => ?_)
      · exact absurd c10 (nI_ge (by omega) (by omega))
      · refine z_aload_n C d_RC_isAskedNow_13 rfl rfl ?_
        refine z_get (ci := 7) (T := T_RC) (N := 8) C d_RC_isAskedNow_14 3 i_RC rfl (by decide) k_63 (fun _ q => q) (by first | assumption | exact zu_s) (by rfl) ?_
        refine z_iload_n C d_RC_isAskedNow_17 rfl rfl ?_
        refine z_callV (n := 1) (As := [.int (nI i)]) (rest := []) (r1 := 3) (mc1 := 0) (ms1 := 0) (ci := 0) (T0 := T_AL) C d_RC_isAskedNow_18 k_277 k_274 k_275 k_276 k_4 (by decide +kernel) rfl rfl (by first | assumption | exact zu_s) (by decide) (by decide) (Nat.le_of_ble_eq_true rfl) (by first | decide | omega) (by first | decide | omega) rfl ?_
        refine cl_get hL hy ?_
        dsimp only [zps]
        refine z_cast (ci := 3) C d_RC_isAskedNow_21 rfl k_375 hye ?_
        refine z_astore_n C d_RC_isAskedNow_24 rfl (by decide) rfl ?_
        dsimp only [List.set]
        refine z_aload_n C d_RC_isAskedNow_25 rfl rfl ?_
        refine z_callV (n := 0) (As := []) (rest := []) (r1 := 1) (mc1 := 0) (ms1 := 0) (ci := 3) (T0 := T_RO) C d_RC_isAskedNow_26 k_379 k_376 k_377 k_378 k_21 (by decide +kernel) rfl rfl hye (by decide) (by decide) (Nat.le_of_ble_eq_true rfl) (by first | decide | omega) (by first | decide | omega) rfl ?_
        refine ct_RO_isOver hye ?_
        dsimp only [zps]
        by_cases hr : e0.rd < 3
        · rw [if_pos hr]
          rw [decide_eq_true hr, Bool.true_and] at hp
          refine z_if_ne 47 C d_RC_isAskedNow_29 (by decide) (fun c29 => ?_) (fun c29 => ?_)
          · exact absurd rfl c29
          · refine z_iload_n C d_RC_isAskedNow_32 rfl rfl ?_
            refine z_iconst (v := (-1)) C d_RC_isAskedNow_33 (by decide) ?_
            refine z_icmp_eq 45 C d_RC_isAskedNow_34 (by decide) (fun c34 => ?_) (fun c34 => ?_)
            · refine z_iconst (v := 1) C d_RC_isAskedNow_45 (by decide) ?_
              refine z_zret C d_RC_isAskedNow_46 (by first | rfl | assumption) ?_
              rw [show (i0 == -1) = true from beq_iff_eq.mpr c34, Bool.true_or, Bool.true_or, if_pos rfl] at hp
              exact hp
            · have hq0 : (i0 == -1) = false := beq_eq_false_iff_ne.mpr c34
              rw [hq0, Bool.false_or] at hp
              refine z_aload_n C d_RC_isAskedNow_37 rfl rfl ?_
              refine z_iload_n C d_RC_isAskedNow_38 rfl rfl ?_
              refine z_callV (n := 1) (As := [.int i0]) (rest := []) (r1 := 1) (mc1 := 0) (ms1 := 0) (ci := 3) (T0 := T_RO) C d_RC_isAskedNow_39 k_383 k_380 k_381 k_382 k_21 (by decide +kernel) rfl rfl hye (by decide) (by decide) (Nat.le_of_ble_eq_true rfl) (by first | decide | omega) (by first | decide | omega) rfl ?_
              refine ct_RO_asksSector hye ?_
              dsimp only [zps]
              by_cases ha : e0.1.2 = -1 ∨ e0.1.2 = i0
              · rw [if_pos ha]
                rw [decide_eq_true ha, Bool.true_or, if_pos rfl] at hp
                refine z_if_eq 47 C d_RC_isAskedNow_42 (by decide) (fun c42 => ?_) (fun c42 => ?_)
                · exact absurd c42 (by decide)
                · refine z_iconst (v := 1) C d_RC_isAskedNow_45 (by decide) ?_
                  refine z_zret C d_RC_isAskedNow_46 (by first | rfl | assumption) ?_
                  exact hp
              · rw [if_neg ha]
                rw [decide_eq_false ha, Bool.false_or] at hp
                refine z_if_eq 47 C d_RC_isAskedNow_42 (by decide) (fun c42 => ?_) (fun c42 => ?_)
                · refine z_iinc C d_RC_isAskedNow_47 rfl (by decide) rfl ?_
                  simp only [List.set, zi1, zim1]
                  rw [nI_1]
                  refine z_goto 2 C d_RC_isAskedNow_50 (by decide) ?_
                  refine ih (i + 1) _ (by omega) ?_
                  rw [hq0]
                  exact hp
                · exact absurd rfl c42
        · rw [if_neg hr]
          rw [decide_eq_false hr, Bool.false_and, Bool.false_or] at hp
          refine z_if_ne 47 C d_RC_isAskedNow_29 (by decide) (fun c29 => ?_) (fun c29 => ?_)
          · refine z_iinc C d_RC_isAskedNow_47 rfl (by decide) rfl ?_
            simp only [List.set, zi1, zim1]
            rw [nI_1]
            refine z_goto 2 C d_RC_isAskedNow_50 (by decide) ?_
            exact ih (i + 1) _ (by omega) hp
          · exact absurd c29 (by decide)
  refine z_iconst (v := 0) C d_RC_isAskedNow_0 (by decide) ?_
  refine z_istore_n C d_RC_isAskedNow_1 rfl (by decide) rfl ?_
  dsimp only [List.set]
  exact loop l.length 0 none (by omega) (by rw [List.drop_zero]; exact k)
set_option maxRecDepth 100000 in
theorem ct_RC_rollsOn {l : List RoT} (hx : h x = some (rcC gu lp lm lr ld ly le sec)) (hL : zLS g T h 3 lr LR (l.map roE)) (k : PR (some (.int (nI (l.countP (fun e => decide (e.rd < 3)))))) h) : Ct g y_RC_rollsOn w_RC_rollsOn 4 0 0 [.ref x] h PR PX := by
  have hlt := hL.lt
  rw [List.length_map] at hlt
  obtain ⟨vs, hvs⟩ := hL.obj
  refine Ct_intro (cc := c_RC_rollsOn) (nL := 3) (ret := (some FieldType.int)) (ls := [some (.ref x), none, none]) (by decide) (Nat.le_of_ble_eq_true rfl) rfl rfl ?_
  intro p e R s m args below meth c C ht hname
  have loop : ∀ (j i acc : Nat), i + j = l.length → PR (some (.int (nI (acc + (l.drop i).countP (fun e => decide (e.rd < 3)))))) h → Z g 3 0 0 p e R s m args below meth c (vx_MQ below (zQ g PR) (zX g PX) args s 0 0 (zA g)) 0 0 4 [some (.ref x), some (.int (nI acc)), some (.int (nI i))] [] h := by
    intro j
    induction j with
    | zero =>
      intro i acc hi hp
      have : i = l.length := by omega
      subst this
      rw [List.drop_length] at hp
      refine z_iload_n C d_RC_rollsOn_4 rfl rfl ?_
      refine z_aload_n C d_RC_rollsOn_5 rfl rfl ?_
      refine z_get (ci := 7) (T := T_RC) (N := 8) C d_RC_rollsOn_6 3 i_RC rfl (by decide) k_63 (fun _ q => q) (by first | assumption | exact zu_s) (by rfl) ?_
      refine z_callV (n := 0) (As := []) (rest := [.int (nI l.length)]) (r1 := 1) (mc1 := 0) (ms1 := 0) (ci := 0) (T0 := T_AL) C d_RC_rollsOn_9 k_96 k_93 k_94 k_95 k_4 (by decide +kernel) rfl rfl (by first | assumption | exact zu_s) (by decide) (by decide) (Nat.le_of_ble_eq_true rfl) (by first | decide | omega) (by first | decide | omega) rfl ?_
      refine cl_size hL ?_
      dsimp only [zps]
      rw [List.length_map]
      refine z_icmp_ge 41 C d_RC_rollsOn_12 (by decide) (fun c12 => ?_) (fun c12 => ?_)
      · refine z_iload_n C d_RC_rollsOn_41 rfl rfl ?_
        refine z_iret C d_RC_rollsOn_42 ?_
        exact hp
      · exact absurd (Int32.le_refl _) c12
    | succ j ih =>
      intro i acc hi hp
      obtain ⟨e0, he, hd⟩ := zdrop (l := l) (k := i) (by omega)
      rw [hd, List.countP_cons] at hp
      obtain ⟨y, hy, hye, hyT⟩ := hL.atm he
      refine z_iload_n C d_RC_rollsOn_4 rfl rfl ?_
      refine z_aload_n C d_RC_rollsOn_5 rfl rfl ?_
      refine z_get (ci := 7) (T := T_RC) (N := 8) C d_RC_rollsOn_6 3 i_RC rfl (by decide) k_63 (fun _ q => q) (by first | assumption | exact zu_s) (by rfl) ?_
      refine z_callV (n := 0) (As := []) (rest := [.int (nI i)]) (r1 := 1) (mc1 := 0) (ms1 := 0) (ci := 0) (T0 := T_AL) C d_RC_rollsOn_9 k_96 k_93 k_94 k_95 k_4 (by decide +kernel) rfl rfl (by first | assumption | exact zu_s) (by decide) (by decide) (Nat.le_of_ble_eq_true rfl) (by first | decide | omega) (by first | decide | omega) rfl ?_
      refine cl_size hL ?_
      dsimp only [zps]
      rw [List.length_map]
      refine z_icmp_ge 41 C d_RC_rollsOn_12 (by decide) (fun c12 => ?_) (fun c12 => ?_)
      · exact absurd c12 (nI_ge (by omega) (by omega))
      · refine z_aload_n C d_RC_rollsOn_15 rfl rfl ?_
        refine z_get (ci := 7) (T := T_RC) (N := 8) C d_RC_rollsOn_16 3 i_RC rfl (by decide) k_63 (fun _ q => q) (by first | assumption | exact zu_s) (by rfl) ?_
        refine z_iload_n C d_RC_rollsOn_19 rfl rfl ?_
        refine z_callV (n := 1) (As := [.int (nI i)]) (rest := []) (r1 := 3) (mc1 := 0) (ms1 := 0) (ci := 0) (T0 := T_AL) C d_RC_rollsOn_20 k_277 k_274 k_275 k_276 k_4 (by decide +kernel) rfl rfl (by first | assumption | exact zu_s) (by decide) (by decide) (Nat.le_of_ble_eq_true rfl) (by first | decide | omega) (by first | decide | omega) rfl ?_
        refine cl_get hL hy ?_
        dsimp only [zps]
        refine z_cast (ci := 3) C d_RC_rollsOn_23 rfl k_375 hye ?_
        refine z_callV (n := 0) (As := []) (rest := []) (r1 := 1) (mc1 := 0) (ms1 := 0) (ci := 3) (T0 := T_RO) C d_RC_rollsOn_26 k_379 k_376 k_377 k_378 k_21 (by decide +kernel) rfl rfl hye (by decide) (by decide) (Nat.le_of_ble_eq_true rfl) (by first | decide | omega) (by first | decide | omega) rfl ?_
        refine ct_RO_isOver hye ?_
        dsimp only [zps]
        by_cases hr : e0.rd < 3
        · rw [if_pos hr]
          rw [if_pos (by simpa using hr)] at hp
          refine z_if_ne 35 C d_RC_rollsOn_29 (by decide) (fun c29 => ?_) (fun c29 => ?_)
          · exact absurd rfl c29
          · refine z_iinc C d_RC_rollsOn_32 rfl (by decide) rfl ?_
            simp only [List.set, zi1, zim1]
            refine z_iinc C d_RC_rollsOn_35 rfl (by decide) rfl ?_
            simp only [List.set, zi1, zim1]
            rw [nI_1, nI_1]
            refine z_goto 4 C d_RC_rollsOn_38 (by decide) ?_
            refine ih (i + 1) (acc + 1) (by omega) ?_
            rw [show acc + 1 + (l.drop (i + 1)).countP (fun e => decide (e.rd < 3)) = acc + ((l.drop (i + 1)).countP (fun e => decide (e.rd < 3)) + 1) by omega]
            exact hp
        · rw [if_neg hr]
          rw [if_neg (by simpa using hr)] at hp
          refine z_if_ne 35 C d_RC_rollsOn_29 (by decide) (fun c29 => ?_) (fun c29 => ?_)
          · refine z_iinc C d_RC_rollsOn_35 rfl (by decide) rfl ?_
            simp only [List.set, zi1, zim1]
            rw [nI_1]
            refine z_goto 4 C d_RC_rollsOn_38 (by decide) ?_
            exact ih (i + 1) acc (by omega) hp
          · exact absurd c29 (by decide)
  refine z_iconst (v := 0) C d_RC_rollsOn_0 (by decide) ?_
  refine z_istore_n C d_RC_rollsOn_1 rfl (by decide) rfl ?_
  dsimp only [List.set]
  refine z_iconst (v := 0) C d_RC_rollsOn_2 (by decide) ?_
  refine z_istore_n C d_RC_rollsOn_3 rfl (by decide) rfl ?_
  dsimp only [List.set]
  exact loop l.length 0 0 (by omega) (by simpa using k)
/-- the lowest team that no mayday has -/
def lft (l : List MdT) : Int32 := if l.any (fun e => e.tm == 0) = false then 0 else if l.any (fun e => e.tm == 1) = false then 1 else if l.any (fun e => e.tm == 2) = false then 2 else if l.any (fun e => e.tm == 3) = false then 3 else -1
set_option maxRecDepth 100000 in
theorem ct_RC_lowestFreeTeam {l : List MdT} (hx : h x = some (rcC gu lp lm lr ld ly le sec)) (hL : zLS g T h 5 ly LY (l.map mdE)) (k : PR (some (.int (lft l))) h) : Ct g y_RC_lowestFreeTeam w_RC_lowestFreeTeam 5 0 0 [.ref x] h PR PX := by
  refine Ct_intro (cc := c_RC_lowestFreeTeam) (nL := 2) (ret := (some FieldType.int)) (ls := [some (.ref x), none]) (by decide) (Nat.le_of_ble_eq_true rfl) rfl rfl ?_
  intro p e R s m args below meth c C ht hname
  have step : ∀ (t : Int32), t < 4 → (l.any (fun e => e.tm == t) = false → PR (some (.int t)) h) → (l.any (fun e => e.tm == t) = true → Z g 2 0 0 p e R s m args below meth c (vx_MQ below (zQ g PR) (zX g PX) args s 0 0 (zA g)) 0 0 2 [some (.ref x), some (.int (t + 1))] [] h) → Z g 2 0 0 p e R s m args below meth c (vx_MQ below (zQ g PR) (zX g PX) args s 0 0 (zA g)) 0 0 2 [some (.ref x), some (.int t)] [] h := by
    intro t ht4 h1 h2
    refine z_iload_n C d_RC_lowestFreeTeam_2 rfl rfl ?_
    refine z_iconst (v := 4) C d_RC_lowestFreeTeam_3 (by decide) ?_
    refine z_icmp_ge 23 C d_RC_lowestFreeTeam_4 (by decide) (fun c4 => ?_) (fun c4 => ?_)
    · exact absurd c4 (Int32.not_le.mpr ht4)
    · refine z_aload_n C d_RC_lowestFreeTeam_7 rfl rfl ?_
      refine z_iload_n C d_RC_lowestFreeTeam_8 rfl rfl ?_
      refine z_callV (n := 1) (As := [.int t]) (rest := []) (r1 := 4) (mc1 := 0) (ms1 := 0) (ci := 7) (T0 := T_RC) C d_RC_lowestFreeTeam_9 k_581 k_578 k_580 ks_16 k_1 (by decide +kernel) rfl rfl (by first | assumption | exact zu_s) (by decide) (by decide) (Nat.le_of_ble_eq_true rfl) (by first | decide | omega) (by first | decide | omega) rfl ?_
      refine ct_RC_isSent hx hL ?_
      dsimp only [zps]
      cases ha : l.any (fun e => e.tm == t) with
      | false =>
        rw [if_neg (by decide)]
        refine z_if_ne 17 C d_RC_lowestFreeTeam_12 (by decide) (fun c12 => ?_) (fun c12 => ?_)
        · exact absurd rfl c12
        · refine z_iload_n C d_RC_lowestFreeTeam_15 rfl rfl ?_
          refine z_iret C d_RC_lowestFreeTeam_16 ?_
          exact h1 ha
      | true =>
        rw [if_pos rfl]
        refine z_if_ne 17 C d_RC_lowestFreeTeam_12 (by decide) (fun c12 => ?_) (fun c12 => ?_)
        · refine z_iinc C d_RC_lowestFreeTeam_17 rfl (by decide) rfl ?_
          simp only [List.set, zi1, zim1]
          refine z_goto 2 C d_RC_lowestFreeTeam_20 (by decide) ?_
          exact h2 ha
        · exact absurd c12 (by decide)
  refine z_iconst (v := 0) C d_RC_lowestFreeTeam_0 (by decide) ?_
  refine z_istore_n C d_RC_lowestFreeTeam_1 rfl (by decide) rfl ?_
  dsimp only [List.set]
  unfold lft at k
  refine step 0 (by decide) (fun a0 => by rw [if_pos a0] at k; exact k) (fun a0 => ?_)
  rw [if_neg (by rw [a0]; decide)] at k
  refine step 1 (by decide) (fun a1 => by rw [if_pos a1] at k; exact k) (fun a1 => ?_)
  rw [if_neg (by rw [a1]; decide)] at k
  refine step 2 (by decide) (fun a2 => by rw [if_pos a2] at k; exact k) (fun a2 => ?_)
  rw [if_neg (by rw [a2]; decide)] at k
  refine step 3 (by decide) (fun a3 => by rw [if_pos a3] at k; exact k) (fun a3 => ?_)
  rw [if_neg (by rw [a3]; decide)] at k
  refine z_iload_n C d_RC_lowestFreeTeam_2 rfl rfl ?_
  refine z_iconst (v := 4) C d_RC_lowestFreeTeam_3 (by decide) ?_
  refine z_icmp_ge 23 C d_RC_lowestFreeTeam_4 (by decide) (fun c4 => ?_) (fun c4 => ?_)
  · refine z_iconst (v := (-1)) C d_RC_lowestFreeTeam_23 (by decide) ?_
    refine z_iret C d_RC_lowestFreeTeam_24 ?_
    exact k
  · exact absurd (by decide) c4
/-- an evacuation is on: the last one has sectors left -/
def isOnE (l : List EvT) : Bool := match l.getLast? with
  | none => false
  | some e => decide (0 < e.2.2.1)
theorem zlast {α : Type} {l : List α} (hl : l ≠ []) : ∃ e, l[l.length - 1]? = some e ∧ l.getLast? = some e := by
  have h1 : 0 < l.length := List.length_pos_iff.mpr hl
  refine ⟨l[l.length - 1], List.getElem?_eq_getElem (by omega), ?_⟩
  rw [List.getLast?_eq_getElem?, List.getElem?_eq_getElem (by omega)]
theorem znI_pred {n : Nat} (h : 0 < n) : nI n - 1 = nI (n - 1) := by
  obtain ⟨m, rfl⟩ : ∃ m, n = m + 1 := ⟨n - 1, by omega⟩
  rw [nI_pred]
  rfl
set_option maxRecDepth 100000 in
theorem ct_RC_isEvacuating {l : List EvT} (hx : h x = some (rcC gu lp lm lr ld ly le sec)) (hL : zLS g T h 6 le LE (l.map evE)) (k : PR (some (.int (if isOnE l = true then 1 else 0))) h) : Ct g y_RC_isEvacuating w_RC_isEvacuating 7 1 6 [.ref x] h PR PX := by
  obtain ⟨vs, hvs⟩ := hL.obj
  have hlt := hL.lt
  rw [List.length_map] at hlt
  refine Ct_intro (cc := c_RC_isEvacuating) (nL := 1) (ret := (some FieldType.boolean)) (ls := [some (.ref x)]) (by decide) (Nat.le_of_ble_eq_true rfl) rfl rfl ?_
  intro p e R s m args below meth c C ht hname
  refine z_aload_n C d_RC_isEvacuating_0 rfl rfl ?_
  refine z_get (ci := 7) (T := T_RC) (N := 8) C d_RC_isEvacuating_1 6 i_RC rfl (by decide) k_66 (fun _ q => q) (by first | assumption | exact zu_s) (by rfl) ?_
  refine z_callV (n := 0) (As := []) (rest := []) (r1 := 1) (mc1 := 0) (ms1 := 0) (ci := 0) (T0 := T_AL) C d_RC_isEvacuating_4 k_646 k_643 k_644 k_645 k_4 (by decide +kernel) rfl rfl (by first | assumption | exact zu_s) (by decide) (by decide) (Nat.le_of_ble_eq_true rfl) (by first | decide | omega) (by first | decide | omega) rfl ?_
  refine cl_isEmpty hL ?_
  dsimp only [zps]
  by_cases hl : l = []
  · subst hl
    rw [if_pos (show List.map evE [] = [] from rfl)]
    refine z_if_ne 33 C d_RC_isEvacuating_7 (by decide) (fun c7 => ?_) (fun c7 => ?_)
    · refine z_iconst (v := 0) C d_RC_isEvacuating_33 (by decide) ?_
      refine z_zret C d_RC_isEvacuating_34 (by first | rfl | assumption) ?_
      exact k
    · exact absurd c7 (by decide)
  · rw [if_neg (by simpa using hl)]
    refine z_if_ne 33 C d_RC_isEvacuating_7 (by decide) (fun c7 => ?_) (fun c7 => ?_)
    · exact absurd rfl c7
    · obtain ⟨e0, he, hg⟩ := zlast hl
      have h1 : 0 < l.length := List.length_pos_iff.mpr hl
      unfold isOnE at k
      rw [hg] at k
      refine z_aload_n C d_RC_isEvacuating_10 rfl rfl ?_
      refine z_aload_n C d_RC_isEvacuating_11 rfl rfl ?_
      refine z_get (ci := 7) (T := T_RC) (N := 8) C d_RC_isEvacuating_12 6 i_RC rfl (by decide) k_66 (fun _ q => q) (by first | assumption | exact zu_s) (by rfl) ?_
      refine z_callV (n := 0) (As := []) (rest := [.ref x]) (r1 := 1) (mc1 := 0) (ms1 := 0) (ci := 0) (T0 := T_AL) C d_RC_isEvacuating_15 k_96 k_93 k_94 k_95 k_4 (by decide +kernel) rfl rfl (by first | assumption | exact zu_s) (by decide) (by decide) (Nat.le_of_ble_eq_true rfl) (by first | decide | omega) (by first | decide | omega) rfl ?_
      refine cl_size hL ?_
      dsimp only [zps]
      rw [List.length_map]
      refine z_iconst (v := 1) C d_RC_isEvacuating_18 (by decide) ?_
      refine z_isub C d_RC_isEvacuating_19 ?_
      rw [znI_pred h1]
      refine z_callV (n := 1) (As := [.int (nI (l.length - 1))]) (rest := []) (r1 := 6) (mc1 := 1) (ms1 := 6) (ci := 7) (T0 := T_RC) C d_RC_isEvacuating_20 k_650 k_647 k_649 ks_20 k_1 (by decide +kernel) rfl rfl (by first | assumption | exact zu_s) (by decide) (by decide) (Nat.le_of_ble_eq_true rfl) (by first | decide | omega) (by first | decide | omega) rfl ?_
      refine ct_RC_knownEvacuation hx hL (fun z => ?_) (fun j y e1 hj1 hj2 hj3 hj4 hj5 => ?_)
      · rcases z with z | z
        · exact absurd z (nI_pos (by omega))
        · exact absurd z (nI_ge (by omega) (by omega))
      · dsimp only [zps]
        have hjl := (List.getElem?_eq_some_iff.mp hj2).1
        have : l.length - 1 = j := (nI_eq (by omega) (by omega)).mp hj1
        subst this
        cases hj2.symm.trans he
        refine z_get (ci := 6) (T := T_EV) (N := 5) C d_RC_isEvacuating_23 3 i_EV rfl (by decide) k_665 (fun _ q => q) hj4 (by rfl) ?_
        refine z_if_le 33 C d_RC_isEvacuating_26 (by decide) (fun c26 => ?_) (fun c26 => ?_)
        · refine z_iconst (v := 0) C d_RC_isEvacuating_33 (by decide) ?_
          refine z_zret C d_RC_isEvacuating_34 (by first | rfl | assumption) ?_
          rw [if_neg (by simpa using c26)] at k
          exact k
        · refine z_iconst (v := 1) C d_RC_isEvacuating_29 (by decide) ?_
          refine z_goto 34 C d_RC_isEvacuating_30 (by decide) ?_
          refine z_zret C d_RC_isEvacuating_34 (by first | rfl | assumption) ?_
          rw [if_pos (by simpa using c26)] at k
          exact k
end RI
