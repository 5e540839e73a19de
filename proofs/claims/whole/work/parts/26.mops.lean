/-! the reference's public methods, first part: person, moves, enter, leave, guests, was, twice, maydayAt, seen -/
section MY
variable {g : zG} {T : Tg} {h : Hp} {PR : Option Value → Hp → Prop} {PX : String → Hp → Prop} {mo : Nat} {A : Nat → Nat} {th : Int32} {S : CS} {F : FT}
theorem nlt_dec {a b : Nat} (ha : a ≤ 1000) (hb : b ≤ 1000) (h : nI b ≤ nI a) : decide (a < b) = false := decide_eq_false (fun z => nI_ge z (by omega) h)
theorem lt_dec {a b : Nat} (ha : a ≤ 1000) (hb : b ≤ 1000) (h : ¬ nI b ≤ nI a) : decide (a < b) = true := decide_eq_true ((nI_ltI (by omega) (by omega)).mp (Int32.not_le.mp h))
theorem b4f {a b d f : Bool} (h : (a && b && d && f) = true) : a = true ∧ b = true ∧ d = true ∧ f = true := by
  cases a <;> cases b <;> cases d <;> cases f <;> simp at h ⊢
set_option maxRecDepth 100000 in
theorem ct_MM_person (hM : RepM g T h mo A th S F) (hb : S.ps.length ≤ 60) (kf : ∀ rm, rm = decide (S.ps.length < 60) → rm = false → ∀ h1, RepM g T h1 mo A 1 S F → ExM T h h1 → PR (some (.int 0)) h1)
    (ks : S.ps.length < 60 → ∀ h1, RepM g T h1 mo A 0 (S.1, S.2.1, S.2.2.1 ++ [(-1, 0, -1)], S.2.2.2) F → ExM T h h1 → PR (some (.int (nI S.ps.length))) h1) : Ct g y_MM_person w_MM_person 2 0 0 [.ref mo] h PR PX := by
  refine Ct_intro (cc := c_MM_person) (nL := 1) (ret := (some FieldType.int)) (ls := [some (.ref mo)]) (by decide) (Nat.le_of_ble_eq_true rfl) rfl rfl ?_
  intro p e R s m args below meth c C ht hname
  have J : ∀ rm, rm = decide (S.ps.length < 60) → Z g 1 0 0 p e R s m args below meth c (vx_MQ below (zQ g PR) (zX g PX) args s 0 0 (zA g)) 0 0 20 [some (.ref mo)] [.int (bI rm), .int 1, .int 1, .int 1, .int 8, .ref mo] h := by
    intro rm hrm
    refine z_callV (n := 5) (As := [.int 8, .int 1, .int 1, .int 1, .int (bI rm)]) (rest := []) (r1 := 1) (mc1 := 0) (ms1 := 0) (ci := 8) (T0 := T_MM) C d_MM_person_20 k_846 k_843 k_845 ks_25 k_5 (by decide +kernel) rfl rfl (hM.1) (by decide) (by decide) (Nat.le_of_ble_eq_true rfl) (by first | decide | omega) (by first | decide | omega) rfl ?_
    refine ct_MM_goes (kn := true) (rg := true) (st := true) (rm := rm) hM (fun h1 r1 e1 => ?_)
    dsimp only [zps]
    refine z_if_ne 28 C d_MM_person_23 (by decide) (fun c23 => ?_) (fun c23 => ?_)
    · have h9 := bI1 c23
      rw [Bool.true_and, Bool.true_and, Bool.true_and] at h9
      subst h9
      have hl : S.ps.length < 60 := of_decide_eq_true hrm.symm
      refine z_aload_n C d_MM_person_28 rfl rfl ?_
      refine z_dup C d_MM_person_29 rfl ?_
      refine z_get (ci := 8) (T := T_MM) (N := 29) C d_MM_person_30 2 i_MM rfl (by decide) k_749 (fun _ q => q) (r1.1) (by rfl) ?_
      refine z_iconst (v := 1) C d_MM_person_33 (by decide) ?_
      refine z_iadd C d_MM_person_34 ?_
      refine z_put (ci := 8) (T := T_MM) (N := 29) (ty := .int) C d_MM_person_35 2 ty_MM t_MM n_MM i_MM rfl (by decide) k_749 (fun _ q => q) rfl (by decide +kernel) (by rfl) (by rfl) (r1.1) (by exact Nat.le_of_ble_eq_true rfl) ?_
      dsimp only [List.set]
      rw [nI_1]
      have r2 := r1.fld 0 (S.1, S.2.1, S.2.2.1 ++ [(-1, 0, -1)], S.2.2.2)
      have ee : nI (S.2.2.1 ++ [((-1, 0, -1) : PeT)]).length = nI (S.ps.length + 1) := by rw [List.length_append]; rfl
      unfold mmC CS.ps at r2
      dsimp only at r2
      rw [ee] at r2
      refine z_aload_n C d_MM_person_38 rfl rfl ?_
      refine z_get (ci := 8) (T := T_MM) (N := 29) C d_MM_person_39 2 i_MM rfl (by decide) k_749 (fun _ q => q) (zu_s) (by rfl) ?_
      refine z_iconst (v := 1) C d_MM_person_42 (by decide) ?_
      refine z_isub C d_MM_person_43 ?_
      rw [nI_pred]
      refine z_iret C d_MM_person_44 ?_
      exact ks hl _ r2 (e1.trans r1.exF)
    · have h9 := bI0 c23
      rw [Bool.true_and, Bool.true_and, Bool.true_and] at h9
      subst h9
      refine z_iconst (v := 0) C d_MM_person_26 (by decide) ?_
      refine z_iret C d_MM_person_27 ?_
      exact kf false hrm rfl h1 r1 e1
  refine z_aload_n C d_MM_person_0 rfl rfl ?_
  refine z_bipush (v := 8) C d_MM_person_1 (by decide) ?_
  refine z_iconst (v := 1) C d_MM_person_3 (by decide) ?_
  refine z_iconst (v := 1) C d_MM_person_4 (by decide) ?_
  refine z_iconst (v := 1) C d_MM_person_5 (by decide) ?_
  refine z_aload_n C d_MM_person_6 rfl rfl ?_
  refine z_get (ci := 8) (T := T_MM) (N := 29) C d_MM_person_7 2 i_MM rfl (by decide) k_749 (fun _ q => q) (hM.1) (by rfl) ?_
  refine z_bipush (v := 60) C d_MM_person_10 (by decide) ?_
  refine z_icmp_ge 19 C d_MM_person_12 (by decide) (fun c12 => ?_) (fun c12 => ?_)
  · refine z_iconst (v := 0) C d_MM_person_19 (by decide) ?_
    exact J false (nlt_dec (b := 60) (by omega) (by omega) c12).symm
  · refine z_iconst (v := 1) C d_MM_person_15 (by decide) ?_
    refine z_goto 20 C d_MM_person_16 (by decide) ?_
    exact J true (lt_dec (b := 60) (by omega) (by omega) c12).symm
theorem RepM.fldE (hM : RepM g T h mo A th S F) (th1 : Int32) (S1 : CS) {v : va_E} (hv : mmC A th1 S1 = v) : RepM g T (zu h mo v) mo A th1 S1 F := hv ▸ hM.fld th1 S1
theorem la1 {α : Type} (l : List α) (e : α) : nI (l ++ [e]).length = nI (l.length + 1) := by rw [List.length_append]; rfl
abbrev mvF (F : FT) (n : Nat) (a b t : Int32) : FT := sF (sF (sF F 1 (upd (F 1) n a)) 2 (upd (F 2) n b)) 3 (upd (F 3) n t)
set_option maxRecDepth 100000 in
theorem ct_MM_moves {a b : Int32} (hM : RepM g T h mo A th S F) (hb : S.mv.length < 300) (k : ∀ h1, RepM g T h1 mo A th (S.1, S.2.1, S.2.2.1, S.2.2.2.1 ++ [(a, b, S.1)], S.2.2.2.2) (mvF F S.mv.length a b S.1) → ExM T h h1 → PR none h1) : Ct g y_MM_moves w_MM_moves 1 0 0 [.ref mo, .int a, .int b] h PR PX := by
  refine Ct_intro (cc := c_MM_moves) (nL := 3) (ret := none) (ls := [some (.ref mo), some (.int a), some (.int b)]) (by decide) (Nat.le_of_ble_eq_true rfl) rfl rfl ?_
  intro p e R s m args below meth c C ht hname
  refine z_aload_n C d_MM_moves_0 rfl rfl ?_
  refine z_get (ci := 8) (T := T_MM) (N := 29) C d_MM_moves_1 5 i_MM rfl (by decide) k_752 (fun _ q => q) (hM.1) (by rfl) ?_
  refine z_aload_n C d_MM_moves_4 rfl rfl ?_
  refine z_get (ci := 8) (T := T_MM) (N := 29) C d_MM_moves_5 4 i_MM rfl (by decide) k_751 (fun _ q => q) (hM.1) (by rfl) ?_
  refine z_iload_n C d_MM_moves_8 rfl rfl ?_
  refine z_iast C d_MM_moves_9 (hM.a1) (vp_in_nI (by omega) (by decide)) ?_
  rw [nI_clamp (by omega)]
  have r1 := hM.put (j := 1) (by decide) (upd (F 1) S.mv.length a)
  refine z_aload_n C d_MM_moves_10 rfl rfl ?_
  refine z_get (ci := 8) (T := T_MM) (N := 29) C d_MM_moves_11 6 i_MM rfl (by decide) k_753 (fun _ q => q) (r1.1) (by rfl) ?_
  refine z_aload_n C d_MM_moves_14 rfl rfl ?_
  refine z_get (ci := 8) (T := T_MM) (N := 29) C d_MM_moves_15 4 i_MM rfl (by decide) k_751 (fun _ q => q) (r1.1) (by rfl) ?_
  refine z_iload_n C d_MM_moves_18 rfl rfl ?_
  refine z_iast C d_MM_moves_19 (r1.a2) (vp_in_nI (by omega) (by decide)) ?_
  rw [nI_clamp (by omega)]
  have r2 := r1.put (j := 2) (by decide) (upd (F 2) S.mv.length b)
  refine z_aload_n C d_MM_moves_20 rfl rfl ?_
  refine z_get (ci := 8) (T := T_MM) (N := 29) C d_MM_moves_21 7 i_MM rfl (by decide) k_754 (fun _ q => q) (r2.1) (by rfl) ?_
  refine z_aload_n C d_MM_moves_24 rfl rfl ?_
  refine z_get (ci := 8) (T := T_MM) (N := 29) C d_MM_moves_25 4 i_MM rfl (by decide) k_751 (fun _ q => q) (r2.1) (by rfl) ?_
  refine z_aload_n C d_MM_moves_28 rfl rfl ?_
  refine z_get (ci := 8) (T := T_MM) (N := 29) C d_MM_moves_29 1 i_MM rfl (by decide) k_748 (fun _ q => q) (r2.1) (by rfl) ?_
  refine z_iast C d_MM_moves_32 (r2.a3) (vp_in_nI (by omega) (by decide)) ?_
  rw [nI_clamp (by omega)]
  have r3 := r2.put (j := 3) (by decide) (upd (F 3) S.mv.length S.1)
  refine z_aload_n C d_MM_moves_33 rfl rfl ?_
  refine z_dup C d_MM_moves_34 rfl ?_
  refine z_get (ci := 8) (T := T_MM) (N := 29) C d_MM_moves_35 4 i_MM rfl (by decide) k_751 (fun _ q => q) (r3.1) (by rfl) ?_
  refine z_iconst (v := 1) C d_MM_moves_38 (by decide) ?_
  refine z_iadd C d_MM_moves_39 ?_
  refine z_put (ci := 8) (T := T_MM) (N := 29) (ty := .int) C d_MM_moves_40 4 ty_MM t_MM n_MM i_MM rfl (by decide) k_751 (fun _ q => q) rfl (by decide +kernel) (by rfl) (by rfl) (r3.1) (by exact Nat.le_of_ble_eq_true rfl) ?_
  dsimp only [List.set]
  rw [nI_1]
  refine z_vret C d_MM_moves_43 ?_
  exact k _ (r3.fldE th (S.1, S.2.1, S.2.2.1, S.2.2.2.1 ++ [(a, b, S.1)], S.2.2.2.2) (by unfold mmC CS.mv; rw [la1])) (((hM.exP (by decide)).trans (r1.exP (by decide))).trans ((r2.exP (by decide)).trans r3.exF))
set_option maxRecDepth 100000 in
theorem ct_MM_enter {a b : Int32} (hM : RepM g T h mo A th S F) (hv : mvR S F) (hb : S.ps.length ≤ 60)
    (kf : ∀ kn st rm, kn = (inN a S.ps.length && inN b 10) → st = (kn && (wasF a S.sec S.mv.reverse != b)) → rm = decide (S.mv.length < 300) → (kn && true && st && rm) = false → ∀ h1, RepM g T h1 mo A (goT 13 kn true st rm) S F → ExM T h h1 → PR none h1)
    (ks : inN a S.ps.length = true → inN b 10 = true → wasF a S.sec S.mv.reverse ≠ b → S.mv.length < 300 → ∀ h1, RepM g T h1 mo A 0 (S.1, S.2.1, S.2.2.1, S.2.2.2.1 ++ [(a, b, S.1)], S.2.2.2.2) (mvF F S.mv.length a b S.1) → ExM T h h1 → PR none h1) : Ct g y_MM_enter w_MM_enter 3 0 0 [.ref mo, .int a, .int b] h PR PX := by
  have hlv := hv.1
  refine Ct_intro (cc := c_MM_enter) (nL := 4) (ret := none) (ls := [some (.ref mo), some (.int a), some (.int b), none]) (by decide) (Nat.le_of_ble_eq_true rfl) rfl rfl ?_
  intro p e R s m args below meth c C ht hname
  have J59 : ∀ kn st rm, kn = (inN a S.ps.length && inN b 10) → st = (kn && (wasF a S.sec S.mv.reverse != b)) → rm = decide (S.mv.length < 300) → Z g 4 0 0 p e R s m args below meth c (vx_MQ below (zQ g PR) (zX g PX) args s 0 0 (zA g)) 0 0 59 [some (.ref mo), some (.int a), some (.int b), some (.int (bI kn))] [.int (bI rm), .int (bI st), .int 1, .int (bI kn), .int 13, .ref mo] h := by
    intro kn st rm h1 h2 h3
    refine z_callV (n := 5) (As := [.int 13, .int (bI kn), .int 1, .int (bI st), .int (bI rm)]) (rest := []) (r1 := 1) (mc1 := 0) (ms1 := 0) (ci := 8) (T0 := T_MM) C d_MM_enter_59 k_846 k_843 k_845 ks_25 k_5 (by decide +kernel) rfl rfl (hM.1) (by decide) (by decide) (Nat.le_of_ble_eq_true rfl) (by first | decide | omega) (by first | decide | omega) rfl ?_
    refine ct_MM_goes (kn := kn) (rg := true) (st := st) (rm := rm) hM (fun h5 r1 e1 => ?_)
    dsimp only [zps]
    refine z_if_eq 71 C d_MM_enter_62 (by decide) (fun c62 => ?_) (fun c62 => ?_)
    · refine z_vret C d_MM_enter_71 ?_
      exact kf kn st rm h1 h2 h3 (bI0 c62) h5 r1 e1
    · obtain ⟨g1, -, g2, g3⟩ := b4f (bI1 c62)
      subst g1 g2 g3
      rw [Bool.true_and] at h2
      have i1 := (Bool.and_eq_true_iff.mp h1.symm)
      have hl : S.mv.length < 300 := of_decide_eq_true h3.symm
      refine z_aload_n C d_MM_enter_65 rfl rfl ?_
      refine z_iload_n C d_MM_enter_66 rfl rfl ?_
      refine z_iload_n C d_MM_enter_67 rfl rfl ?_
      refine z_callV (n := 2) (As := [.int a, .int b]) (rest := []) (r1 := 1) (mc1 := 0) (ms1 := 0) (ci := 8) (T0 := T_MM) C d_MM_enter_68 k_872 k_869 k_871 ks_29 k_5 (by decide +kernel) rfl rfl (r1.1) (by decide) (by decide) (Nat.le_of_ble_eq_true rfl) (by first | decide | omega) (by first | decide | omega) rfl ?_
      refine ct_MM_moves r1 hl (fun h6 r2 e2 => ?_)
      dsimp only [zps]
      refine z_vret C d_MM_enter_71 ?_
      exact ks i1.1 i1.2 (bne_iff_ne.mp h2.symm) hl h6 r2 (e1.trans e2)
  have J44 : ∀ kn st, kn = (inN a S.ps.length && inN b 10) → st = (kn && (wasF a S.sec S.mv.reverse != b)) → Z g 4 0 0 p e R s m args below meth c (vx_MQ below (zQ g PR) (zX g PX) args s 0 0 (zA g)) 0 0 44 [some (.ref mo), some (.int a), some (.int b), some (.int (bI kn))] [.int (bI st), .int 1, .int (bI kn), .int 13, .ref mo] h := by
    intro kn st h1 h2
    refine z_aload_n C d_MM_enter_44 rfl rfl ?_
    refine z_get (ci := 8) (T := T_MM) (N := 29) C d_MM_enter_45 4 i_MM rfl (by decide) k_751 (fun _ q => q) (hM.1) (by rfl) ?_
    refine z_sipush (v := 300) C d_MM_enter_48 (by decide) ?_
    refine z_icmp_ge 58 C d_MM_enter_51 (by decide) (fun c51 => ?_) (fun c51 => ?_)
    · refine z_iconst (v := 0) C d_MM_enter_58 (by decide) ?_
      exact J59 kn st false h1 h2 (nlt_dec (b := 300) (by omega) (by omega) c51).symm
    · refine z_iconst (v := 1) C d_MM_enter_54 (by decide) ?_
      refine z_goto 59 C d_MM_enter_55 (by decide) ?_
      exact J59 kn st true h1 h2 (lt_dec (b := 300) (by omega) (by omega) c51).symm
  have J20 : ∀ kn, kn = (inN a S.ps.length && inN b 10) → Z g 4 0 0 p e R s m args below meth c (vx_MQ below (zQ g PR) (zX g PX) args s 0 0 (zA g)) 0 0 20 [some (.ref mo), some (.int a), some (.int b), none] [.int (bI kn)] h := by
    intro kn h1
    refine z_istore_n C d_MM_enter_20 rfl (by decide) rfl ?_
    dsimp only [List.set]
    refine z_aload_n C d_MM_enter_21 rfl rfl ?_
    refine z_bipush (v := 13) C d_MM_enter_22 (by decide) ?_
    refine z_iload_n C d_MM_enter_24 rfl rfl ?_
    refine z_iconst (v := 1) C d_MM_enter_25 (by decide) ?_
    refine z_iload_n C d_MM_enter_26 rfl rfl ?_
    refine z_if_eq 43 C d_MM_enter_27 (by decide) (fun c27 => ?_) (fun c27 => ?_)
    · refine z_iconst (v := 0) C d_MM_enter_43 (by decide) ?_
      exact J44 kn false h1 (by rw [bI0 c27]; rfl)
    · refine z_aload_n C d_MM_enter_30 rfl rfl ?_
      refine z_iload_n C d_MM_enter_31 rfl rfl ?_
      refine z_callV (n := 1) (As := [.int a]) (rest := [.int 1, .int (bI kn), .int 13, .ref mo]) (r1 := 2) (mc1 := 0) (ms1 := 0) (ci := 8) (T0 := T_MM) C d_MM_enter_32 k_864 k_861 k_863 ks_27 k_5 (by decide +kernel) rfl rfl (hM.1) (by decide) (by decide) (Nat.le_of_ble_eq_true rfl) (by first | decide | omega) (by first | decide | omega) rfl ?_
      refine ct_MM_here hM hv ?_
      dsimp only [zps]
      refine z_iload_n C d_MM_enter_35 rfl rfl ?_
      refine z_icmp_eq 43 C d_MM_enter_36 (by decide) (fun c36 => ?_) (fun c36 => ?_)
      · refine z_iconst (v := 0) C d_MM_enter_43 (by decide) ?_
        exact J44 kn false h1 (by rw [bI1 c27, Bool.true_and]; exact (bne_eq_false_iff_eq.mpr c36).symm)
      · refine z_iconst (v := 1) C d_MM_enter_39 (by decide) ?_
        refine z_goto 44 C d_MM_enter_40 (by decide) ?_
        exact J44 kn true h1 (by rw [bI1 c27, Bool.true_and]; exact (bne_iff_ne.mpr c36).symm)
  refine z_aload_n C d_MM_enter_0 rfl rfl ?_
  refine z_iload_n C d_MM_enter_1 rfl rfl ?_
  refine z_callV (n := 1) (As := [.int a]) (rest := []) (r1 := 2) (mc1 := 0) (ms1 := 0) (ci := 8) (T0 := T_MM) C d_MM_enter_2 k_854 k_851 k_853 ks_26 k_5 (by decide +kernel) rfl rfl (hM.1) (by decide) (by decide) (Nat.le_of_ble_eq_true rfl) (by first | decide | omega) (by first | decide | omega) rfl ?_
  refine ct_MM_isPerson hM hb ?_
  dsimp only [zps]
  refine z_if_eq 19 C d_MM_enter_5 (by decide) (fun c5 => ?_) (fun c5 => ?_)
  · refine z_iconst (v := 0) C d_MM_enter_19 (by decide) ?_
    exact J20 false (by rw [bI0 c5]; rfl)
  · refine z_iload_n C d_MM_enter_8 rfl rfl ?_
    refine z_callS (n := 1) (As := [.int b]) (rest := []) (r1 := 2) (mc1 := 0) (ms1 := 0) C d_MM_enter_9 k_860 k_858 k_859 k_5 (by decide +kernel) rfl (by decide) (by decide) (Nat.le_of_ble_eq_true rfl) (by first | decide | omega) (by first | decide | omega) rfl ?_
    refine ct_MM_isSector ?_
    dsimp only [zps]
    refine z_if_eq 19 C d_MM_enter_12 (by decide) (fun c12 => ?_) (fun c12 => ?_)
    · refine z_iconst (v := 0) C d_MM_enter_19 (by decide) ?_
      exact J20 false (by rw [bI0 c12, Bool.and_false])
    · refine z_iconst (v := 1) C d_MM_enter_15 (by decide) ?_
      refine z_goto 20 C d_MM_enter_16 (by decide) ?_
      exact J20 true (by rw [bI1 c5, bI1 c12]; rfl)
set_option maxRecDepth 100000 in
theorem ct_MM_leave {a : Int32} (hM : RepM g T h mo A th S F) (hv : mvR S F) (hb : S.ps.length ≤ 60)
    (kf : ∀ st rm, st = (inN a S.ps.length && !decide (wasF a S.sec S.mv.reverse < 0)) → rm = decide (S.mv.length < 300) → (inN a S.ps.length && true && st && rm) = false → ∀ h1, RepM g T h1 mo A (goT 13 (inN a S.ps.length) true st rm) S F → ExM T h h1 → PR none h1)
    (ks : inN a S.ps.length = true → ¬ wasF a S.sec S.mv.reverse < 0 → S.mv.length < 300 → ∀ h1, RepM g T h1 mo A 0 (S.1, S.2.1, S.2.2.1, S.2.2.2.1 ++ [(a, -1, S.1)], S.2.2.2.2) (mvF F S.mv.length a (-1) S.1) → ExM T h h1 → PR none h1) : Ct g y_MM_leave w_MM_leave 3 0 0 [.ref mo, .int a] h PR PX := by
  have hlv := hv.1
  refine Ct_intro (cc := c_MM_leave) (nL := 2) (ret := none) (ls := [some (.ref mo), some (.int a)]) (by decide) (Nat.le_of_ble_eq_true rfl) rfl rfl ?_
  intro p e R s m args below meth c C ht hname
  have J45 : ∀ st rm, st = (inN a S.ps.length && !decide (wasF a S.sec S.mv.reverse < 0)) → rm = decide (S.mv.length < 300) → Z g 2 0 0 p e R s m args below meth c (vx_MQ below (zQ g PR) (zX g PX) args s 0 0 (zA g)) 0 0 45 [some (.ref mo), some (.int a)] [.int (bI rm), .int (bI st), .int 1, .int (bI (inN a S.ps.length)), .int 13, .ref mo] h := by
    intro st rm h2 h3
    refine z_callV (n := 5) (As := [.int 13, .int (bI (inN a S.ps.length)), .int 1, .int (bI st), .int (bI rm)]) (rest := []) (r1 := 1) (mc1 := 0) (ms1 := 0) (ci := 8) (T0 := T_MM) C d_MM_leave_45 k_846 k_843 k_845 ks_25 k_5 (by decide +kernel) rfl rfl (hM.1) (by decide) (by decide) (Nat.le_of_ble_eq_true rfl) (by first | decide | omega) (by first | decide | omega) rfl ?_
    refine ct_MM_goes (kn := inN a S.ps.length) (rg := true) (st := st) (rm := rm) hM (fun h5 r1 e1 => ?_)
    dsimp only [zps]
    refine z_if_eq 57 C d_MM_leave_48 (by decide) (fun c48 => ?_) (fun c48 => ?_)
    · refine z_vret C d_MM_leave_57 ?_
      exact kf st rm h2 h3 (bI0 c48) h5 r1 e1
    · obtain ⟨g1, -, g2, g3⟩ := b4f (bI1 c48)
      subst g2 g3
      rw [g1, Bool.true_and] at h2
      rw [g1] at r1
      have hl : S.mv.length < 300 := of_decide_eq_true h3.symm
      have hn : ¬ wasF a S.sec S.mv.reverse < 0 := fun z => by rw [decide_eq_true z] at h2; cases h2
      refine z_aload_n C d_MM_leave_51 rfl rfl ?_
      refine z_iload_n C d_MM_leave_52 rfl rfl ?_
      refine z_iconst (v := (-1)) C d_MM_leave_53 (by decide) ?_
      refine z_callV (n := 2) (As := [.int a, .int (-1)]) (rest := []) (r1 := 1) (mc1 := 0) (ms1 := 0) (ci := 8) (T0 := T_MM) C d_MM_leave_54 k_872 k_869 k_871 ks_29 k_5 (by decide +kernel) rfl rfl (r1.1) (by decide) (by decide) (Nat.le_of_ble_eq_true rfl) (by first | decide | omega) (by first | decide | omega) rfl ?_
      refine ct_MM_moves r1 hl (fun h6 r2 e2 => ?_)
      dsimp only [zps]
      refine z_vret C d_MM_leave_57 ?_
      exact ks g1 hn hl h6 r2 (e1.trans e2)
  have J30 : ∀ st, st = (inN a S.ps.length && !decide (wasF a S.sec S.mv.reverse < 0)) → Z g 2 0 0 p e R s m args below meth c (vx_MQ below (zQ g PR) (zX g PX) args s 0 0 (zA g)) 0 0 30 [some (.ref mo), some (.int a)] [.int (bI st), .int 1, .int (bI (inN a S.ps.length)), .int 13, .ref mo] h := by
    intro st h2
    refine z_aload_n C d_MM_leave_30 rfl rfl ?_
    refine z_get (ci := 8) (T := T_MM) (N := 29) C d_MM_leave_31 4 i_MM rfl (by decide) k_751 (fun _ q => q) (hM.1) (by rfl) ?_
    refine z_sipush (v := 300) C d_MM_leave_34 (by decide) ?_
    refine z_icmp_ge 44 C d_MM_leave_37 (by decide) (fun c37 => ?_) (fun c37 => ?_)
    · refine z_iconst (v := 0) C d_MM_leave_44 (by decide) ?_
      exact J45 st false h2 (nlt_dec (b := 300) (by omega) (by omega) c37).symm
    · refine z_iconst (v := 1) C d_MM_leave_40 (by decide) ?_
      refine z_goto 45 C d_MM_leave_41 (by decide) ?_
      exact J45 st true h2 (lt_dec (b := 300) (by omega) (by omega) c37).symm
  refine z_aload_n C d_MM_leave_0 rfl rfl ?_
  refine z_bipush (v := 13) C d_MM_leave_1 (by decide) ?_
  refine z_aload_n C d_MM_leave_3 rfl rfl ?_
  refine z_iload_n C d_MM_leave_4 rfl rfl ?_
  refine z_callV (n := 1) (As := [.int a]) (rest := [.int 13, .ref mo]) (r1 := 2) (mc1 := 0) (ms1 := 0) (ci := 8) (T0 := T_MM) C d_MM_leave_5 k_854 k_851 k_853 ks_26 k_5 (by decide +kernel) rfl rfl (hM.1) (by decide) (by decide) (Nat.le_of_ble_eq_true rfl) (by first | decide | omega) (by first | decide | omega) rfl ?_
  refine ct_MM_isPerson hM hb ?_
  dsimp only [zps]
  refine z_iconst (v := 1) C d_MM_leave_8 (by decide) ?_
  refine z_aload_n C d_MM_leave_9 rfl rfl ?_
  refine z_iload_n C d_MM_leave_10 rfl rfl ?_
  refine z_callV (n := 1) (As := [.int a]) (rest := [.int 1, .int (bI (inN a S.ps.length)), .int 13, .ref mo]) (r1 := 2) (mc1 := 0) (ms1 := 0) (ci := 8) (T0 := T_MM) C d_MM_leave_11 k_854 k_851 k_853 ks_26 k_5 (by decide +kernel) rfl rfl (hM.1) (by decide) (by decide) (Nat.le_of_ble_eq_true rfl) (by first | decide | omega) (by first | decide | omega) rfl ?_
  refine ct_MM_isPerson hM hb ?_
  dsimp only [zps]
  refine z_if_eq 29 C d_MM_leave_14 (by decide) (fun c14 => ?_) (fun c14 => ?_)
  · refine z_iconst (v := 0) C d_MM_leave_29 (by decide) ?_
    exact J30 false (by rw [bI0 c14]; rfl)
  · refine z_aload_n C d_MM_leave_17 rfl rfl ?_
    refine z_iload_n C d_MM_leave_18 rfl rfl ?_
    refine z_callV (n := 1) (As := [.int a]) (rest := [.int 1, .int (bI (inN a S.ps.length)), .int 13, .ref mo]) (r1 := 2) (mc1 := 0) (ms1 := 0) (ci := 8) (T0 := T_MM) C d_MM_leave_19 k_864 k_861 k_863 ks_27 k_5 (by decide +kernel) rfl rfl (hM.1) (by decide) (by decide) (Nat.le_of_ble_eq_true rfl) (by first | decide | omega) (by first | decide | omega) rfl ?_
    refine ct_MM_here hM hv ?_
    dsimp only [zps]
    refine z_if_lt 29 C d_MM_leave_22 (by decide) (fun c22 => ?_) (fun c22 => ?_)
    · refine z_iconst (v := 0) C d_MM_leave_29 (by decide) ?_
      exact J30 false (by rw [decide_eq_true c22, Bool.not_true, Bool.and_false])
    · refine z_iconst (v := 1) C d_MM_leave_25 (by decide) ?_
      refine z_goto 30 C d_MM_leave_26 (by decide) ?_
      exact J30 true (by rw [bI1 c14, decide_eq_false c22]; rfl)
set_option maxRecDepth 100000 in
theorem ct_MM_guests {a b : Int32} (hM : RepM g T h mo A th S F)
    (kf : (inN a 10 && inB b 0 999 && true && true) = false → ∀ h1, RepM g T h1 mo A (goT 3 (inN a 10) (inB b 0 999) true true) S F → ExM T h h1 → PR none h1)
    (ks : ∀ j, j < 10 → a = nI j → inB b 0 999 = true → ∀ h1, RepM g T h1 mo A 0 (S.1, upd S.2.1 j b, S.2.2) (sF F 0 (upd (F 0) j b)) → ExM T h h1 → PR none h1) : Ct g y_MM_guests w_MM_guests 3 0 0 [.ref mo, .int a, .int b] h PR PX := by
  refine Ct_intro (cc := c_MM_guests) (nL := 3) (ret := none) (ls := [some (.ref mo), some (.int a), some (.int b)]) (by decide) (Nat.le_of_ble_eq_true rfl) rfl rfl ?_
  intro p e R s m args below meth c C ht hname
  refine z_aload_n C d_MM_guests_0 rfl rfl ?_
  refine z_iconst (v := 3) C d_MM_guests_1 (by decide) ?_
  refine z_iload_n C d_MM_guests_2 rfl rfl ?_
  refine z_callS (n := 1) (As := [.int a]) (rest := [.int 3, .ref mo]) (r1 := 2) (mc1 := 0) (ms1 := 0) C d_MM_guests_3 k_860 k_858 k_859 k_5 (by decide +kernel) rfl (by decide) (by decide) (Nat.le_of_ble_eq_true rfl) (by first | decide | omega) (by first | decide | omega) rfl ?_
  refine ct_MM_isSector ?_
  dsimp only [zps]
  refine z_iload_n C d_MM_guests_6 rfl rfl ?_
  refine z_iconst (v := 0) C d_MM_guests_7 (by decide) ?_
  refine z_sipush (v := 999) C d_MM_guests_8 (by decide) ?_
  refine z_callS (n := 3) (As := [.int b, .int 0, .int 999]) (rest := [.int (bI (inN a 10)), .int 3, .ref mo]) (r1 := 1) (mc1 := 0) (ms1 := 0) C d_MM_guests_11 k_857 k_855 k_856 k_5 (by decide +kernel) rfl (by decide) (by decide) (Nat.le_of_ble_eq_true rfl) (by first | decide | omega) (by first | decide | omega) rfl ?_
  refine ct_MM_in ?_
  dsimp only [zps]
  refine z_iconst (v := 1) C d_MM_guests_14 (by decide) ?_
  refine z_iconst (v := 1) C d_MM_guests_15 (by decide) ?_
  refine z_callV (n := 5) (As := [.int 3, .int (bI (inN a 10)), .int (bI (inB b 0 999)), .int 1, .int 1]) (rest := []) (r1 := 1) (mc1 := 0) (ms1 := 0) (ci := 8) (T0 := T_MM) C d_MM_guests_16 k_846 k_843 k_845 ks_25 k_5 (by decide +kernel) rfl rfl (hM.1) (by decide) (by decide) (Nat.le_of_ble_eq_true rfl) (by first | decide | omega) (by first | decide | omega) rfl ?_
  refine ct_MM_goes (kn := inN a 10) (rg := inB b 0 999) (st := true) (rm := true) hM (fun h5 r1 e1 => ?_)
  dsimp only [zps]
  refine z_if_eq 29 C d_MM_guests_19 (by decide) (fun c19 => ?_) (fun c19 => ?_)
  · refine z_vret C d_MM_guests_29 ?_
    exact kf (bI0 c19) h5 r1 e1
  · obtain ⟨g1, g2, -, -⟩ := b4f (bI1 c19)
    obtain ⟨j, hj, rfl⟩ := inN_t (by decide) g1
    rw [g1, g2] at r1
    refine z_aload_n C d_MM_guests_22 rfl rfl ?_
    refine z_get (ci := 8) (T := T_MM) (N := 29) C d_MM_guests_23 3 i_MM rfl (by decide) k_750 (fun _ q => q) (r1.1) (by rfl) ?_
    refine z_iload_n C d_MM_guests_26 rfl rfl ?_
    refine z_iload_n C d_MM_guests_27 rfl rfl ?_
    refine z_iast C d_MM_guests_28 (r1.a0) (vp_in_nI (by omega) (by decide)) ?_
    rw [nI_clamp (by omega)]
    refine z_vret C d_MM_guests_29 ?_
    exact ks j hj rfl g2 _ (r1.put (j := 0) (by decide) (upd (F 0) j b)) (e1.trans (r1.exP (by decide)))
set_option maxRecDepth 100000 in
theorem ct_MM_was {a t : Int32} (hM : RepM g T h mo A th S F) (hv : mvR S F) (hb : S.ps.length ≤ 60)
    (kf : (inN a S.ps.length && inB t 0 S.sec && true && true) = false → ∀ h1, RepM g T h1 mo A (goT 3 (inN a S.ps.length) (inB t 0 S.sec) true true) S F → ExM T h h1 → PR (some (.int 0)) h1)
    (ks : inN a S.ps.length = true → inB t 0 S.sec = true → ∀ h1, RepM g T h1 mo A 0 S F → ExM T h h1 → PR (some (.int (wasF a t S.mv.reverse))) h1) : Ct g y_MM_was w_MM_was 3 0 0 [.ref mo, .int a, .int t] h PR PX := by
  refine Ct_intro (cc := c_MM_was) (nL := 3) (ret := (some FieldType.int)) (ls := [some (.ref mo), some (.int a), some (.int t)]) (by decide) (Nat.le_of_ble_eq_true rfl) rfl rfl ?_
  intro p e R s m args below meth c C ht hname
  refine z_aload_n C d_MM_was_0 rfl rfl ?_
  refine z_iconst (v := 3) C d_MM_was_1 (by decide) ?_
  refine z_aload_n C d_MM_was_2 rfl rfl ?_
  refine z_iload_n C d_MM_was_3 rfl rfl ?_
  refine z_callV (n := 1) (As := [.int a]) (rest := [.int 3, .ref mo]) (r1 := 2) (mc1 := 0) (ms1 := 0) (ci := 8) (T0 := T_MM) C d_MM_was_4 k_854 k_851 k_853 ks_26 k_5 (by decide +kernel) rfl rfl (hM.1) (by decide) (by decide) (Nat.le_of_ble_eq_true rfl) (by first | decide | omega) (by first | decide | omega) rfl ?_
  refine ct_MM_isPerson hM hb ?_
  dsimp only [zps]
  refine z_iload_n C d_MM_was_7 rfl rfl ?_
  refine z_iconst (v := 0) C d_MM_was_8 (by decide) ?_
  refine z_aload_n C d_MM_was_9 rfl rfl ?_
  refine z_get (ci := 8) (T := T_MM) (N := 29) C d_MM_was_10 1 i_MM rfl (by decide) k_748 (fun _ q => q) (hM.1) (by rfl) ?_
  refine z_callS (n := 3) (As := [.int t, .int 0, .int S.sec]) (rest := [.int (bI (inN a S.ps.length)), .int 3, .ref mo]) (r1 := 1) (mc1 := 0) (ms1 := 0) C d_MM_was_13 k_857 k_855 k_856 k_5 (by decide +kernel) rfl (by decide) (by decide) (Nat.le_of_ble_eq_true rfl) (by first | decide | omega) (by first | decide | omega) rfl ?_
  refine ct_MM_in ?_
  dsimp only [zps]
  refine z_iconst (v := 1) C d_MM_was_16 (by decide) ?_
  refine z_iconst (v := 1) C d_MM_was_17 (by decide) ?_
  refine z_callV (n := 5) (As := [.int 3, .int (bI (inN a S.ps.length)), .int (bI (inB t 0 S.sec)), .int 1, .int 1]) (rest := []) (r1 := 1) (mc1 := 0) (ms1 := 0) (ci := 8) (T0 := T_MM) C d_MM_was_18 k_846 k_843 k_845 ks_25 k_5 (by decide +kernel) rfl rfl (hM.1) (by decide) (by decide) (Nat.le_of_ble_eq_true rfl) (by first | decide | omega) (by first | decide | omega) rfl ?_
  refine ct_MM_goes (kn := inN a S.ps.length) (rg := inB t 0 S.sec) (st := true) (rm := true) hM (fun h5 r1 e1 => ?_)
  dsimp only [zps]
  refine z_if_ne 26 C d_MM_was_21 (by decide) (fun c21 => ?_) (fun c21 => ?_)
  · obtain ⟨g1, g2, -, -⟩ := b4f (bI1 c21)
    rw [g1, g2] at r1
    refine z_aload_n C d_MM_was_26 rfl rfl ?_
    refine z_iload_n C d_MM_was_27 rfl rfl ?_
    refine z_iload_n C d_MM_was_28 rfl rfl ?_
    refine z_callV (n := 2) (As := [.int a, .int t]) (rest := []) (r1 := 1) (mc1 := 0) (ms1 := 0) (ci := 8) (T0 := T_MM) C d_MM_was_29 k_868 k_865 k_867 ks_28 k_5 (by decide +kernel) rfl rfl (r1.1) (by decide) (by decide) (Nat.le_of_ble_eq_true rfl) (by first | decide | omega) (by first | decide | omega) rfl ?_
    refine ct_MM_at r1 hv ?_
    dsimp only [zps]
    refine z_iret C d_MM_was_32 ?_
    exact ks g1 g2 h5 r1 e1
  · refine z_iconst (v := 0) C d_MM_was_24 (by decide) ?_
    refine z_iret C d_MM_was_25 ?_
    exact kf (bI0 c21) h5 r1 e1
end MY
