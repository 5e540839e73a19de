/-! public methods: seen, round, rollAt, missing, twice, maydayAt, count, late -/
/-- the i-th missing: t is asked, p the person, b how many came before -/
def miF (r : RoT) (t : Int32) : Nat → Nat → List PeT → Int32
  | _, _, [] => -1
  | p, b, e :: l => if msB r p e = true then (if nI b = t then nI p else miF r t (p + 1) (b + 1) l) else miF r t (p + 1) b l
/-- the i-th late sector: j sectors from s on -/
def laF (fl : Nat → Int32) (t : Int32) : Nat → Nat → Nat → Int32
  | _, _, 0 => -1
  | s, b, j + 1 => if fl s ≠ 0 then (if nI b = t then nI s else laF fl t (s + 1) (b + 1) j) else laF fl t (s + 1) b j
section RR
variable {g : zG} {T : Tg} {h : Hp} {PR : Option Value → Hp → Prop} {PX : String → Hp → Prop} {x : Nat} {S : CS}
set_option maxRecDepth 100000 in
theorem ct_RC_seen {a n : Int32} (hR : RepC g T h x S) (kx1 : a < 0 ∨ nI S.ro.length ≤ a → PX xIAE h) (kx2 : ∀ i r, a = nI i → S.ro[i]? = some r → (n < 0 ∨ 999 < n) → PX xIOB h) (kx3 : ∀ i r, a = nI i → S.ro[i]? = some r → ¬ n < 0 → n ≤ 999 → ¬ r.rd < 3 → PX xISE h) (kx4 : ∀ i (r : RoT), a = nI i → S.ro[i]? = some r → ¬ n < 0 → n ≤ 999 → r.rd < 3 → 9999 < r.2.2.2.2.2.2.1 + n → PX xUOE h)
    (k : ∀ i (r : RoT), a = nI i → S.ro[i]? = some r → ¬ n < 0 → n ≤ 999 → r.rd < 3 → r.2.2.2.2.2.2.1 + n ≤ 9999 → ∀ (h1 : Hp), RepC g T h1 x (S.1, S.2.1, S.2.2.1, S.2.2.2.1, S.2.2.2.2.1.set i (r.1, r.2.1, r.2.2.1, r.2.2.2.1, r.2.2.2.2.1, r.2.2.2.2.2.1, r.2.2.2.2.2.2.1 + n, r.2.2.2.2.2.2.2), S.2.2.2.2.2) → Ext T h T h1 → PR (some (.int (r.2.2.2.2.2.2.1 + n))) h1) : Ct g y_RC_seen w_RC_seen 7 3 18 [.ref x, .int a, .int n] h PR PX := by
  obtain ⟨gu, lp, lm, lr, ld, ly, le, LP, LM, LR, LD, LY, LE, ⟨hx, hxT⟩, ⟨hgu, hguT⟩, l1, l2, l3, l4, l5, l6, r1, r2, b1, b2, b3, b4, b5, b6⟩ := hR
  refine Ct_intro (cc := c_RC_seen) (nL := 4) (ret := (some FieldType.int)) (ls := [some (.ref x), some (.int a), some (.int n), none]) (by decide) (Nat.le_of_ble_eq_true rfl) rfl rfl ?_
  intro p e R s m args below meth c C ht hname
  refine z_aload_n C d_RC_seen_0 rfl rfl ?_
  refine z_iload_n C d_RC_seen_1 rfl rfl ?_
  refine z_callV (n := 1) (As := [.int a]) (rest := []) (r1 := 6) (mc1 := 1) (ms1 := 6) (ci := 7) (T0 := T_RC) C d_RC_seen_2 k_458 k_455 k_457 ks_9 k_1 (by decide +kernel) rfl rfl (by first | assumption | exact zu_s) (by decide) (by decide) (Nat.le_of_ble_eq_true rfl) (by first | decide | omega) (by first | decide | omega) rfl ?_
  refine ct_RC_knownRoll hx l3 (fun z => zx_out C ht (kx1 z)) (fun i y e1 hi he hy hye hyT => ?_)
  dsimp only [zps]
  refine z_astore_n C d_RC_seen_5 rfl (by decide) rfl ?_
  dsimp only [List.set]
  refine z_iload_n C d_RC_seen_6 rfl rfl ?_
  refine z_if_lt 17 C d_RC_seen_7 (by decide) (fun c7 => ?_) (fun c7 => ?_)
  · refine z_throwS (text := "guests seen at a time are 0 to 999") (cls := "java/lang/IndexOutOfBoundsException") C ht d_RC_seen_17 d_RC_seen_20 d_RC_seen_21 d_RC_seen_23 d_RC_seen_26 (by decide +kernel) k_348 k_20 (by decide +kernel) (tho_IOB C) thg_IOB (by decide) (Nat.le_of_ble_eq_true rfl) (by first | decide | omega) (by first | decide | omega) ?_
    exact kx2 i e1 hi he (Or.inl c7)
  · refine z_iload_n C d_RC_seen_10 rfl rfl ?_
    refine z_sipush (v := 999) C d_RC_seen_11 (by decide) ?_
    refine z_icmp_le 27 C d_RC_seen_14 (by decide) (fun c14 => ?_) (fun c14 => ?_)
    · refine z_aload_n C d_RC_seen_27 rfl rfl ?_
      refine z_callS (n := 1) (As := [.ref y]) (rest := []) (r1 := 6) (mc1 := 1) (ms1 := 6) C d_RC_seen_28 k_462 k_460 k_461 k_1 (by decide +kernel) rfl (by decide) (by decide) (Nat.le_of_ble_eq_true rfl) (by first | decide | omega) (by first | decide | omega) rfl ?_
      refine ct_RC_checkIsOn hye (fun z => zx_out C ht (kx3 i e1 hi he c7 c14 z)) (fun hon => ?_)
      dsimp only [zps]
      refine z_aload_n C d_RC_seen_31 rfl rfl ?_
      refine z_get (ci := 3) (T := T_RO) (N := 10) C d_RC_seen_32 7 i_RO rfl (by decide) k_412 (fun _ q => q) hye (by rfl) ?_
      refine z_iload_n C d_RC_seen_35 rfl rfl ?_
      refine z_iadd C d_RC_seen_36 ?_
      refine z_sipush (v := 9999) C d_RC_seen_37 (by decide) ?_
      refine z_icmp_le 53 C d_RC_seen_40 (by decide) (fun c40 => ?_) (fun c40 => ?_)
      · refine z_aload_n C d_RC_seen_53 rfl rfl ?_
        refine z_dup C d_RC_seen_54 rfl ?_
        refine z_get (ci := 3) (T := T_RO) (N := 10) C d_RC_seen_55 7 i_RO rfl (by decide) k_412 (fun _ q => q) hye (by rfl) ?_
        refine z_iload_n C d_RC_seen_58 rfl rfl ?_
        refine z_iadd C d_RC_seen_59 ?_
        refine z_put (ci := 3) (T := T_RO) (N := 10) (ty := .int) C d_RC_seen_60 7 ty_RO t_RO n_RO i_RO rfl (by decide) k_412 (fun _ q => q) rfl (by decide +kernel) (by rfl) (by rfl) hye (by exact Nat.le_of_ble_eq_true rfl) ?_
        dsimp only [List.set]
        refine z_aload_n C d_RC_seen_63 rfl rfl ?_
        refine z_get (ci := 3) (T := T_RO) (N := 10) C d_RC_seen_64 7 i_RO rfl (by decide) k_412 (fun _ q => q) zu_s (by rfl) ?_
        refine z_iret C d_RC_seen_67 ?_
        have l3' := l3.set (e := roE (e1.1, e1.2.1, e1.2.2.1, e1.2.2.2.1, e1.2.2.2.2.1, e1.2.2.2.2.2.1, e1.2.2.2.2.2.2.1 + n, e1.2.2.2.2.2.2.2)) hy
        rw [← List.map_set] at l3'
        have kp : ∀ (kd : Nat), kd ≠ 3 → ∀ q, h q ≠ none → (T q).1 = kd → zu h y (roE (e1.1, e1.2.1, e1.2.2.1, e1.2.2.2.1, e1.2.2.2.2.1, e1.2.2.2.2.2.1, e1.2.2.2.2.2.2.1 + n, e1.2.2.2.2.2.2.2)) q = h q := fun kd h8 q hq e => zu_n (fun z => h8 (by rw [← e, z, hyT]))
        have hT : ∀ q, h q ≠ none → T q = T q := fun _ _ => rfl
        have r1' : roOK g T (zu h y (roE (e1.1, e1.2.1, e1.2.2.1, e1.2.2.2.1, e1.2.2.2.2.1, e1.2.2.2.2.2.1, e1.2.2.2.2.2.2.1 + n, e1.2.2.2.2.2.2.2))) (S.ro.set i (e1.1, e1.2.1, e1.2.2.1, e1.2.2.2.1, e1.2.2.2.2.1, e1.2.2.2.2.2.1, e1.2.2.2.2.2.2.1 + n, e1.2.2.2.2.2.2.2)) := by
          have r9 := r1.keep hT (kp 7 (by decide))
          intro j r hr
          by_cases hji : j = i
          · subst hji
            rw [List.getElem?_set_self (List.getElem?_eq_some_iff.mp he).1] at hr
            cases hr
            exact r9 j e1 he
          · rw [List.getElem?_set_ne (Ne.symm hji)] at hr
            exact r9 j r hr
        exact k i e1 hi he c7 c14 hon c40 _ ⟨gu, lp, lm, lr, ld, ly, le, LP, LM, LR, LD, LY, LE, ⟨by rw [kp 10 (by decide) x (zne hx) (by rw [hxT])]; exact hx, hxT⟩, ⟨by rw [kp 10 (by decide) gu (zne hgu) (by rw [hguT])]; exact hgu, hguT⟩, l1.keep hT (kp 1 (by decide)), l2.keep hT (kp 2 (by decide)), l3', l4.keep hT (kp 4 (by decide)), l5.keep hT (kp 5 (by decide)), l6.keep hT (kp 6 (by decide)), r1', r2.keep hT (kp 8 (by decide)) (kp 9 (by decide)), b1, b2, zlen2 b3, b4, b5, b6⟩ (Ext.put (tk hyT (by decide)))
      · refine z_throwS (text := "no room for so many guests seen") (cls := "java/lang/UnsupportedOperationException") C ht d_RC_seen_43 d_RC_seen_46 d_RC_seen_47 d_RC_seen_49 d_RC_seen_52 (by decide +kernel) k_97 k_9 (by decide +kernel) (tho_UOE C) thg_UOE (by decide) (Nat.le_of_ble_eq_true rfl) (by first | decide | omega) (by first | decide | omega) ?_
        exact kx4 i e1 hi he c7 c14 hon (Int32.not_le.mp c40)
    · refine z_throwS (text := "guests seen at a time are 0 to 999") (cls := "java/lang/IndexOutOfBoundsException") C ht d_RC_seen_17 d_RC_seen_20 d_RC_seen_21 d_RC_seen_23 d_RC_seen_26 (by decide +kernel) k_348 k_20 (by decide +kernel) (tho_IOB C) thg_IOB (by decide) (Nat.le_of_ble_eq_true rfl) (by first | decide | omega) (by first | decide | omega) ?_
      exact kx2 i e1 hi he (Or.inr (Int32.not_le.mp c14))
set_option maxRecDepth 100000 in
theorem ct_RC_missing {a t : Int32} (hR : RepC g T h x S) (kx1 : a < 0 ∨ nI S.ro.length ≤ a → PX xIAE h) (kx2 : ∀ i r, a = nI i → S.ro[i]? = some r → t < 0 → PX xIOB h) (kx3 : ∀ i r, a = nI i → S.ro[i]? = some r → ¬ t < 0 → r.rd < 3 → PX xISE h)
    (k : ∀ i r, a = nI i → S.ro[i]? = some r → ¬ t < 0 → ¬ r.rd < 3 → PR (some (.int (miF r t 0 0 S.ps))) h) : Ct g y_RC_missing w_RC_missing 7 2 12 [.ref x, .int a, .int t] h PR PX := by
  obtain ⟨gu, lp, lm, lr, ld, ly, le, LP, LM, LR, LD, LY, LE, ⟨hx, hxT⟩, ⟨hgu, hguT⟩, l1, l2, l3, l4, l5, l6, r1, r2, b1, b2, b3, b4, b5, b6⟩ := hR
  obtain ⟨vs, hvs⟩ := l1.obj
  refine Ct_intro (cc := c_RC_missing) (nL := 6) (ret := (some FieldType.int)) (ls := [some (.ref x), some (.int a), some (.int t), none, none, none]) (by decide) (Nat.le_of_ble_eq_true rfl) rfl rfl ?_
  intro p e R s m args below meth c C ht hname
  have loop : ∀ (y : Nat) (r : RoT), h y = some (roE r) → h r.ct = some (ia g r.n r.f) → r.n ≤ 60 → ∀ (j i bf : Nat), i + j = S.ps.length → PR (some (.int (miF r t i bf (S.ps.drop i)))) h → Z g 6 2 12 p e R s m args below meth c (vx_MQ below (zQ g PR) (zX g PX) args s 2 12 (zA g)) 0 0 43 [some (.ref x), some (.int a), some (.int t), some (.ref y), some (.int (nI bf)), some (.int (nI i))] [] h := by
    intro y r hye hct hrn j
    induction j with
    | zero =>
      intro i bf hi hp
      have : i = S.ps.length := by omega
      subst this
      rw [List.drop_length] at hp
      refine z_iload C d_RC_missing_43 rfl ?_
      refine z_aload_n C d_RC_missing_45 rfl rfl ?_
      refine z_get (ci := 7) (T := T_RC) (N := 8) C d_RC_missing_46 1 i_RC rfl (by decide) k_61 (fun _ q => q) hx (by rfl) ?_
      refine z_callV (n := 0) (As := []) (rest := [.int (nI S.ps.length)]) (r1 := 1) (mc1 := 0) (ms1 := 0) (ci := 0) (T0 := T_AL) C d_RC_missing_49 k_96 k_93 k_94 k_95 k_4 (by decide +kernel) rfl rfl (by first | assumption | exact zu_s) (by decide) (by decide) (Nat.le_of_ble_eq_true rfl) (by first | decide | omega) (by first | decide | omega) rfl ?_
      refine cl_size l1 ?_
      dsimp only [zps]
      rw [List.length_map]
      refine z_icmp_ge 83 C d_RC_missing_52 (by decide) (fun c52 => ?_) (fun c52 => ?_)
      · refine z_iconst (v := (-1)) C d_RC_missing_83 (by decide) ?_
        refine z_iret C d_RC_missing_84 ?_
        exact hp
      · exact absurd (Int32.le_refl _) c52
    | succ j ih =>
      intro i bf hi hp
      obtain ⟨e0, he, hd⟩ := zdrop (l := S.ps) (k := i) (by omega)
      rw [hd, miF] at hp
      refine z_iload C d_RC_missing_43 rfl ?_
      refine z_aload_n C d_RC_missing_45 rfl rfl ?_
      refine z_get (ci := 7) (T := T_RC) (N := 8) C d_RC_missing_46 1 i_RC rfl (by decide) k_61 (fun _ q => q) hx (by rfl) ?_
      refine z_callV (n := 0) (As := []) (rest := [.int (nI i)]) (r1 := 1) (mc1 := 0) (ms1 := 0) (ci := 0) (T0 := T_AL) C d_RC_missing_49 k_96 k_93 k_94 k_95 k_4 (by decide +kernel) rfl rfl (by first | assumption | exact zu_s) (by decide) (by decide) (Nat.le_of_ble_eq_true rfl) (by first | decide | omega) (by first | decide | omega) rfl ?_
      refine cl_size l1 ?_
      dsimp only [zps]
      rw [List.length_map]
      refine z_icmp_ge 83 C d_RC_missing_52 (by decide) (fun c52 => ?_) (fun c52 => ?_)
      · exact absurd c52 (nI_ge (by omega) (by omega))
      · refine z_aload_n C d_RC_missing_55 rfl rfl ?_
        refine z_aload_n C d_RC_missing_56 rfl rfl ?_
        refine z_iload C d_RC_missing_57 rfl ?_
        refine z_callV (n := 2) (As := [.ref y, .int (nI i)]) (rest := []) (r1 := 6) (mc1 := 0) (ms1 := 0) (ci := 7) (T0 := T_RC) C d_RC_missing_59 k_550 k_547 k_549 ks_13 k_1 (by decide +kernel) rfl rfl (by first | assumption | exact zu_s) (by decide) (by decide) (Nat.le_of_ble_eq_true rfl) (by first | decide | omega) (by first | decide | omega) rfl ?_
        refine ct_RC_isMissingStill hx l1 hye hct hrn he ?_
        dsimp only [zps]
        cases hb : msB r i e0 with
        | false =>
          rw [hb, if_neg (by decide)] at hp
          rw [if_neg (by decide)]
          refine z_if_eq 77 C d_RC_missing_62 (by decide) (fun c62 => ?_) (fun c62 => ?_)
          · refine z_iinc C d_RC_missing_77 rfl (by decide) rfl ?_
            simp only [List.set, zi1, zim1]
            rw [nI_1]
            refine z_goto 43 C d_RC_missing_80 (by decide) ?_
            exact ih (i + 1) bf (by omega) hp
          · exact absurd rfl c62
        | true =>
          rw [hb, if_pos rfl] at hp
          rw [if_pos rfl]
          refine z_if_eq 77 C d_RC_missing_62 (by decide) (fun c62 => ?_) (fun c62 => ?_)
          · exact absurd c62 (by decide)
          · refine z_iload C d_RC_missing_65 rfl ?_
            refine z_iload_n C d_RC_missing_67 rfl rfl ?_
            refine z_icmp_ne 74 C d_RC_missing_68 (by decide) (fun c68 => ?_) (fun c68 => ?_)
            · rw [if_neg c68] at hp
              refine z_iinc C d_RC_missing_74 rfl (by decide) rfl ?_
              simp only [List.set, zi1, zim1]
              refine z_iinc C d_RC_missing_77 rfl (by decide) rfl ?_
              simp only [List.set, zi1, zim1]
              rw [nI_1, nI_1]
              refine z_goto 43 C d_RC_missing_80 (by decide) ?_
              exact ih (i + 1) (bf + 1) (by omega) hp
            · refine z_iload C d_RC_missing_71 rfl ?_
              refine z_iret C d_RC_missing_73 ?_
              rw [if_pos c68] at hp
              exact hp
  refine z_aload_n C d_RC_missing_0 rfl rfl ?_
  refine z_iload_n C d_RC_missing_1 rfl rfl ?_
  refine z_callV (n := 1) (As := [.int a]) (rest := []) (r1 := 6) (mc1 := 1) (ms1 := 6) (ci := 7) (T0 := T_RC) C d_RC_missing_2 k_458 k_455 k_457 ks_9 k_1 (by decide +kernel) rfl rfl (by first | assumption | exact zu_s) (by decide) (by decide) (Nat.le_of_ble_eq_true rfl) (by first | decide | omega) (by first | decide | omega) rfl ?_
  refine ct_RC_knownRoll hx l3 (fun z => zx_out C ht (kx1 z)) (fun i y e1 hi he hy hye hyT => ?_)
  dsimp only [zps]
  obtain ⟨q1, q2, q3⟩ := r1 i e1 he
  refine z_astore_n C d_RC_missing_5 rfl (by decide) rfl ?_
  dsimp only [List.set]
  refine z_iload_n C d_RC_missing_6 rfl rfl ?_
  refine z_if_ge 20 C d_RC_missing_7 (by decide) (fun c7 => ?_) (fun c7 => ?_)
  · refine z_aload_n C d_RC_missing_20 rfl rfl ?_
    refine z_callV (n := 0) (As := []) (rest := []) (r1 := 1) (mc1 := 0) (ms1 := 0) (ci := 3) (T0 := T_RO) C d_RC_missing_21 k_379 k_376 k_377 k_378 k_21 (by decide +kernel) rfl rfl (by first | assumption | exact zu_s) (by decide) (by decide) (Nat.le_of_ble_eq_true rfl) (by first | decide | omega) (by first | decide | omega) rfl ?_
    refine ct_RO_isOver hye ?_
    dsimp only [zps]
    by_cases hon : e1.rd < 3
    · rw [if_pos hon]
      refine z_if_ne 37 C d_RC_missing_24 (by decide) (fun c24 => ?_) (fun c24 => ?_)
      · exact absurd rfl c24
      · refine z_throwS (text := "the roll is not over") (cls := "java/lang/IllegalStateException") C ht d_RC_missing_27 d_RC_missing_30 d_RC_missing_31 d_RC_missing_33 d_RC_missing_36 (by decide +kernel) k_292 k_18 (by decide +kernel) (tho_ISE C) thg_ISE (by decide) (Nat.le_of_ble_eq_true rfl) (by first | decide | omega) (by first | decide | omega) ?_
        exact kx3 i e1 hi he (Int32.not_lt.mpr c7) hon
    · rw [if_neg hon]
      refine z_if_ne 37 C d_RC_missing_24 (by decide) (fun c24 => ?_) (fun c24 => ?_)
      · refine z_iconst (v := 0) C d_RC_missing_37 (by decide) ?_
        refine z_istore C d_RC_missing_38 (by decide) rfl ?_
        dsimp only [List.set]
        refine z_iconst (v := 0) C d_RC_missing_40 (by decide) ?_
        refine z_istore C d_RC_missing_41 (by decide) rfl ?_
        dsimp only [List.set]
        refine z_less (rc1 := 0) (rs1 := 0) (by decide) (by decide) ?_
        exact loop y e1 hye q1 q3 S.ps.length 0 0 (by omega) (by rw [List.drop_zero]; exact k i e1 hi he (Int32.not_lt.mpr c7) hon)
      · exact absurd c24 (by decide)
  · refine z_throwS (text := "i is below 0") (cls := "java/lang/IndexOutOfBoundsException") C ht d_RC_missing_10 d_RC_missing_13 d_RC_missing_14 d_RC_missing_16 d_RC_missing_19 (by decide +kernel) k_348 k_20 (by decide +kernel) (tho_IOB C) thg_IOB (by decide) (Nat.le_of_ble_eq_true rfl) (by first | decide | omega) (by first | decide | omega) ?_
    exact kx2 i e1 hi he (Int32.not_le.mp c7)
set_option maxRecDepth 100000 in
theorem ct_RC_late {a t : Int32} (hR : RepC g T h x S) (kx1 : a < 0 ∨ nI S.ev.length ≤ a → PX xIAE h) (kx2 : ∀ i r, a = nI i → S.ev[i]? = some r → t < 0 → PX xIOB h)
    (k : ∀ i r, a = nI i → S.ev[i]? = some r → ¬ t < 0 → PR (some (.int (laF r.fl t 0 0 10))) h) : Ct g y_RC_late w_RC_late 7 2 12 [.ref x, .int a, .int t] h PR PX := by
  obtain ⟨gu, lp, lm, lr, ld, ly, le, LP, LM, LR, LD, LY, LE, ⟨hx, hxT⟩, ⟨hgu, hguT⟩, l1, l2, l3, l4, l5, l6, r1, r2, b1, b2, b3, b4, b5, b6⟩ := hR
  refine Ct_intro (cc := c_RC_late) (nL := 6) (ret := (some FieldType.int)) (ls := [some (.ref x), some (.int a), some (.int t), none, none, none]) (by decide) (Nat.le_of_ble_eq_true rfl) rfl rfl ?_
  intro p e R s m args below meth c C ht hname
  have loop : ∀ (y : Nat) (r : EvT), h y = some (evE r) → h r.lt = some (ba g 10 r.fl) → ∀ (j i bf : Nat), i + j = 10 → PR (some (.int (laF r.fl t i bf j))) h → Z g 6 2 12 p e R s m args below meth c (vx_MQ below (zQ g PR) (zX g PX) args s 2 12 (zA g)) 0 0 26 [some (.ref x), some (.int a), some (.int t), some (.ref y), some (.int (nI bf)), some (.int (nI i))] [] h := by
    intro y r hye hlt j
    induction j with
    | zero =>
      intro i bf hi hp
      have : i = 10 := by omega
      subst this
      refine z_iload C d_RC_late_26 rfl ?_
      refine z_bipush (v := 10) C d_RC_late_28 (by decide) ?_
      refine z_icmp_ge 61 C d_RC_late_30 (by decide) (fun c30 => ?_) (fun c30 => ?_)
      · refine z_iconst (v := (-1)) C d_RC_late_61 (by decide) ?_
        refine z_iret C d_RC_late_62 ?_
        exact hp
      · exact absurd (by decide) c30
    | succ j ih =>
      intro i bf hi hp
      rw [laF] at hp
      refine z_iload C d_RC_late_26 rfl ?_
      refine z_bipush (v := 10) C d_RC_late_28 (by decide) ?_
      refine z_icmp_ge 61 C d_RC_late_30 (by decide) (fun c30 => ?_) (fun c30 => ?_)
      · exact absurd c30 (by rw [show (10 : Int32) = nI 10 from rfl]; exact nI_ge (by omega) (by omega))
      · refine z_aload_n C d_RC_late_33 rfl rfl ?_
        refine z_get (ci := 6) (T := T_EV) (N := 5) C d_RC_late_34 2 i_EV rfl (by decide) k_663 (fun _ q => q) hye (by rfl) ?_
        refine z_iload C d_RC_late_37 rfl ?_
        refine z_zald C d_RC_late_39 hlt (vp_in_nI (by omega) (by omega)) ?_
        rw [nI_clamp (by omega)]
        refine z_if_eq 55 C d_RC_late_40 (by decide) (fun c40 => ?_) (fun c40 => ?_)
        · rw [if_neg (fun z => z c40)] at hp
          refine z_iinc C d_RC_late_55 rfl (by decide) rfl ?_
          simp only [List.set, zi1, zim1]
          rw [nI_1]
          refine z_goto 26 C d_RC_late_58 (by decide) ?_
          exact ih (i + 1) bf (by omega) hp
        · rw [if_pos c40] at hp
          refine z_iload C d_RC_late_43 rfl ?_
          refine z_iload_n C d_RC_late_45 rfl rfl ?_
          refine z_icmp_ne 52 C d_RC_late_46 (by decide) (fun c46 => ?_) (fun c46 => ?_)
          · rw [if_neg c46] at hp
            refine z_iinc C d_RC_late_52 rfl (by decide) rfl ?_
            simp only [List.set, zi1, zim1]
            refine z_iinc C d_RC_late_55 rfl (by decide) rfl ?_
            simp only [List.set, zi1, zim1]
            rw [nI_1, nI_1]
            refine z_goto 26 C d_RC_late_58 (by decide) ?_
            exact ih (i + 1) (bf + 1) (by omega) hp
          · refine z_iload C d_RC_late_49 rfl ?_
            refine z_iret C d_RC_late_51 ?_
            rw [if_pos c46] at hp
            exact hp
  refine z_aload_n C d_RC_late_0 rfl rfl ?_
  refine z_iload_n C d_RC_late_1 rfl rfl ?_
  refine z_callV (n := 1) (As := [.int a]) (rest := []) (r1 := 6) (mc1 := 1) (ms1 := 6) (ci := 7) (T0 := T_RC) C d_RC_late_2 k_650 k_647 k_649 ks_20 k_1 (by decide +kernel) rfl rfl (by first | assumption | exact zu_s) (by decide) (by decide) (Nat.le_of_ble_eq_true rfl) (by first | decide | omega) (by first | decide | omega) rfl ?_
  refine ct_RC_knownEvacuation hx l6 (fun z => zx_out C ht (kx1 z)) (fun i y e1 hi he hy hye hyT => ?_)
  dsimp only [zps]
  obtain ⟨-, ⟨q1, -⟩, -⟩ := r2 i e1 he
  refine z_astore_n C d_RC_late_5 rfl (by decide) rfl ?_
  dsimp only [List.set]
  refine z_iload_n C d_RC_late_6 rfl rfl ?_
  refine z_if_ge 20 C d_RC_late_7 (by decide) (fun c7 => ?_) (fun c7 => ?_)
  · refine z_iconst (v := 0) C d_RC_late_20 (by decide) ?_
    refine z_istore C d_RC_late_21 (by decide) rfl ?_
    dsimp only [List.set]
    refine z_iconst (v := 0) C d_RC_late_23 (by decide) ?_
    refine z_istore C d_RC_late_24 (by decide) rfl ?_
    dsimp only [List.set]
    refine z_less (rc1 := 0) (rs1 := 0) (by decide) (by decide) ?_
    exact loop y e1 hye q1 10 0 0 (by omega) (k i e1 hi he (Int32.not_lt.mpr c7))
  · refine z_throwS (text := "i is below 0") (cls := "java/lang/IndexOutOfBoundsException") C ht d_RC_late_10 d_RC_late_13 d_RC_late_14 d_RC_late_16 d_RC_late_19 (by decide +kernel) k_348 k_20 (by decide +kernel) (tho_IOB C) thg_IOB (by decide) (Nat.le_of_ble_eq_true rfl) (by first | decide | omega) (by first | decide | omega) ?_
    exact kx2 i e1 hi he (Int32.not_le.mp c7)
end RR
