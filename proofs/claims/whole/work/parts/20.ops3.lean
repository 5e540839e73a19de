/-! public methods: round, rollAt, twice, maydayAt, count -/
theorem zsw3 (t : Int32) : t = 0 ∨ t = 1 ∨ t = 2 ∨ t = 3 ∨ (t.toInt < 0 ∨ 3 < t.toInt) := by
  have : t.toInt = (0 : Int32).toInt ∨ t.toInt = (1 : Int32).toInt ∨ t.toInt = (2 : Int32).toInt ∨ t.toInt = (3 : Int32).toInt ∨ (t.toInt < 0 ∨ 3 < t.toInt) := by
    rw [show (0 : Int32).toInt = 0 from rfl, show (1 : Int32).toInt = 1 from rfl, show (2 : Int32).toInt = 2 from rfl, show (3 : Int32).toInt = 3 from rfl]
    omega
  simpa only [Int32.toInt_inj] using this
theorem zsw6 (t : Int32) : t = 0 ∨ t = 1 ∨ t = 2 ∨ t = 3 ∨ t = 4 ∨ t = 5 ∨ t = 6 ∨ (t.toInt < 0 ∨ 6 < t.toInt) := by
  rcases zsw3 t with q | q | q | q | q
  · exact Or.inl q
  · exact Or.inr (Or.inl q)
  · exact Or.inr (Or.inr (Or.inl q))
  · exact Or.inr (Or.inr (Or.inr (Or.inl q)))
  · have : t.toInt = (4 : Int32).toInt ∨ t.toInt = (5 : Int32).toInt ∨ t.toInt = (6 : Int32).toInt ∨ (t.toInt < 0 ∨ 6 < t.toInt) := by
      rw [show (4 : Int32).toInt = 4 from rfl, show (5 : Int32).toInt = 5 from rfl, show (6 : Int32).toInt = 6 from rfl]
      omega
    rw [Int32.toInt_inj, Int32.toInt_inj, Int32.toInt_inj] at this
    exact Or.inr (Or.inr (Or.inr (Or.inr this)))
theorem roOK.set {g : zG} {T : Tg} {h : Hp} {l : List RoT} (H : roOK g T h l) {i : Nat} {r r1 : RoT} (he : l[i]? = some r) (hr : r1.2.1 = r.2.1) : roOK g T h (l.set i r1) := by
  intro j r2 hr2
  by_cases hji : j = i
  · subst hji
    rw [List.getElem?_set_self (List.getElem?_eq_some_iff.mp he).1] at hr2
    cases hr2
    have q := H j r he
    rw [show r.ct = r1.ct from by rw [RoT.ct, RoT.ct, hr], show r.n = r1.n from by rw [RoT.n, RoT.n, hr], show r.f = r1.f from by rw [RoT.f, RoT.f, hr]] at q
    exact q
  · rw [List.getElem?_set_ne (Ne.symm hji)] at hr2
    exact H j r2 hr2
/-- answers by number -/
def raF (r : RoT) (ps : List PeT) (t : Int32) : Int32 := if t = 0 then r.rd else if t = 1 then r.2.2.2.1 else if t = 2 then r.2.2.2.2.1 else if t = 3 then (if r.rd < 3 then nI (opC r 0 ps) else r.2.2.2.2.2.2.2.2) else if t = 4 then r.2.2.2.2.2.1 else if t = 5 then (if 0 < r.2.2.2.2.2.1 - r.2.2.2.2.2.2.1 then r.2.2.2.2.2.1 - r.2.2.2.2.2.2.1 else 0) else r.2.2.2.2.2.2.2.1
def twF (d : DcT) (t : Int32) : Int32 := if t = 0 then d.1 else if t = 1 then d.2.1 else if t = 2 then d.2.2.1 else d.2.2.2
def maF (d : MdT) (t : Int32) : Int32 := if t = 0 then (if d.op = 0 then 0 else 1) else if t = 1 then d.tm else if t = 2 then d.1 else if t = 3 then d.2.1 else d.2.2.1
def coF (S : CS) (t : Int32) : Int32 := if t = 0 then S.sec else if t = 1 then nI (S.ps.countP (fun e => e.1 ≠ -1)) else if t = 2 then nI (S.ro.countP (fun e => decide (e.rd < 3))) else if t = 3 then nI (S.md.countP (fun e => e.op ≠ 0)) else if t = 4 then nI S.db.length else nI S.mv.length
section RS
variable {g : zG} {T : Tg} {h : Hp} {PR : Option Value → Hp → Prop} {PX : String → Hp → Prop} {x : Nat} {S : CS}
set_option maxRecDepth 100000 in
theorem ct_RC_round {a : Int32} (hR : RepC g T h x S) (kx1 : a < 0 ∨ nI S.ro.length ≤ a → PX xIAE h) (kx2 : ∀ i r, a = nI i → S.ro[i]? = some r → (¬ r.rd < 3 ∨ S.md.countP (fun e => e.op ≠ 0) ≠ 0) → PX xISE h)
    (k : ∀ i (r : RoT), a = nI i → S.ro[i]? = some r → r.rd < 3 → S.md.countP (fun e => e.op ≠ 0) = 0 → ∀ (h1 : Hp), RepC g T h1 x (S.1, S.2.1, S.2.2.1, S.2.2.2.1, S.2.2.2.2.1.set i (r.1, r.2.1, r.2.2.1 + 1, r.2.2.2.1, r.2.2.2.2.1, r.2.2.2.2.2.1, r.2.2.2.2.2.2.1, r.2.2.2.2.2.2.2.1, if r.2.2.1 + 1 < 3 then r.2.2.2.2.2.2.2.2 else nI (opC r 0 S.ps)), S.2.2.2.2.2) → Ext T h T h1 → PR (some (.int (nI (opC r 0 S.ps)))) h1) : Ct g y_RC_round w_RC_round 7 3 18 [.ref x, .int a] h PR PX := by
  obtain ⟨gu, lp, lm, lr, ld, ly, le, LP, LM, LR, LD, LY, LE, ⟨hx, hxT⟩, ⟨hgu, hguT⟩, l1, l2, l3, l4, l5, l6, r1, r2, b1, b2, b3, b4, b5, b6⟩ := hR
  refine Ct_intro (cc := c_RC_round) (nL := 4) (ret := (some FieldType.int)) (ls := [some (.ref x), some (.int a), none, none]) (by decide) (Nat.le_of_ble_eq_true rfl) rfl rfl ?_
  intro p e R s m args below meth c C ht hname
  refine z_aload_n C d_RC_round_0 rfl rfl ?_
  refine z_iload_n C d_RC_round_1 rfl rfl ?_
  refine z_callV (n := 1) (As := [.int a]) (rest := []) (r1 := 6) (mc1 := 1) (ms1 := 6) (ci := 7) (T0 := T_RC) C d_RC_round_2 k_458 k_455 k_457 ks_9 k_1 (by decide +kernel) rfl rfl (by first | assumption | exact zu_s) (by decide) (by decide) (Nat.le_of_ble_eq_true rfl) (by first | decide | omega) (by first | decide | omega) rfl ?_
  refine ct_RC_knownRoll hx l3 (fun z => zx_out C ht (kx1 z)) (fun i y e1 hi he hy hye hyT => ?_)
  dsimp only [zps]
  obtain ⟨q1, q2, q3⟩ := r1 i e1 he
  refine z_astore_n C d_RC_round_5 rfl (by decide) rfl ?_
  dsimp only [List.set]
  refine z_aload_n C d_RC_round_6 rfl rfl ?_
  refine z_callS (n := 1) (As := [.ref y]) (rest := []) (r1 := 6) (mc1 := 1) (ms1 := 6) C d_RC_round_7 k_462 k_460 k_461 k_1 (by decide +kernel) rfl (by decide) (by decide) (Nat.le_of_ble_eq_true rfl) (by first | decide | omega) (by first | decide | omega) rfl ?_
  refine ct_RC_checkIsOn hye (fun z => zx_out C ht (kx2 i e1 hi he (Or.inl z))) (fun hon => ?_)
  dsimp only [zps]
  refine z_aload_n C d_RC_round_10 rfl rfl ?_
  refine z_callV (n := 0) (As := []) (rest := []) (r1 := 4) (mc1 := 0) (ms1 := 0) (ci := 7) (T0 := T_RC) C d_RC_round_11 k_387 k_384 k_386 ks_7 k_1 (by decide +kernel) rfl rfl (by first | assumption | exact zu_s) (by decide) (by decide) (Nat.le_of_ble_eq_true rfl) (by first | decide | omega) (by first | decide | omega) rfl ?_
  refine ct_RC_openMaydays hx l5 ?_
  dsimp only [zps]
  have hcl := List.countP_le_length (l := S.md) (p := fun e => decide (e.op ≠ 0))
  refine z_if_le 27 C d_RC_round_14 (by decide) (fun c14 => ?_) (fun c14 => ?_)
  · have h0 : S.md.countP (fun e => decide (e.op ≠ 0)) = 0 := Classical.byContradiction fun q => absurd c14 (nI_nle (Nat.pos_of_ne_zero q) (by omega))
    have k1 := k i e1 hi he hon h0
    clear c14 h0 hcl k kx1 kx2
    refine z_aload_n C d_RC_round_27 rfl rfl ?_
    refine z_aload_n C d_RC_round_28 rfl rfl ?_
    refine z_callV (n := 1) (As := [.ref y]) (rest := []) (r1 := 6) (mc1 := 0) (ms1 := 0) (ci := 7) (T0 := T_RC) C d_RC_round_29 k_521 k_518 k_520 ks_11 k_1 (by decide +kernel) rfl rfl (by first | assumption | exact zu_s) (by decide) (by decide) (Nat.le_of_ble_eq_true rfl) (by first | decide | omega) (by first | decide | omega) rfl ?_
    refine ct_RC_openPersons hx l1 hye q1 q3 ?_
    dsimp only [zps]
    have kp0 : ∀ (v : va_E) (kd : Nat), kd ≠ 3 → ∀ q, h q ≠ none → (T q).1 = kd → zu h y v q = h q := fun v kd h8 q hq e => zu_n (fun z => h8 (by rw [← e, z, hyT]))
    have hT : ∀ q, h q ≠ none → T q = T q := fun _ _ => rfl
    refine z_istore_n C d_RC_round_32 rfl (by decide) rfl ?_
    dsimp only [List.set]
    refine z_aload_n C d_RC_round_33 rfl rfl ?_
    refine z_dup C d_RC_round_34 rfl ?_
    refine z_get (ci := 3) (T := T_RO) (N := 10) C d_RC_round_35 3 i_RO rfl (by decide) k_405 (fun _ q => q) hye (by rfl) ?_
    refine z_iconst (v := 1) C d_RC_round_38 (by decide) ?_
    refine z_iadd C d_RC_round_39 ?_
    refine z_put (ci := 3) (T := T_RO) (N := 10) (ty := .int) C d_RC_round_40 3 ty_RO t_RO n_RO i_RO rfl (by decide) k_405 (fun _ q => q) rfl (by decide +kernel) (by rfl) (by rfl) hye (by exact Nat.le_of_ble_eq_true rfl) ?_
    dsimp only [List.set]
    refine z_aload_n C d_RC_round_43 rfl rfl ?_
    refine z_callV (n := 0) (As := []) (rest := []) (r1 := 1) (mc1 := 0) (ms1 := 0) (ci := 3) (T0 := T_RO) C d_RC_round_44 k_379 k_376 k_377 k_378 k_21 (by decide +kernel) rfl rfl zu_s (by decide) (by decide) (Nat.le_of_ble_eq_true rfl) (by first | decide | omega) (by first | decide | omega) rfl ?_
    refine ct_RO_isOver (num := e1.1.1) (sec := e1.1.2) (ct := e1.2.1.1) (rd := e1.2.2.1 + 1) (as := e1.2.2.2.1) (co := e1.2.2.2.2.1) (ga := e1.2.2.2.2.2.1) (gs := e1.2.2.2.2.2.2.1) (st := e1.2.2.2.2.2.2.2.1) (mi := e1.2.2.2.2.2.2.2.2) zu_s ?_
    dsimp only [zps]
    by_cases hov : e1.2.2.1 + 1 < 3
    · rw [if_pos hov]
      rw [if_pos hov] at k1
      refine z_if_eq 55 C d_RC_round_47 (by decide) (fun c47 => ?_) (fun c47 => ?_)
      · refine z_iload_n C d_RC_round_55 rfl rfl ?_
        refine z_iret C d_RC_round_56 ?_
        have kp := kp0 (roE (e1.1, e1.2.1, e1.2.2.1 + 1, e1.2.2.2.1, e1.2.2.2.2.1, e1.2.2.2.2.2.1, e1.2.2.2.2.2.2.1, e1.2.2.2.2.2.2.2.1, e1.2.2.2.2.2.2.2.2))
        have l3' := l3.set (e := roE (e1.1, e1.2.1, e1.2.2.1 + 1, e1.2.2.2.1, e1.2.2.2.2.1, e1.2.2.2.2.2.1, e1.2.2.2.2.2.2.1, e1.2.2.2.2.2.2.2.1, e1.2.2.2.2.2.2.2.2)) hy
        rw [← List.map_set] at l3'
        have r9 := r1.keep hT (kp 7 (by decide))
        exact k1 _ ⟨gu, lp, lm, lr, ld, ly, le, LP, LM, LR, LD, LY, LE, ⟨(kp 10 (by decide) x (zne hx) (by rw [hxT])).trans hx, (hT x (zne hx)).trans hxT⟩, ⟨(kp 10 (by decide) gu (zne hgu) (by rw [hguT])).trans hgu, (hT gu (zne hgu)).trans hguT⟩, l1.keep hT (kp 1 (by decide)), l2.keep hT (kp 2 (by decide)), l3', l4.keep hT (kp 4 (by decide)), l5.keep hT (kp 5 (by decide)), l6.keep hT (kp 6 (by decide)), r9.set he rfl, r2.keep hT (kp 8 (by decide)) (kp 9 (by decide)), b1, b2, zlen2 b3, b4, b5, b6⟩ (Ext.put (tk hyT (by decide)))
      · exact absurd rfl c47
    · rw [if_neg hov]
      rw [if_neg hov] at k1
      refine z_if_eq 55 C d_RC_round_47 (by decide) (fun c47 => ?_) (fun c47 => ?_)
      · exact absurd c47 (by decide)
      · refine z_aload_n C d_RC_round_50 rfl rfl ?_
        refine z_iload_n C d_RC_round_51 rfl rfl ?_
        refine z_put (ci := 3) (T := T_RO) (N := 10) (ty := .int) C d_RC_round_52 9 ty_RO t_RO n_RO i_RO rfl (by decide) k_414 (fun _ q => q) rfl (by decide +kernel) (by rfl) (by rfl) zu_s (by exact Nat.le_of_ble_eq_true rfl) ?_
        dsimp only [List.set]
        refine z_iload_n C d_RC_round_55 rfl rfl ?_
        refine z_iret C d_RC_round_56 ?_
        rw [zu_zu]
        have kp := kp0 (roE (e1.1, e1.2.1, e1.2.2.1 + 1, e1.2.2.2.1, e1.2.2.2.2.1, e1.2.2.2.2.2.1, e1.2.2.2.2.2.2.1, e1.2.2.2.2.2.2.2.1, nI (opC e1 0 S.ps)))
        have l3' := l3.set (e := roE (e1.1, e1.2.1, e1.2.2.1 + 1, e1.2.2.2.1, e1.2.2.2.2.1, e1.2.2.2.2.2.1, e1.2.2.2.2.2.2.1, e1.2.2.2.2.2.2.2.1, nI (opC e1 0 S.ps))) hy
        rw [← List.map_set] at l3'
        have r9 := r1.keep hT (kp 7 (by decide))
        exact k1 _ ⟨gu, lp, lm, lr, ld, ly, le, LP, LM, LR, LD, LY, LE, ⟨(kp 10 (by decide) x (zne hx) (by rw [hxT])).trans hx, (hT x (zne hx)).trans hxT⟩, ⟨(kp 10 (by decide) gu (zne hgu) (by rw [hguT])).trans hgu, (hT gu (zne hgu)).trans hguT⟩, l1.keep hT (kp 1 (by decide)), l2.keep hT (kp 2 (by decide)), l3', l4.keep hT (kp 4 (by decide)), l5.keep hT (kp 5 (by decide)), l6.keep hT (kp 6 (by decide)), r9.set he rfl, r2.keep hT (kp 8 (by decide)) (kp 9 (by decide)), b1, b2, zlen2 b3, b4, b5, b6⟩ (Ext.put (tk hyT (by decide)))
  · refine z_throwS (text := "a mayday is open") (cls := "java/lang/IllegalStateException") C ht d_RC_round_17 d_RC_round_20 d_RC_round_21 d_RC_round_23 d_RC_round_26 (by decide +kernel) k_292 k_18 (by decide +kernel) (tho_ISE C) thg_ISE (by decide) (Nat.le_of_ble_eq_true rfl) (by first | decide | omega) (by first | decide | omega) ?_
    refine kx2 i e1 hi he (Or.inr (fun z => c14 ?_))
    rw [z]
    decide
set_option maxRecDepth 100000 in
theorem ct_RC_rollAt {a t : Int32} (hR : RepC g T h x S) (kx1 : a < 0 ∨ nI S.ro.length ≤ a → PX xIAE h) (kx2 : (t.toInt < 0 ∨ 6 < t.toInt) → PX xIAE h)
    (k : ∀ i (r : RoT), a = nI i → S.ro[i]? = some r → ¬ (t.toInt < 0 ∨ 6 < t.toInt) → PR (some (.int (raF r S.ps t))) h) : Ct g y_RC_rollAt w_RC_rollAt 7 2 12 [.ref x, .int a, .int t] h PR PX := by
  obtain ⟨gu, lp, lm, lr, ld, ly, le, LP, LM, LR, LD, LY, LE, ⟨hx, hxT⟩, ⟨hgu, hguT⟩, l1, l2, l3, l4, l5, l6, r1, r2, b1, b2, b3, b4, b5, b6⟩ := hR
  refine Ct_intro (cc := c_RC_rollAt) (nL := 4) (ret := (some FieldType.int)) (ls := [some (.ref x), some (.int a), some (.int t), none]) (by decide) (Nat.le_of_ble_eq_true rfl) rfl rfl ?_
  intro p e R s m args below meth c C ht hname
  refine z_aload_n C d_RC_rollAt_0 rfl rfl ?_
  refine z_iload_n C d_RC_rollAt_1 rfl rfl ?_
  refine z_callV (n := 1) (As := [.int a]) (rest := []) (r1 := 6) (mc1 := 1) (ms1 := 6) (ci := 7) (T0 := T_RC) C d_RC_rollAt_2 k_458 k_455 k_457 ks_9 k_1 (by decide +kernel) rfl rfl (by first | assumption | exact zu_s) (by decide) (by decide) (Nat.le_of_ble_eq_true rfl) (by first | decide | omega) (by first | decide | omega) rfl ?_
  refine ct_RC_knownRoll hx l3 (fun z => zx_out C ht (kx1 z)) (fun i y e1 hi he hy hye hyT => ?_)
  dsimp only [zps]
  obtain ⟨q1, q2, q3⟩ := r1 i e1 he
  have k1 := k i e1 hi he
  clear k kx1
  refine z_astore_n C d_RC_rollAt_5 rfl (by decide) rfl ?_
  dsimp only [List.set]
  refine z_iload_n C d_RC_rollAt_6 rfl rfl ?_
  rcases zsw6 t with q | q | q | q | q | q | q | q
  · subst q
    refine z_tableIn 48 C d_RC_rollAt_7 (by decide) (by decide) rfl (by decide) ?_
    refine z_aload_n C d_RC_rollAt_48 rfl rfl ?_
    refine z_get (ci := 3) (T := T_RO) (N := 10) C d_RC_rollAt_49 3 i_RO rfl (by decide) k_405 (fun _ q => q) hye (by rfl) ?_
    refine z_iret C d_RC_rollAt_52 ?_
    exact k1 (by decide)
  · subst q
    refine z_tableIn 53 C d_RC_rollAt_7 (by decide) (by decide) rfl (by decide) ?_
    refine z_aload_n C d_RC_rollAt_53 rfl rfl ?_
    refine z_get (ci := 3) (T := T_RO) (N := 10) C d_RC_rollAt_54 4 i_RO rfl (by decide) k_407 (fun _ q => q) hye (by rfl) ?_
    refine z_iret C d_RC_rollAt_57 ?_
    exact k1 (by decide)
  · subst q
    refine z_tableIn 58 C d_RC_rollAt_7 (by decide) (by decide) rfl (by decide) ?_
    refine z_aload_n C d_RC_rollAt_58 rfl rfl ?_
    refine z_get (ci := 3) (T := T_RO) (N := 10) C d_RC_rollAt_59 5 i_RO rfl (by decide) k_409 (fun _ q => q) hye (by rfl) ?_
    refine z_iret C d_RC_rollAt_62 ?_
    exact k1 (by decide)
  · subst q
    refine z_tableIn 63 C d_RC_rollAt_7 (by decide) (by decide) rfl (by decide) ?_
    have k2 := k1 (by decide)
    rw [show raF e1 S.ps 3 = (if e1.rd < 3 then nI (opC e1 0 S.ps) else e1.2.2.2.2.2.2.2.2) from rfl] at k2
    refine z_aload_n C d_RC_rollAt_63 rfl rfl ?_
    refine z_callV (n := 0) (As := []) (rest := []) (r1 := 1) (mc1 := 0) (ms1 := 0) (ci := 3) (T0 := T_RO) C d_RC_rollAt_64 k_379 k_376 k_377 k_378 k_21 (by decide +kernel) rfl rfl (by first | assumption | exact zu_s) (by decide) (by decide) (Nat.le_of_ble_eq_true rfl) (by first | decide | omega) (by first | decide | omega) rfl ?_
    refine ct_RO_isOver hye ?_
    dsimp only [zps]
    by_cases hov : e1.rd < 3
    · rw [if_pos hov] at k2 ⊢
      refine z_if_eq 77 C d_RC_rollAt_67 (by decide) (fun c67 => ?_) (fun c67 => ?_)
      · refine z_aload_n C d_RC_rollAt_77 rfl rfl ?_
        refine z_aload_n C d_RC_rollAt_78 rfl rfl ?_
        refine z_callV (n := 1) (As := [.ref y]) (rest := []) (r1 := 6) (mc1 := 0) (ms1 := 0) (ci := 7) (T0 := T_RC) C d_RC_rollAt_79 k_521 k_518 k_520 ks_11 k_1 (by decide +kernel) rfl rfl (by first | assumption | exact zu_s) (by decide) (by decide) (Nat.le_of_ble_eq_true rfl) (by first | decide | omega) (by first | decide | omega) rfl ?_
        refine ct_RC_openPersons hx l1 hye q1 q3 ?_
        dsimp only [zps]
        refine z_iret C d_RC_rollAt_82 ?_
        exact k2
      · exact absurd rfl c67
    · rw [if_neg hov] at k2 ⊢
      refine z_if_eq 77 C d_RC_rollAt_67 (by decide) (fun c67 => ?_) (fun c67 => ?_)
      · exact absurd c67 (by decide)
      · refine z_aload_n C d_RC_rollAt_70 rfl rfl ?_
        refine z_get (ci := 3) (T := T_RO) (N := 10) C d_RC_rollAt_71 9 i_RO rfl (by decide) k_414 (fun _ q => q) hye (by rfl) ?_
        refine z_goto 82 C d_RC_rollAt_74 (by decide) ?_
        refine z_iret C d_RC_rollAt_82 ?_
        exact k2
  · subst q
    refine z_tableIn 83 C d_RC_rollAt_7 (by decide) (by decide) rfl (by decide) ?_
    refine z_aload_n C d_RC_rollAt_83 rfl rfl ?_
    refine z_get (ci := 3) (T := T_RO) (N := 10) C d_RC_rollAt_84 6 i_RO rfl (by decide) k_411 (fun _ q => q) hye (by rfl) ?_
    refine z_iret C d_RC_rollAt_87 ?_
    exact k1 (by decide)
  · subst q
    refine z_tableIn 88 C d_RC_rollAt_7 (by decide) (by decide) rfl (by decide) ?_
    refine z_iconst (v := 0) C d_RC_rollAt_88 (by decide) ?_
    refine z_aload_n C d_RC_rollAt_89 rfl rfl ?_
    refine z_get (ci := 3) (T := T_RO) (N := 10) C d_RC_rollAt_90 6 i_RO rfl (by decide) k_411 (fun _ q => q) hye (by rfl) ?_
    refine z_aload_n C d_RC_rollAt_93 rfl rfl ?_
    refine z_get (ci := 3) (T := T_RO) (N := 10) C d_RC_rollAt_94 7 i_RO rfl (by decide) k_412 (fun _ q => q) hye (by rfl) ?_
    refine z_isub C d_RC_rollAt_97 ?_
    refine z_max C d_RC_rollAt_98 k_472 k_205 k_12 k_206 (by decide) (Nat.le_of_ble_eq_true rfl) ?_
    refine z_iret C d_RC_rollAt_101 ?_
    exact k1 (by decide)
  · subst q
    refine z_tableIn 102 C d_RC_rollAt_7 (by decide) (by decide) rfl (by decide) ?_
    refine z_aload_n C d_RC_rollAt_102 rfl rfl ?_
    refine z_get (ci := 3) (T := T_RO) (N := 10) C d_RC_rollAt_103 8 i_RO rfl (by decide) k_413 (fun _ q => q) hye (by rfl) ?_
    refine z_iret C d_RC_rollAt_106 ?_
    exact k1 (by decide)
  · refine z_tableOut 107 C d_RC_rollAt_7 (by first | assumption | decide) (by decide) ?_
    refine z_throwS (text := "no such what") (cls := "java/lang/IllegalArgumentException") C ht d_RC_rollAt_107 d_RC_rollAt_110 d_RC_rollAt_111 d_RC_rollAt_113 d_RC_rollAt_116 (by decide +kernel) k_258 k_15 (by decide +kernel) (tho_IAE C) thg_IAE (by decide) (Nat.le_of_ble_eq_true rfl) (by first | decide | omega) (by first | decide | omega) ?_
    exact kx2 q
set_option maxRecDepth 100000 in
theorem ct_RC_twice {a t : Int32} (hR : RepC g T h x S) (kx1 : a < 0 ∨ nI S.db.length ≤ a → PX xIAE h) (kx2 : (t.toInt < 0 ∨ 3 < t.toInt) → PX xIAE h)
    (k : ∀ i (r : DcT), a = nI i → S.db[i]? = some r → ¬ (t.toInt < 0 ∨ 3 < t.toInt) → PR (some (.int (twF r t))) h) : Ct g y_RC_twice w_RC_twice 6 1 6 [.ref x, .int a, .int t] h PR PX := by
  obtain ⟨gu, lp, lm, lr, ld, ly, le, LP, LM, LR, LD, LY, LE, ⟨hx, hxT⟩, ⟨hgu, hguT⟩, l1, l2, l3, l4, l5, l6, r1, r2, b1, b2, b3, b4, b5, b6⟩ := hR
  obtain ⟨vs, hvs⟩ := l4.obj
  refine Ct_intro (cc := c_RC_twice) (nL := 4) (ret := (some FieldType.int)) (ls := [some (.ref x), some (.int a), some (.int t), none]) (by decide) (Nat.le_of_ble_eq_true rfl) rfl rfl ?_
  intro p e R s m args below meth c C ht hname
  refine z_iload_n C d_RC_twice_0 rfl rfl ?_
  refine z_if_lt 15 C d_RC_twice_1 (by decide) (fun c1 => ?_) (fun c1 => ?_)
  · refine z_throwS (text := "no such double") (cls := "java/lang/IllegalArgumentException") C ht d_RC_twice_15 d_RC_twice_18 d_RC_twice_19 d_RC_twice_21 d_RC_twice_24 (by decide +kernel) k_258 k_15 (by decide +kernel) (tho_IAE C) thg_IAE (by decide) (Nat.le_of_ble_eq_true rfl) (by first | decide | omega) (by first | decide | omega) ?_
    exact kx1 (Or.inl c1)
  · refine z_iload_n C d_RC_twice_4 rfl rfl ?_
    refine z_aload_n C d_RC_twice_5 rfl rfl ?_
    refine z_get (ci := 7) (T := T_RC) (N := 8) C d_RC_twice_6 4 i_RC rfl (by decide) k_64 (fun _ q => q) hx (by rfl) ?_
    refine z_callV (n := 0) (As := []) (rest := [.int a]) (r1 := 1) (mc1 := 0) (ms1 := 0) (ci := 0) (T0 := T_AL) C d_RC_twice_9 k_96 k_93 k_94 k_95 k_4 (by decide +kernel) rfl rfl (by first | assumption | exact zu_s) (by decide) (by decide) (Nat.le_of_ble_eq_true rfl) (by first | decide | omega) (by first | decide | omega) rfl ?_
    refine cl_size l4 ?_
    dsimp only [zps]
    rw [List.length_map]
    refine z_icmp_lt 25 C d_RC_twice_12 (by decide) (fun c12 => ?_) (fun c12 => ?_)
    · obtain ⟨i, hi, rfl, -⟩ := pk_mu (L := S.db.length) c1 (Int32.not_le.mpr c12) (by omega)
      obtain ⟨e1, he⟩ : ∃ e1, S.db[i]? = some e1 := ⟨_, List.getElem?_eq_getElem hi⟩
      obtain ⟨y, hy, hye, hyT⟩ := l4.atm he
      have k1 := k i e1 rfl he
      clear k kx1
      refine z_aload_n C d_RC_twice_25 rfl rfl ?_
      refine z_get (ci := 7) (T := T_RC) (N := 8) C d_RC_twice_26 4 i_RC rfl (by decide) k_64 (fun _ q => q) hx (by rfl) ?_
      refine z_iload_n C d_RC_twice_29 rfl rfl ?_
      refine z_callV (n := 1) (As := [.int (nI i)]) (rest := []) (r1 := 3) (mc1 := 0) (ms1 := 0) (ci := 0) (T0 := T_AL) C d_RC_twice_30 k_277 k_274 k_275 k_276 k_4 (by decide +kernel) rfl rfl (by first | assumption | exact zu_s) (by decide) (by decide) (Nat.le_of_ble_eq_true rfl) (by first | decide | omega) (by first | decide | omega) rfl ?_
      refine cl_get l4 hy ?_
      dsimp only [zps]
      refine z_cast (ci := 4) C d_RC_twice_33 rfl k_473 hye ?_
      refine z_astore_n C d_RC_twice_36 rfl (by decide) rfl ?_
      dsimp only [List.set]
      refine z_iload_n C d_RC_twice_37 rfl rfl ?_
      rcases zsw3 t with q | q | q | q | q
      · subst q
        refine z_tableIn 68 C d_RC_twice_38 (by decide) (by decide) rfl (by decide) ?_
        refine z_aload_n C d_RC_twice_68 rfl rfl ?_
        refine z_get (ci := 4) (T := T_DC) (N := 4) C d_RC_twice_69 0 i_DC rfl (by decide) k_480 (fun _ q => q) hye (by rfl) ?_
        refine z_iret C d_RC_twice_72 ?_
        exact k1 (by decide)
      · subst q
        refine z_tableIn 73 C d_RC_twice_38 (by decide) (by decide) rfl (by decide) ?_
        refine z_aload_n C d_RC_twice_73 rfl rfl ?_
        refine z_get (ci := 4) (T := T_DC) (N := 4) C d_RC_twice_74 1 i_DC rfl (by decide) k_482 (fun _ q => q) hye (by rfl) ?_
        refine z_iret C d_RC_twice_77 ?_
        exact k1 (by decide)
      · subst q
        refine z_tableIn 78 C d_RC_twice_38 (by decide) (by decide) rfl (by decide) ?_
        refine z_aload_n C d_RC_twice_78 rfl rfl ?_
        refine z_get (ci := 4) (T := T_DC) (N := 4) C d_RC_twice_79 2 i_DC rfl (by decide) k_484 (fun _ q => q) hye (by rfl) ?_
        refine z_iret C d_RC_twice_82 ?_
        exact k1 (by decide)
      · subst q
        refine z_tableIn 83 C d_RC_twice_38 (by decide) (by decide) rfl (by decide) ?_
        refine z_aload_n C d_RC_twice_83 rfl rfl ?_
        refine z_get (ci := 4) (T := T_DC) (N := 4) C d_RC_twice_84 3 i_DC rfl (by decide) k_486 (fun _ q => q) hye (by rfl) ?_
        refine z_iret C d_RC_twice_87 ?_
        exact k1 (by decide)
      · refine z_tableOut 88 C d_RC_twice_38 (by first | assumption | decide) (by decide) ?_
        refine z_throwS (text := "no such what") (cls := "java/lang/IllegalArgumentException") C ht d_RC_twice_88 d_RC_twice_91 d_RC_twice_92 d_RC_twice_94 d_RC_twice_97 (by decide +kernel) k_258 k_15 (by decide +kernel) (tho_IAE C) thg_IAE (by decide) (Nat.le_of_ble_eq_true rfl) (by first | decide | omega) (by first | decide | omega) ?_
        exact kx2 q
    · refine z_throwS (text := "no such double") (cls := "java/lang/IllegalArgumentException") C ht d_RC_twice_15 d_RC_twice_18 d_RC_twice_19 d_RC_twice_21 d_RC_twice_24 (by decide +kernel) k_258 k_15 (by decide +kernel) (tho_IAE C) thg_IAE (by decide) (Nat.le_of_ble_eq_true rfl) (by first | decide | omega) (by first | decide | omega) ?_
      exact kx1 (Or.inr (Int32.not_lt.mp c12))
set_option maxRecDepth 100000 in
theorem ct_RC_maydayAt {a t : Int32} (hR : RepC g T h x S) (kx1 : a < 0 ∨ nI S.md.length ≤ a → PX xIAE h) (kx2 : (t.toInt < 0 ∨ 4 < t.toInt) → PX xIAE h)
    (k : ∀ i (r : MdT), a = nI i → S.md[i]? = some r → ¬ (t.toInt < 0 ∨ 4 < t.toInt) → PR (some (.int (maF r t))) h) : Ct g y_RC_maydayAt w_RC_maydayAt 7 2 12 [.ref x, .int a, .int t] h PR PX := by
  obtain ⟨gu, lp, lm, lr, ld, ly, le, LP, LM, LR, LD, LY, LE, ⟨hx, hxT⟩, ⟨hgu, hguT⟩, l1, l2, l3, l4, l5, l6, r1, r2, b1, b2, b3, b4, b5, b6⟩ := hR
  refine Ct_intro (cc := c_RC_maydayAt) (nL := 4) (ret := (some FieldType.int)) (ls := [some (.ref x), some (.int a), some (.int t), none]) (by decide) (Nat.le_of_ble_eq_true rfl) rfl rfl ?_
  intro p e R s m args below meth c C ht hname
  refine z_aload_n C d_RC_maydayAt_0 rfl rfl ?_
  refine z_iload_n C d_RC_maydayAt_1 rfl rfl ?_
  refine z_callV (n := 1) (As := [.int a]) (rest := []) (r1 := 6) (mc1 := 1) (ms1 := 6) (ci := 7) (T0 := T_RC) C d_RC_maydayAt_2 k_617 k_614 k_616 ks_17 k_1 (by decide +kernel) rfl rfl (by first | assumption | exact zu_s) (by decide) (by decide) (Nat.le_of_ble_eq_true rfl) (by first | decide | omega) (by first | decide | omega) rfl ?_
  refine ct_RC_knownMayday hx l5 (fun z => zx_out C ht (kx1 z)) (fun i y e1 hi he hy hye hyT => ?_)
  dsimp only [zps]
  have k1 := k i e1 hi he
  clear k kx1
  refine z_astore_n C d_RC_maydayAt_5 rfl (by decide) rfl ?_
  dsimp only [List.set]
  refine z_iload_n C d_RC_maydayAt_6 rfl rfl ?_
  rcases zsw6 t with q | q | q | q | q | q | q | q
  · subst q
    refine z_tableIn 40 C d_RC_maydayAt_7 (by decide) (by decide) rfl (by decide) ?_
    have k2 := k1 (by decide)
    rw [show maF e1 0 = (if e1.op = 0 then 0 else 1) from rfl] at k2
    refine z_aload_n C d_RC_maydayAt_40 rfl rfl ?_
    refine z_get (ci := 5) (T := T_MD) (N := 5) C d_RC_maydayAt_41 3 i_MD rfl (by decide) k_593 (fun _ q => q) hye (by rfl) ?_
    refine z_if_eq 51 C d_RC_maydayAt_44 (by decide) (fun c44 => ?_) (fun c44 => ?_)
    · rw [if_pos c44] at k2
      refine z_iconst (v := 0) C d_RC_maydayAt_51 (by decide) ?_
      refine z_iret C d_RC_maydayAt_52 ?_
      exact k2
    · rw [if_neg c44] at k2
      refine z_iconst (v := 1) C d_RC_maydayAt_47 (by decide) ?_
      refine z_goto 52 C d_RC_maydayAt_48 (by decide) ?_
      refine z_iret C d_RC_maydayAt_52 ?_
      exact k2
  · subst q
    refine z_tableIn 53 C d_RC_maydayAt_7 (by decide) (by decide) rfl (by decide) ?_
    refine z_aload_n C d_RC_maydayAt_53 rfl rfl ?_
    refine z_get (ci := 5) (T := T_MD) (N := 5) C d_RC_maydayAt_54 4 i_MD rfl (by decide) k_595 (fun _ q => q) hye (by rfl) ?_
    refine z_iret C d_RC_maydayAt_57 ?_
    exact k1 (by decide)
  · subst q
    refine z_tableIn 58 C d_RC_maydayAt_7 (by decide) (by decide) rfl (by decide) ?_
    refine z_aload_n C d_RC_maydayAt_58 rfl rfl ?_
    refine z_get (ci := 5) (T := T_MD) (N := 5) C d_RC_maydayAt_59 0 i_MD rfl (by decide) k_587 (fun _ q => q) hye (by rfl) ?_
    refine z_iret C d_RC_maydayAt_62 ?_
    exact k1 (by decide)
  · subst q
    refine z_tableIn 63 C d_RC_maydayAt_7 (by decide) (by decide) rfl (by decide) ?_
    refine z_aload_n C d_RC_maydayAt_63 rfl rfl ?_
    refine z_get (ci := 5) (T := T_MD) (N := 5) C d_RC_maydayAt_64 1 i_MD rfl (by decide) k_589 (fun _ q => q) hye (by rfl) ?_
    refine z_iret C d_RC_maydayAt_67 ?_
    exact k1 (by decide)
  · subst q
    refine z_tableIn 68 C d_RC_maydayAt_7 (by decide) (by decide) rfl (by decide) ?_
    refine z_aload_n C d_RC_maydayAt_68 rfl rfl ?_
    refine z_get (ci := 5) (T := T_MD) (N := 5) C d_RC_maydayAt_69 2 i_MD rfl (by decide) k_591 (fun _ q => q) hye (by rfl) ?_
    refine z_iret C d_RC_maydayAt_72 ?_
    exact k1 (by decide)
  · subst q
    refine z_tableOut 73 C d_RC_maydayAt_7 (by first | assumption | decide) (by decide) ?_
    refine z_throwS (text := "no such what") (cls := "java/lang/IllegalArgumentException") C ht d_RC_maydayAt_73 d_RC_maydayAt_76 d_RC_maydayAt_77 d_RC_maydayAt_79 d_RC_maydayAt_82 (by decide +kernel) k_258 k_15 (by decide +kernel) (tho_IAE C) thg_IAE (by decide) (Nat.le_of_ble_eq_true rfl) (by first | decide | omega) (by first | decide | omega) ?_
    exact kx2 (by decide)
  · subst q
    refine z_tableOut 73 C d_RC_maydayAt_7 (by first | assumption | decide) (by decide) ?_
    refine z_throwS (text := "no such what") (cls := "java/lang/IllegalArgumentException") C ht d_RC_maydayAt_73 d_RC_maydayAt_76 d_RC_maydayAt_77 d_RC_maydayAt_79 d_RC_maydayAt_82 (by decide +kernel) k_258 k_15 (by decide +kernel) (tho_IAE C) thg_IAE (by decide) (Nat.le_of_ble_eq_true rfl) (by first | decide | omega) (by first | decide | omega) ?_
    exact kx2 (by decide)
  · have q2 : t.toInt < 0 ∨ 4 < t.toInt := by omega
    refine z_tableOut 73 C d_RC_maydayAt_7 (by first | assumption | decide) (by decide) ?_
    refine z_throwS (text := "no such what") (cls := "java/lang/IllegalArgumentException") C ht d_RC_maydayAt_73 d_RC_maydayAt_76 d_RC_maydayAt_77 d_RC_maydayAt_79 d_RC_maydayAt_82 (by decide +kernel) k_258 k_15 (by decide +kernel) (tho_IAE C) thg_IAE (by decide) (Nat.le_of_ble_eq_true rfl) (by first | decide | omega) (by first | decide | omega) ?_
    exact kx2 q2
set_option maxRecDepth 100000 in
theorem ct_RC_count {t : Int32} (hR : RepC g T h x S) (kx2 : (t.toInt < 0 ∨ 5 < t.toInt) → PX xIAE h)
    (k : ¬ (t.toInt < 0 ∨ 5 < t.toInt) → PR (some (.int (coF S t))) h) : Ct g y_RC_count w_RC_count 6 1 6 [.ref x, .int t] h PR PX := by
  obtain ⟨gu, lp, lm, lr, ld, ly, le, LP, LM, LR, LD, LY, LE, ⟨hx, hxT⟩, ⟨hgu, hguT⟩, l1, l2, l3, l4, l5, l6, r1, r2, b1, b2, b3, b4, b5, b6⟩ := hR
  obtain ⟨vs, hvs⟩ := l4.obj
  obtain ⟨vs2, hvs2⟩ := l2.obj
  refine Ct_intro (cc := c_RC_count) (nL := 2) (ret := (some FieldType.int)) (ls := [some (.ref x), some (.int t)]) (by decide) (Nat.le_of_ble_eq_true rfl) rfl rfl ?_
  intro p e R s m args below meth c C ht hname
  refine z_iload_n C d_RC_count_0 rfl rfl ?_
  rcases zsw6 t with q | q | q | q | q | q | q | q
  · subst q
    refine z_tableIn 40 C d_RC_count_1 (by decide) (by decide) rfl (by decide) ?_
    refine z_aload_n C d_RC_count_40 rfl rfl ?_
    refine z_get (ci := 7) (T := T_RC) (N := 8) C d_RC_count_41 7 i_RC rfl (by decide) k_67 (fun _ q => q) (by first | assumption | exact zu_s) (by rfl) ?_
    refine z_iret C d_RC_count_44 ?_
    exact k (by decide)
  · subst q
    refine z_tableIn 45 C d_RC_count_1 (by decide) (by decide) rfl (by decide) ?_
    refine z_aload_n C d_RC_count_45 rfl rfl ?_
    refine z_callV (n := 0) (As := []) (rest := []) (r1 := 4) (mc1 := 0) (ms1 := 0) (ci := 7) (T0 := T_RC) C d_RC_count_46 k_736 k_733 k_735 ks_23 k_1 (by decide +kernel) rfl rfl (by first | assumption | exact zu_s) (by decide) (by decide) (Nat.le_of_ble_eq_true rfl) (by first | decide | omega) (by first | decide | omega) rfl ?_
    refine ct_RC_personsInside hx l1 ?_
    dsimp only [zps]
    refine z_iret C d_RC_count_49 ?_
    exact k (by decide)
  · subst q
    refine z_tableIn 50 C d_RC_count_1 (by decide) (by decide) rfl (by decide) ?_
    refine z_aload_n C d_RC_count_50 rfl rfl ?_
    refine z_callV (n := 0) (As := []) (rest := []) (r1 := 4) (mc1 := 0) (ms1 := 0) (ci := 7) (T0 := T_RC) C d_RC_count_51 k_740 k_737 k_739 ks_24 k_1 (by decide +kernel) rfl rfl (by first | assumption | exact zu_s) (by decide) (by decide) (Nat.le_of_ble_eq_true rfl) (by first | decide | omega) (by first | decide | omega) rfl ?_
    refine ct_RC_rollsOn hx l3 ?_
    dsimp only [zps]
    refine z_iret C d_RC_count_54 ?_
    exact k (by decide)
  · subst q
    refine z_tableIn 55 C d_RC_count_1 (by decide) (by decide) rfl (by decide) ?_
    refine z_aload_n C d_RC_count_55 rfl rfl ?_
    refine z_callV (n := 0) (As := []) (rest := []) (r1 := 4) (mc1 := 0) (ms1 := 0) (ci := 7) (T0 := T_RC) C d_RC_count_56 k_387 k_384 k_386 ks_7 k_1 (by decide +kernel) rfl rfl (by first | assumption | exact zu_s) (by decide) (by decide) (Nat.le_of_ble_eq_true rfl) (by first | decide | omega) (by first | decide | omega) rfl ?_
    refine ct_RC_openMaydays hx l5 ?_
    dsimp only [zps]
    refine z_iret C d_RC_count_59 ?_
    exact k (by decide)
  · subst q
    refine z_tableIn 60 C d_RC_count_1 (by decide) (by decide) rfl (by decide) ?_
    refine z_aload_n C d_RC_count_60 rfl rfl ?_
    refine z_get (ci := 7) (T := T_RC) (N := 8) C d_RC_count_61 4 i_RC rfl (by decide) k_64 (fun _ q => q) (by first | assumption | exact zu_s) (by rfl) ?_
    refine z_callV (n := 0) (As := []) (rest := []) (r1 := 1) (mc1 := 0) (ms1 := 0) (ci := 0) (T0 := T_AL) C d_RC_count_64 k_96 k_93 k_94 k_95 k_4 (by decide +kernel) rfl rfl (by first | assumption | exact zu_s) (by decide) (by decide) (Nat.le_of_ble_eq_true rfl) (by first | decide | omega) (by first | decide | omega) rfl ?_
    refine cl_size l4 ?_
    dsimp only [zps]
    rw [List.length_map]
    refine z_iret C d_RC_count_67 ?_
    exact k (by decide)
  · subst q
    refine z_tableIn 68 C d_RC_count_1 (by decide) (by decide) rfl (by decide) ?_
    refine z_aload_n C d_RC_count_68 rfl rfl ?_
    refine z_get (ci := 7) (T := T_RC) (N := 8) C d_RC_count_69 2 i_RC rfl (by decide) k_62 (fun _ q => q) (by first | assumption | exact zu_s) (by rfl) ?_
    refine z_callV (n := 0) (As := []) (rest := []) (r1 := 1) (mc1 := 0) (ms1 := 0) (ci := 0) (T0 := T_AL) C d_RC_count_72 k_96 k_93 k_94 k_95 k_4 (by decide +kernel) rfl rfl (by first | assumption | exact zu_s) (by decide) (by decide) (Nat.le_of_ble_eq_true rfl) (by first | decide | omega) (by first | decide | omega) rfl ?_
    refine cl_size l2 ?_
    dsimp only [zps]
    rw [List.length_map]
    refine z_iret C d_RC_count_75 ?_
    exact k (by decide)
  · subst q
    refine z_tableOut 76 C d_RC_count_1 (by first | assumption | decide) (by decide) ?_
    refine z_throwS (text := "no such what") (cls := "java/lang/IllegalArgumentException") C ht d_RC_count_76 d_RC_count_79 d_RC_count_80 d_RC_count_82 d_RC_count_85 (by decide +kernel) k_258 k_15 (by decide +kernel) (tho_IAE C) thg_IAE (by decide) (Nat.le_of_ble_eq_true rfl) (by first | decide | omega) (by first | decide | omega) ?_
    exact kx2 (by decide)
  · have q2 : t.toInt < 0 ∨ 5 < t.toInt := by omega
    refine z_tableOut 76 C d_RC_count_1 (by first | assumption | decide) (by decide) ?_
    refine z_throwS (text := "no such what") (cls := "java/lang/IllegalArgumentException") C ht d_RC_count_76 d_RC_count_79 d_RC_count_80 d_RC_count_82 d_RC_count_85 (by decide +kernel) k_258 k_15 (by decide +kernel) (tho_IAE C) thg_IAE (by decide) (Nat.le_of_ble_eq_true rfl) (by first | decide | omega) (by first | decide | omega) ?_
    exact kx2 q2
end RS
