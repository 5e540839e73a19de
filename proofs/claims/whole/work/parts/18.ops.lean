/-! public methods: leave, guests, was, seen, twice, maydayAt, count, late -/
section RQ
variable {g : zG} {T : Tg} {h : Hp} {PR : Option Value → Hp → Prop} {PX : String → Hp → Prop} {x : Nat} {S : CS}
set_option maxRecDepth 100000 in
theorem ct_RC_leave {a : Int32} (hR : RepC g T h x S) (kx1 : a < 0 ∨ nI S.ps.length ≤ a → PX xIAE h) (kx2 : ∀ i e, a = nI i → S.ps[i]? = some e → e.1 = -1 → PX xISE h) (kx3 : ∀ i e, a = nI i → S.ps[i]? = some e → ¬ e.1 = -1 → 300 ≤ S.mv.length → PX xUOE h)
    (k : ∀ i e, a = nI i → S.ps[i]? = some e → ¬ e.1 = -1 → S.mv.length < 300 → ∀ (h1 : Hp) (T1 : Tg), RepC g T1 h1 x (S.1, S.2.1, S.2.2.1.set i (-1, nI S.ro.length, e.2.2), S.2.2.2.1 ++ [(a, -1, S.1)], S.2.2.2.2) → Ext T h T1 h1 → PR none h1) : Ct g y_RC_leave w_RC_leave 9 5 500 [.ref x, .int a] h PR PX := by
  obtain ⟨gu, lp, lm, lr, ld, ly, le, LP, LM, LR, LD, LY, LE, ⟨hx, hxT⟩, ⟨hgu, hguT⟩, l1, l2, l3, l4, l5, l6, r1, r2, b1, b2, b3, b4, b5, b6⟩ := hR
  refine Ct_intro (cc := c_RC_leave) (nL := 3) (ret := none) (ls := [some (.ref x), some (.int a), none]) (by decide) (Nat.le_of_ble_eq_true rfl) rfl rfl ?_
  intro p e R s m args below meth c C ht hname
  refine z_aload_n C d_RC_leave_0 rfl rfl ?_
  refine z_iload_n C d_RC_leave_1 rfl rfl ?_
  refine z_callV (n := 1) (As := [.int a]) (rest := []) (r1 := 6) (mc1 := 1) (ms1 := 6) (ci := 7) (T0 := T_RC) C d_RC_leave_2 k_257 k_254 k_256 ks_4 k_1 (by decide +kernel) rfl rfl (by first | assumption | exact zu_s) (by decide) (by decide) (Nat.le_of_ble_eq_true rfl) (by first | decide | omega) (by first | decide | omega) rfl ?_
  refine ct_RC_knownPerson hx l1 (fun z => zx_out C ht (kx1 z)) (fun i y e1 hi he hy hye hyT => ?_)
  dsimp only [zps]
  refine z_astore_n C d_RC_leave_5 rfl (by decide) rfl ?_
  dsimp only [List.set]
  refine z_aload_n C d_RC_leave_6 rfl rfl ?_
  refine z_get (ci := 1) (T := T_PE) (N := 3) C d_RC_leave_7 0 i_PE rfl (by decide) k_173 (fun _ q => q) hye (by rfl) ?_
  refine z_iconst (v := (-1)) C d_RC_leave_10 (by decide) ?_
  refine z_icmp_ne 24 C d_RC_leave_11 (by decide) (fun c11 => ?_) (fun c11 => ?_)
  · refine z_aload_n C d_RC_leave_24 rfl rfl ?_
    refine z_iload_n C d_RC_leave_25 rfl rfl ?_
    refine z_iconst (v := (-1)) C d_RC_leave_26 (by decide) ?_
    refine z_callV (n := 2) (As := [.int a, .int (-1)]) (rest := []) (r1 := 8) (mc1 := 2) (ms1 := 453) (ci := 7) (T0 := T_RC) C d_RC_leave_27 k_311 k_308 k_310 ks_5 k_1 (by decide +kernel) rfl rfl (by first | assumption | exact zu_s) (by decide) (by decide) (Nat.le_of_ble_eq_true rfl) (by first | decide | omega) (by first | decide | omega) rfl ?_
    refine ct_RC_addMove hx l2 (fun z => zx_out C ht (kx3 i e1 hi he c11 z)) (fun hl h1 T1 y2 c1 c2 c3 c4 => ?_)
    dsimp only [zps]
    have hyn := zne hye
    have ey : h1 y = some (peE e1) := by rw [c3 y hyn (tk hyT (by decide))]; exact hye
    have l1' : zLS g T1 h1 1 lp LP (S.ps.map peE) := l1.keep c2 (fun q hq e => c3 q hq (by rw [e]; decide))
    have eyT : T1 y = (1, 2 + i) := by rw [c2 y hyn]; exact hyT
    refine z_aload_n C d_RC_leave_30 rfl rfl ?_
    refine z_iconst (v := (-1)) C d_RC_leave_31 (by decide) ?_
    refine z_put (ci := 1) (T := T_PE) (N := 3) (ty := .int) C d_RC_leave_32 0 ty_PE t_PE n_PE i_PE rfl (by decide) k_173 (fun _ q => q) rfl (by decide +kernel) (by rfl) (by rfl) ey (by exact Nat.le_of_ble_eq_true rfl) ?_
    dsimp only [List.set]
    have hT : ∀ q, h q ≠ none → T1 q = T q := c2
    have kp0 : ∀ (v : va_E) (kd : Nat), kd ≠ 1 → kd ≠ 2 → ∀ q, h q ≠ none → (T q).1 = kd → zu h1 y v q = h q := fun v kd h8 h9 q hq e => by rw [zu_n (fun z => h8 (by rw [← e, z, hyT])), c3 q hq (by rw [e]; exact h9)]
    have ex1 : zu h1 y (peC (-1) e1.2.1 e1.2.2) x = some (rcC gu lp lm lr ld ly le S.sec) := by rw [kp0 _ 10 (by decide) (by decide) x (zne hx) (by rw [hxT])]; exact hx
    have l3' : zLS g T1 (zu h1 y (peC (-1) e1.2.1 e1.2.2)) 3 lr LR (S.ro.map roE) := l3.keep hT (kp0 _ 3 (by decide) (by decide))
    obtain ⟨vs, hvs⟩ := l3'.obj
    refine z_aload_n C d_RC_leave_35 rfl rfl ?_
    refine z_aload_n C d_RC_leave_36 rfl rfl ?_
    refine z_get (ci := 7) (T := T_RC) (N := 8) C d_RC_leave_37 3 i_RC rfl (by decide) k_63 (fun _ q => q) ex1 (by rfl) ?_
    refine z_callV (n := 0) (As := []) (rest := [.ref y]) (r1 := 1) (mc1 := 0) (ms1 := 0) (ci := 0) (T0 := T_AL) C d_RC_leave_40 k_96 k_93 k_94 k_95 k_4 (by decide +kernel) rfl rfl (by first | assumption | exact zu_s) (by decide) (by decide) (Nat.le_of_ble_eq_true rfl) (by first | decide | omega) (by first | decide | omega) rfl ?_
    refine cl_size l3' ?_
    dsimp only [zps]
    rw [List.length_map]
    refine z_put (ci := 1) (T := T_PE) (N := 3) (ty := .int) C d_RC_leave_43 1 ty_PE t_PE n_PE i_PE rfl (by decide) k_175 (fun _ q => q) rfl (by decide +kernel) (by rfl) (by rfl) zu_s (by exact Nat.le_of_ble_eq_true rfl) ?_
    dsimp only [List.set]
    refine z_vret C d_RC_leave_46 ?_
    rw [zu_zu]
    have l1'' := l1'.set (e := peE (-1, nI S.ro.length, e1.2.2)) hy
    rw [← List.map_set] at l1''
    have kp := kp0 (peE (-1, nI S.ro.length, e1.2.2))
    have l2' : zLS g T1 (zu h1 y (peE (-1, nI S.ro.length, e1.2.2))) 2 lm (LM ++ [y2]) ((S.mv ++ [(a, -1, S.1)]).map mvE) := c1.put (tk eyT (by decide))
    refine k i e1 hi he c11 hl _ T1 ⟨gu, lp, lm, lr, ld, ly, le, LP, _, LR, LD, LY, LE, ⟨by rw [kp 10 (by decide) (by decide) x (zne hx) (by rw [hxT])]; exact hx, by rw [hT x (zne hx)]; exact hxT⟩, ⟨by rw [kp 10 (by decide) (by decide) gu (zne hgu) (by rw [hguT])]; exact hgu, by rw [hT gu (zne hgu)]; exact hguT⟩, l1'', l2', l3.keep hT (kp 3 (by decide) (by decide)), l4.keep hT (kp 4 (by decide) (by decide)), l5.keep hT (kp 5 (by decide) (by decide)), l6.keep hT (kp 6 (by decide) (by decide)), r1.keep hT (kp 7 (by decide) (by decide)), r2.keep hT (kp 8 (by decide) (by decide)) (kp 9 (by decide) (by decide)), zlen2 b1, zlen1 hl, b3, b4, b5, b6⟩ ⟨hT, fun q hq h0 => kp 0 (by decide) (by decide) q hq h0, fun q hq => ?_⟩
    by_cases hqy : q = y
    · rw [hqy, zu_s]; exact zsm
    · rw [zu_n hqy]; exact c4 q hq
  · refine z_throwS (text := "the person is outside") (cls := "java/lang/IllegalStateException") C ht d_RC_leave_14 d_RC_leave_17 d_RC_leave_18 d_RC_leave_20 d_RC_leave_23 (by decide +kernel) k_292 k_18 (by decide +kernel) (tho_ISE C) thg_ISE (by decide) (Nat.le_of_ble_eq_true rfl) (by first | decide | omega) (by first | decide | omega) ?_
    exact kx2 i e1 hi he c11
set_option maxRecDepth 100000 in
theorem ct_RC_guests {a b : Int32} (hR : RepC g T h x S) (kx1 : a < 0 ∨ 10 ≤ a → PX xIAE h) (kx2 : ¬ a < 0 → a < 10 → (b < 0 ∨ 999 < b) → PX xIOB h)
    (k : ¬ a < 0 → a < 10 → ¬ b < 0 → b ≤ 999 → ∀ (h1 : Hp), RepC g T h1 x (S.1, upd S.2.1 a.toNatClampNeg b, S.2.2) → Ext T h T h1 → PR none h1) : Ct g y_RC_guests w_RC_guests 7 2 12 [.ref x, .int a, .int b] h PR PX := by
  obtain ⟨gu, lp, lm, lr, ld, ly, le, LP, LM, LR, LD, LY, LE, ⟨hx, hxT⟩, ⟨hgu, hguT⟩, l1, l2, l3, l4, l5, l6, r1, r2, b1, b2, b3, b4, b5, b6⟩ := hR
  refine Ct_intro (cc := c_RC_guests) (nL := 3) (ret := none) (ls := [some (.ref x), some (.int a), some (.int b)]) (by decide) (Nat.le_of_ble_eq_true rfl) rfl rfl ?_
  intro p e R s m args below meth c C ht hname
  refine z_iload_n C d_RC_guests_0 rfl rfl ?_
  refine z_callS (n := 1) (As := [.int a]) (rest := []) (r1 := 6) (mc1 := 1) (ms1 := 6) C d_RC_guests_1 k_290 k_288 k_289 k_1 (by decide +kernel) rfl (by decide) (by decide) (Nat.le_of_ble_eq_true rfl) (by first | decide | omega) (by first | decide | omega) rfl ?_
  refine ct_RC_checkSector (fun z => zx_out C ht (kx1 z)) (fun ha0 ha1 => ?_)
  dsimp only [zps]
  have hin : vp_in a 10 := by
    obtain ⟨j, hj, rfl, -⟩ := pk_mu (L := 10) ha0 (Int32.not_le.mpr ha1) (by decide)
    exact vp_in_nI hj (by decide)
  refine z_iload_n C d_RC_guests_4 rfl rfl ?_
  refine z_if_lt 15 C d_RC_guests_5 (by decide) (fun c5 => ?_) (fun c5 => ?_)
  · refine z_throwS (text := "guests are 0 to 999") (cls := "java/lang/IndexOutOfBoundsException") C ht d_RC_guests_15 d_RC_guests_18 d_RC_guests_19 d_RC_guests_21 d_RC_guests_24 (by decide +kernel) k_348 k_20 (by decide +kernel) (tho_IOB C) thg_IOB (by decide) (Nat.le_of_ble_eq_true rfl) (by first | decide | omega) (by first | decide | omega) ?_
    exact kx2 ha0 ha1 (Or.inl c5)
  · refine z_iload_n C d_RC_guests_8 rfl rfl ?_
    refine z_sipush (v := 999) C d_RC_guests_9 (by decide) ?_
    refine z_icmp_le 25 C d_RC_guests_12 (by decide) (fun c12 => ?_) (fun c12 => ?_)
    · refine z_aload_n C d_RC_guests_25 rfl rfl ?_
      refine z_get (ci := 7) (T := T_RC) (N := 8) C d_RC_guests_26 0 i_RC rfl (by decide) k_60 (fun _ q => q) hx (by rfl) ?_
      refine z_iload_n C d_RC_guests_29 rfl rfl ?_
      refine z_iload_n C d_RC_guests_30 rfl rfl ?_
      refine z_iast C d_RC_guests_31 hgu hin ?_
      refine z_vret C d_RC_guests_32 ?_
      have kp : ∀ (kd : Nat), kd ≠ 10 → ∀ q, h q ≠ none → (T q).1 = kd → zu h gu (ia g 10 (upd S.gf a.toNatClampNeg b)) q = h q := fun kd h8 q hq e => zu_n (fun z => h8 (by rw [← e, z, hguT]))
      have hT : ∀ q, h q ≠ none → T q = T q := fun _ _ => rfl
      have nxg : x ≠ gu := by rintro rfl; rw [hxT] at hguT; exact absurd (congrArg Prod.snd hguT) (by decide)
      refine k ha0 ha1 c5 c12 _ ⟨gu, lp, lm, lr, ld, ly, le, LP, LM, LR, LD, LY, LE, ⟨by rw [zu_n nxg]; exact hx, hxT⟩, ⟨zu_s, hguT⟩, l1.keep hT (kp 1 (by decide)), l2.keep hT (kp 2 (by decide)), l3.keep hT (kp 3 (by decide)), l4.keep hT (kp 4 (by decide)), l5.keep hT (kp 5 (by decide)), l6.keep hT (kp 6 (by decide)), r1.keep hT (kp 7 (by decide)), r2.keep hT (kp 8 (by decide)) (kp 9 (by decide)), b1, b2, b3, b4, b5, b6⟩ (Ext.put (tk hguT (by decide)))
    · refine z_throwS (text := "guests are 0 to 999") (cls := "java/lang/IndexOutOfBoundsException") C ht d_RC_guests_15 d_RC_guests_18 d_RC_guests_19 d_RC_guests_21 d_RC_guests_24 (by decide +kernel) k_348 k_20 (by decide +kernel) (tho_IOB C) thg_IOB (by decide) (Nat.le_of_ble_eq_true rfl) (by first | decide | omega) (by first | decide | omega) ?_
      exact kx2 ha0 ha1 (Or.inr (Int32.not_le.mp c12))
/-- where a person was: the last of the moves that is the person's and not after t -/
def wasF (a t : Int32) : List MvT → Int32
  | [] => -1
  | e :: l => if e.1 = a ∧ e.2.2 ≤ t then e.2.1 else wasF a t l
set_option maxRecDepth 100000 in
theorem ct_RC_was {a t : Int32} (hR : RepC g T h x S) (kx1 : a < 0 ∨ nI S.ps.length ≤ a → PX xIAE h) (kx2 : ∀ i e, a = nI i → S.ps[i]? = some e → (t < 0 ∨ S.1 < t) → PX xIOB h)
    (k : ∀ i e, a = nI i → S.ps[i]? = some e → ¬ t < 0 → t ≤ S.1 → PR (some (.int (wasF a t S.mv.reverse))) h) : Ct g y_RC_was w_RC_was 7 2 12 [.ref x, .int a, .int t] h PR PX := by
  obtain ⟨gu, lp, lm, lr, ld, ly, le, LP, LM, LR, LD, LY, LE, ⟨hx, hxT⟩, ⟨hgu, hguT⟩, l1, l2, l3, l4, l5, l6, r1, r2, b1, b2, b3, b4, b5, b6⟩ := hR
  obtain ⟨vs, hvs⟩ := l2.obj
  refine Ct_intro (cc := c_RC_was) (nL := 5) (ret := (some FieldType.int)) (ls := [some (.ref x), some (.int a), some (.int t), none, none]) (by decide) (Nat.le_of_ble_eq_true rfl) rfl rfl ?_
  intro p e R s m args below meth c C ht hname
  have loop : ∀ (j : Nat) (z4 : Option Value), j ≤ S.mv.length → PR (some (.int (wasF a t (S.mv.take j).reverse))) h → Z g 5 2 12 p e R s m args below meth c (vx_MQ below (zQ g PR) (zX g PX) args s 2 12 (zA g)) 0 0 38 [some (.ref x), some (.int a), some (.int t), some (.int (nI j - 1)), z4] [] h := by
    intro j
    induction j with
    | zero =>
      intro z4 hj hp
      refine z_iload_n C d_RC_was_38 rfl rfl ?_
      refine z_if_lt 85 C d_RC_was_39 (by decide) (fun c39 => ?_) (fun c39 => ?_)
      · refine z_iconst (v := (-1)) C d_RC_was_85 (by decide) ?_
        refine z_iret C d_RC_was_86 ?_
        exact hp
      · exact absurd (by decide) c39
    | succ j ih =>
      intro z4 hj hp
      rw [nI_pred]
      obtain ⟨e0, he⟩ : ∃ e0, S.mv[j]? = some e0 := ⟨_, List.getElem?_eq_getElem (by omega)⟩
      have e8 : (S.mv.take (j + 1)).reverse = e0 :: (S.mv.take j).reverse := by
        rw [List.take_add_one, he]
        simp
      rw [e8, wasF] at hp
      obtain ⟨y, hy, hye, hyT⟩ := l2.atm he
      refine z_iload_n C d_RC_was_38 rfl rfl ?_
      refine z_if_lt 85 C d_RC_was_39 (by decide) (fun c39 => ?_) (fun c39 => ?_)
      · exact absurd c39 (nI_pos (by omega))
      · refine z_aload_n C d_RC_was_42 rfl rfl ?_
        refine z_get (ci := 7) (T := T_RC) (N := 8) C d_RC_was_43 2 i_RC rfl (by decide) k_62 (fun _ q => q) (by first | assumption | exact zu_s) (by rfl) ?_
        refine z_iload_n C d_RC_was_46 rfl rfl ?_
        refine z_callV (n := 1) (As := [.int (nI j)]) (rest := []) (r1 := 3) (mc1 := 0) (ms1 := 0) (ci := 0) (T0 := T_AL) C d_RC_was_47 k_277 k_274 k_275 k_276 k_4 (by decide +kernel) rfl rfl (by first | assumption | exact zu_s) (by decide) (by decide) (Nat.le_of_ble_eq_true rfl) (by first | decide | omega) (by first | decide | omega) rfl ?_
        refine cl_get l2 hy ?_
        dsimp only [zps]
        refine z_cast (ci := 2) C d_RC_was_50 rfl k_313 hye ?_
        refine z_astore C d_RC_was_53 (by decide) rfl ?_
        dsimp only [List.set]
        refine z_aload C d_RC_was_55 rfl ?_
        refine z_get (ci := 2) (T := T_MO) (N := 3) C d_RC_was_57 0 i_MO rfl (by decide) k_320 (fun _ q => q) hye (by rfl) ?_
        refine z_iload_n C d_RC_was_60 rfl rfl ?_
        have next : Z g 5 2 12 p e R s m args below meth c (vx_MQ below (zQ g PR) (zX g PX) args s 2 12 (zA g)) 0 0 79 [some (.ref x), some (.int a), some (.int t), some (.int (nI j)), some (.ref y)] [] h ∨ (e0.1 = a ∧ e0.2.2 ≤ t) := by
          by_cases hc : e0.1 = a ∧ e0.2.2 ≤ t
          · exact Or.inr hc
          · left
            rw [if_neg hc] at hp
            refine z_iinc C d_RC_was_79 rfl (by decide) rfl ?_
            simp only [List.set, zi1, zim1]
            refine z_goto 38 C d_RC_was_82 (by decide) ?_
            rw [← Int32.sub_eq_add_neg]
            exact ih _ (by omega) hp
        refine z_icmp_ne 79 C d_RC_was_61 (by decide) (fun c61 => ?_) (fun c61 => ?_)
        · rcases next with n0 | n0
          · exact n0
          · exact absurd n0.1 c61
        · refine z_aload C d_RC_was_64 rfl ?_
          refine z_get (ci := 2) (T := T_MO) (N := 3) C d_RC_was_66 2 i_MO rfl (by decide) k_324 (fun _ q => q) hye (by rfl) ?_
          refine z_iload_n C d_RC_was_69 rfl rfl ?_
          refine z_icmp_gt 79 C d_RC_was_70 (by decide) (fun c70 => ?_) (fun c70 => ?_)
          · rcases next with n0 | n0
            · exact n0
            · exact absurd n0.2 (Int32.not_le.mpr c70)
          · refine z_aload C d_RC_was_73 rfl ?_
            refine z_get (ci := 2) (T := T_MO) (N := 3) C d_RC_was_75 1 i_MO rfl (by decide) k_322 (fun _ q => q) hye (by rfl) ?_
            refine z_iret C d_RC_was_78 ?_
            rw [if_pos ⟨c61, Int32.not_lt.mp c70⟩] at hp
            exact hp
  refine z_aload_n C d_RC_was_0 rfl rfl ?_
  refine z_iload_n C d_RC_was_1 rfl rfl ?_
  refine z_callV (n := 1) (As := [.int a]) (rest := []) (r1 := 6) (mc1 := 1) (ms1 := 6) (ci := 7) (T0 := T_RC) C d_RC_was_2 k_257 k_254 k_256 ks_4 k_1 (by decide +kernel) rfl rfl (by first | assumption | exact zu_s) (by decide) (by decide) (Nat.le_of_ble_eq_true rfl) (by first | decide | omega) (by first | decide | omega) rfl ?_
  refine ct_RC_knownPerson hx l1 (fun z => zx_out C ht (kx1 z)) (fun i y e1 hi he hy hye hyT => ?_)
  dsimp only [zps]
  refine z_pop C d_RC_was_5 rfl ?_
  refine z_iload_n C d_RC_was_6 rfl rfl ?_
  refine z_if_lt 18 C d_RC_was_7 (by decide) (fun c7 => ?_) (fun c7 => ?_)
  · refine z_throwS (text := "a second to come, or below 0") (cls := "java/lang/IndexOutOfBoundsException") C ht d_RC_was_18 d_RC_was_21 d_RC_was_22 d_RC_was_24 d_RC_was_27 (by decide +kernel) k_348 k_20 (by decide +kernel) (tho_IOB C) thg_IOB (by decide) (Nat.le_of_ble_eq_true rfl) (by first | decide | omega) (by first | decide | omega) ?_
    exact kx2 i e1 hi he (Or.inl c7)
  · refine z_iload_n C d_RC_was_10 rfl rfl ?_
    refine z_aload_n C d_RC_was_11 rfl rfl ?_
    refine z_get (ci := 7) (T := T_RC) (N := 8) C d_RC_was_12 7 i_RC rfl (by decide) k_67 (fun _ q => q) hx (by rfl) ?_
    refine z_icmp_le 28 C d_RC_was_15 (by decide) (fun c15 => ?_) (fun c15 => ?_)
    · refine z_aload_n C d_RC_was_28 rfl rfl ?_
      refine z_get (ci := 7) (T := T_RC) (N := 8) C d_RC_was_29 2 i_RC rfl (by decide) k_62 (fun _ q => q) (by first | assumption | exact zu_s) (by rfl) ?_
      refine z_callV (n := 0) (As := []) (rest := []) (r1 := 1) (mc1 := 0) (ms1 := 0) (ci := 0) (T0 := T_AL) C d_RC_was_32 k_96 k_93 k_94 k_95 k_4 (by decide +kernel) rfl rfl (by first | assumption | exact zu_s) (by decide) (by decide) (Nat.le_of_ble_eq_true rfl) (by first | decide | omega) (by first | decide | omega) rfl ?_
      refine cl_size l2 ?_
      dsimp only [zps]
      rw [List.length_map]
      refine z_iconst (v := 1) C d_RC_was_35 (by decide) ?_
      refine z_isub C d_RC_was_36 ?_
      refine z_istore_n C d_RC_was_37 rfl (by decide) rfl ?_
      dsimp only [List.set]
      refine z_less (rc1 := 0) (rs1 := 0) (by decide) (by decide) ?_
      exact loop S.mv.length none (Nat.le_refl _) (by rw [List.take_length]; exact k i e1 hi he c7 c15)
    · refine z_throwS (text := "a second to come, or below 0") (cls := "java/lang/IndexOutOfBoundsException") C ht d_RC_was_18 d_RC_was_21 d_RC_was_22 d_RC_was_24 d_RC_was_27 (by decide +kernel) k_348 k_20 (by decide +kernel) (tho_IOB C) thg_IOB (by decide) (Nat.le_of_ble_eq_true rfl) (by first | decide | omega) (by first | decide | omega) ?_
      exact kx2 i e1 hi he (Or.inr (Int32.not_le.mp c15))
end RQ
