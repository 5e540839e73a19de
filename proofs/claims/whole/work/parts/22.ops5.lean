/-! public methods: roll, evacuate, confirm, tick -/
abbrev roN (S : CS) (s : Int32) (ct : Nat) : RoT := ((nI S.ro.length, s), (ct, S.ps.length, asF s (fun i => if i < S.ps.length then -2 else 0) 0 S.ps), ((if asN s 0 S.ps = 0 ∧ gaS s S.gf 0 10 0 = 0 then 3 else 1), asN s 0 S.ps, 0, gaS s S.gf 0 10 0, 0, 0, 0))
abbrev evN (S : CS) (t : Int32) (mu lt : Nat) : EvT := (S.sec + t, (mu, lt, dmF S.gf S.ps 0 10 (fun _ => 0), (fun _ => 0)), (dmN S.gf S.ps 0 10 0, 0))
theorem dmF_nar (gf : Nat → Int32) (ps : List PeT) : ∀ (j i : Nat) (f : Nat → Int32), (∀ q, vp_nar .boolean (f q) = f q) → ∀ q, vp_nar .boolean (dmF gf ps i j f q) = dmF gf ps i j f q
  | 0, _, f, hf, q => hf q
  | j + 1, i, f, hf, q => by
    rw [dmF]
    refine dmF_nar gf ps j (i + 1) _ (fun z => ?_) q
    split
    · unfold upd
      split
      · rfl
      · exact hf z
    · exact hf z
section RV
variable {g : zG} {T : Tg} {h : Hp} {PR : Option Value → Hp → Prop} {PX : String → Hp → Prop} {x : Nat} {S : CS}
set_option maxRecDepth 100000 in
theorem ct_RC_roll {a : Int32} (hR : RepC g T h x S) (kx1 : ¬ a = -1 → (a < 0 ∨ 10 ≤ a) → PX xIAE h)
    (kx2 : (a = -1 ∨ (¬ a < 0 ∧ a < 10)) → (S.ro.any (fun e => decide (e.rd < 3) && (a == -1 || decide (e.1.2 = -1 ∨ e.1.2 = a))) = true ∨ S.md.countP (fun e => e.op ≠ 0) ≠ 0) → PX xISE h)
    (kx3 : (a = -1 ∨ (¬ a < 0 ∧ a < 10)) → S.ro.any (fun e => decide (e.rd < 3) && (a == -1 || decide (e.1.2 = -1 ∨ e.1.2 = a))) = false → S.md.countP (fun e => e.op ≠ 0) = 0 → 40 ≤ S.ro.length → PX xUOE h)
    (k : (a = -1 ∨ (¬ a < 0 ∧ a < 10)) → S.ro.any (fun e => decide (e.rd < 3) && (a == -1 || decide (e.1.2 = -1 ∨ e.1.2 = a))) = false → S.md.countP (fun e => e.op ≠ 0) = 0 → S.ro.length < 40 → ∀ (h1 : Hp) (T1 : Tg) (ct : Nat), RepC g T1 h1 x (S.1, S.2.1, S.2.2.1, S.2.2.2.1, S.2.2.2.2.1 ++ [roN S a ct], S.2.2.2.2.2) → Ext T h T1 h1 → PR (some (.int (nI S.ro.length))) h1) : Ct g y_RC_roll w_RC_roll 8 5 540 [.ref x, .int a] h PR PX := by
  obtain ⟨gu, lp, lm, lr, ld, ly, le, LP, LM, LR, LD, LY, LE, ⟨hx, hxT⟩, ⟨hgu, hguT⟩, l1, l2, l3, l4, l5, l6, r1, r2, b1, b2, b3, b4, b5, b6⟩ := hR
  obtain ⟨vs, hvs⟩ := l3.obj
  obtain ⟨vs1, hvs1⟩ := l1.obj
  refine Ct_intro (cc := c_RC_roll) (nL := 3) (ret := (some FieldType.int)) (ls := [some (.ref x), some (.int a), none]) (by decide) (Nat.le_of_ble_eq_true rfl) rfl rfl ?_
  intro p e R s m args below meth c C ht hname
  have rest : (a = -1 ∨ (¬ a < 0 ∧ a < 10)) → Z g 3 5 540 p e R s m args below meth c (vx_MQ below (zQ g PR) (zX g PX) args s 5 540 (zA g)) 4 534 9 [some (.ref x), some (.int a), none] [] h := by
    intro hs
    have kx2' := kx2 hs
    have kx3' := kx3 hs
    have k' := k hs
    clear kx1 kx2 kx3 k
    have hcl := List.countP_le_length (l := S.md) (p := fun e => decide (e.op ≠ 0))
    refine z_aload_n C d_RC_roll_9 rfl rfl ?_
    refine z_iload_n C d_RC_roll_10 rfl rfl ?_
    refine z_callV (n := 1) (As := [.int a]) (rest := []) (r1 := 4) (mc1 := 0) (ms1 := 0) (ci := 7) (T0 := T_RC) C d_RC_roll_11 k_374 k_371 k_373 ks_6 k_1 (by decide +kernel) rfl rfl (by first | assumption | exact zu_s) (by decide) (by decide) (Nat.le_of_ble_eq_true rfl) (by first | decide | omega) (by first | decide | omega) rfl ?_
    refine ct_RC_isAskedNow hx l3 ?_
    dsimp only [zps]
    cases ho : S.ro.any (fun e => decide (e.rd < 3) && (a == -1 || decide (e.1.2 = -1 ∨ e.1.2 = a))) with
    | true =>
      rw [if_pos rfl]
      refine z_if_ne 24 C d_RC_roll_14 (by decide) (fun c14 => ?_) (fun c14 => ?_)
      · refine z_throwS (text := "a roll is on there, or a mayday is open") (cls := "java/lang/IllegalStateException") C ht d_RC_roll_24 d_RC_roll_27 d_RC_roll_28 d_RC_roll_30 d_RC_roll_33 (by decide +kernel) k_292 k_18 (by decide +kernel) (tho_ISE C) thg_ISE (by decide) (Nat.le_of_ble_eq_true rfl) (by first | decide | omega) (by first | decide | omega) ?_
        exact kx2' (Or.inl ho)
      · exact absurd c14 (by decide)
    | false =>
      rw [if_neg (by decide)]
      refine z_if_ne 24 C d_RC_roll_14 (by decide) (fun c14 => ?_) (fun c14 => ?_)
      · exact absurd rfl c14
      · refine z_aload_n C d_RC_roll_17 rfl rfl ?_
        refine z_callV (n := 0) (As := []) (rest := []) (r1 := 4) (mc1 := 0) (ms1 := 0) (ci := 7) (T0 := T_RC) C d_RC_roll_18 k_387 k_384 k_386 ks_7 k_1 (by decide +kernel) rfl rfl (by first | assumption | exact zu_s) (by decide) (by decide) (Nat.le_of_ble_eq_true rfl) (by first | decide | omega) (by first | decide | omega) rfl ?_
        refine ct_RC_openMaydays hx l5 ?_
        dsimp only [zps]
        refine z_if_le 34 C d_RC_roll_21 (by decide) (fun c21 => ?_) (fun c21 => ?_)
        · have h0 : S.md.countP (fun e => decide (e.op ≠ 0)) = 0 := Classical.byContradiction fun q => absurd c21 (nI_nle (Nat.pos_of_ne_zero q) (by omega))
          have k2 := k' ho h0
          have kx := kx3' ho h0
          clear c21 h0 hcl k' kx2' kx3'
          refine z_aload_n C d_RC_roll_34 rfl rfl ?_
          refine z_get (ci := 7) (T := T_RC) (N := 8) C d_RC_roll_35 3 i_RC rfl (by decide) k_63 (fun _ q => q) hx (by rfl) ?_
          refine z_callV (n := 0) (As := []) (rest := []) (r1 := 1) (mc1 := 0) (ms1 := 0) (ci := 0) (T0 := T_AL) C d_RC_roll_38 k_96 k_93 k_94 k_95 k_4 (by decide +kernel) rfl rfl (by first | assumption | exact zu_s) (by decide) (by decide) (Nat.le_of_ble_eq_true rfl) (by first | decide | omega) (by first | decide | omega) rfl ?_
          refine cl_size l3 ?_
          dsimp only [zps]
          rw [List.length_map]
          refine z_bipush (v := 40) C d_RC_roll_41 (by decide) ?_
          refine z_icmp_lt 56 C d_RC_roll_43 (by decide) (fun c43 => ?_) (fun c43 => ?_)
          · have hl : S.ro.length < 40 := by
              rcases Nat.lt_or_ge S.ro.length 40 with q | q
              · exact q
              · exact absurd c43 (by rw [show (40 : Int32) = nI 40 from rfl]; exact nI_nlt q (by omega))
            have k3 := k2 hl
            clear k2 kx
            refine z_new (ci := 3) (fs := [.int 0, .int 0, .null, .int 0, .int 0, .int 0, .int 0, .int 0, .int 0, .int 0]) (T := T_RO) (N := 10) C d_RC_roll_56 ty_RO t_RO i_RO rfl k_375 k_391 k_21 (fun j hj => by rcases (show j = 0 ∨ j = 1 ∨ j = 2 ∨ j = 3 ∨ j = 4 ∨ j = 5 ∨ j = 6 ∨ j = 7 ∨ j = 8 ∨ j = 9 by omega) with rfl | rfl | rfl | rfl | rfl | rfl | rfl | rfl | rfl | rfl <;> rfl) (by first | decide | omega) (by first | decide | omega) (fun q56 hq56 => ?_)
            have key : ∀ q, h q ≠ none → q ≠ q56 := fun q hq z => hq (z ▸ hq56)
            have hh0 : ∀ (v : va_E) q, h q ≠ none → zu h q56 v q = h q := fun v q hq => zu_n (key q hq)
            have hx0 := (hh0 (.inr (3, [.int 0, .int 0, .null, .int 0, .int 0, .int 0, .int 0, .int 0, .int 0, .int 0])) x (zne hx)).trans hx
            have l30 : zLS g (tg T q56 (3, 2 + S.ro.length)) (zu h q56 (.inr (3, [.int 0, .int 0, .null, .int 0, .int 0, .int 0, .int 0, .int 0, .int 0, .int 0]))) 3 lr LR (S.ro.map roE) := l3.new hq56
            have l10 : zLS g (tg T q56 (3, 2 + S.ro.length)) (zu h q56 (.inr (3, [.int 0, .int 0, .null, .int 0, .int 0, .int 0, .int 0, .int 0, .int 0, .int 0]))) 1 lp LP (S.ps.map peE) := l1.new hq56
            obtain ⟨vs30, hvs30⟩ := l30.obj
            obtain ⟨vs10, hvs10⟩ := l10.obj
            refine z_dup C d_RC_roll_59 rfl ?_
            refine z_aload_n C d_RC_roll_60 rfl rfl ?_
            refine z_get (ci := 7) (T := T_RC) (N := 8) C d_RC_roll_61 3 i_RC rfl (by decide) k_63 (fun _ q => q) hx0 (by rfl) ?_
            refine z_callV (n := 0) (As := []) (rest := [.ref q56, .ref q56]) (r1 := 1) (mc1 := 0) (ms1 := 0) (ci := 0) (T0 := T_AL) C d_RC_roll_64 k_96 k_93 k_94 k_95 k_4 (by decide +kernel) rfl rfl (by first | assumption | exact zu_s) (by decide) (by decide) (Nat.le_of_ble_eq_true rfl) (by first | decide | omega) (by first | decide | omega) rfl ?_
            refine cl_size l30 ?_
            dsimp only [zps]
            rw [List.length_map]
            refine z_iload_n C d_RC_roll_67 rfl rfl ?_
            refine z_aload_n C d_RC_roll_68 rfl rfl ?_
            refine z_get (ci := 7) (T := T_RC) (N := 8) C d_RC_roll_69 1 i_RC rfl (by decide) k_61 (fun _ q => q) hx0 (by rfl) ?_
            refine z_callV (n := 0) (As := []) (rest := [.int a, .int (nI S.ro.length), .ref q56, .ref q56]) (r1 := 1) (mc1 := 0) (ms1 := 0) (ci := 0) (T0 := T_AL) C d_RC_roll_72 k_96 k_93 k_94 k_95 k_4 (by decide +kernel) rfl rfl (by first | assumption | exact zu_s) (by decide) (by decide) (Nat.le_of_ble_eq_true rfl) (by first | decide | omega) (by first | decide | omega) rfl ?_
            refine cl_size l10 ?_
            dsimp only [zps]
            rw [List.length_map]
            refine z_callI (n := 3) (As := [.int (nI S.ro.length), .int a, .int (nI S.ps.length)]) (rest := [.ref q56]) (r1 := 2) (mc1 := 1) (ms1 := 60) C d_RC_roll_75 k_394 k_392 k_393 k_21 rfl (by decide +kernel) rfl (by decide) (by decide) (Nat.le_of_ble_eq_true rfl) (by first | decide | omega) (by first | decide | omega) rfl ?_
            refine ct_RO_init b1 zu_s (fun ct hct => ?_)
            dsimp only [zps]
            rw [zu_zu]
            have nct : ct ≠ q56 := by
              rintro rfl
              rw [zu_s] at hct
              cases hct
            have hct0 : h ct = none := by rw [zu_n nct] at hct; exact hct
            have key2 : ∀ q, h q ≠ none → q ≠ ct := fun q hq z => hq (z ▸ hct0)
            clear hx0 l30 l10 hvs30 hvs10
            let T2 : Tg := tg (tg T q56 (3, 2 + S.ro.length)) ct (7, S.ro.length)
            have hT2 : ∀ q, h q ≠ none → T2 q = T q := fun q hq => (tg_n (key2 q hq)).trans (tg_n (key q hq))
            have t2a : T2 q56 = (3, 2 + S.ro.length) := (tg_n nct.symm).trans tg_s
            have t2b : T2 ct = (7, S.ro.length) := tg_s
            have hh2 : ∀ (v w : va_E) q, h q ≠ none → zu (zu h q56 v) ct w q = h q := fun v w q hq => (zu_n (key2 q hq)).trans (zu_n (key q hq))
            have hx2 := (hh2 (roC (nI S.ro.length) a ct 1 0 0 0 0 0 0) (ia g S.ps.length (fun i => if i < S.ps.length then -2 else 0)) x (zne hx)).trans hx
            refine z_astore_n C d_RC_roll_78 rfl (by decide) rfl ?_
            dsimp only [List.set]
            refine z_aload_n C d_RC_roll_79 rfl rfl ?_
            refine z_aload_n C d_RC_roll_80 rfl rfl ?_
            refine z_callV (n := 1) (As := [.ref q56]) (rest := []) (r1 := 4) (mc1 := 0) (ms1 := 0) (ci := 7) (T0 := T_RC) C d_RC_roll_81 k_439 k_436 k_438 ks_8 k_1 (by decide +kernel) rfl rfl hx2 (by decide) (by decide) (Nat.le_of_ble_eq_true rfl) (by first | decide | omega) (by first | decide | omega) rfl ?_
            refine ct_RC_askThoseInside (T := T2) hx2 ((hT2 x (zne hx)).trans hxT) (l1.keep hT2 (fun q hq _ => hh2 _ _ q hq)) ((hh2 _ _ gu (zne hgu)).trans hgu) ((hT2 gu (zne hgu)).trans hguT) ((zu_n nct.symm).trans zu_s) t2a zu_s t2b b1 rfl ?_
            dsimp only [zps]
            refine z_aload_n C d_RC_roll_84 rfl rfl ?_
            refine z_callV (n := 0) (As := []) (rest := []) (r1 := 1) (mc1 := 0) (ms1 := 0) (ci := 3) (T0 := T_RO) C d_RC_roll_85 k_447 k_444 k_445 k_446 k_21 (by decide +kernel) rfl rfl zu_s (by decide) (by decide) (Nat.le_of_ble_eq_true rfl) (by first | decide | omega) (by first | decide | omega) rfl ?_
            refine ct_RO_endIfNobodyIsAsked zu_s ?_
            dsimp only [zps]
            rw [zu_zu]
            have hh3 : ∀ q, h q ≠ none → zu (zu (zu (zu h q56 (roC (nI S.ro.length) a ct 1 0 0 0 0 0 0)) ct (ia g S.ps.length (fun i => if i < S.ps.length then -2 else 0))) ct (ia g S.ps.length (asF a (fun i => if i < S.ps.length then -2 else 0) 0 S.ps))) q56 (roE (roN S a ct)) q = h q := fun q hq => (zu_n (key q hq)).trans ((zu_n (key2 q hq)).trans (hh2 _ _ q hq))
            have hx3 := (hh3 x (zne hx)).trans hx
            have l3' : zLS g T2 (zu (zu (zu (zu h q56 (roC (nI S.ro.length) a ct 1 0 0 0 0 0 0)) ct (ia g S.ps.length (fun i => if i < S.ps.length then -2 else 0))) ct (ia g S.ps.length (asF a (fun i => if i < S.ps.length then -2 else 0) 0 S.ps))) q56 (roE (roN S a ct))) 3 lr LR (S.ro.map roE) := l3.keep hT2 (fun q hq _ => hh3 q hq)
            obtain ⟨vs3, hvs3⟩ := l3'.obj
            refine z_aload_n C d_RC_roll_88 rfl rfl ?_
            refine z_get (ci := 7) (T := T_RC) (N := 8) C d_RC_roll_89 3 i_RC rfl (by decide) k_63 (fun _ q => q) hx3 (by rfl) ?_
            refine z_aload_n C d_RC_roll_92 rfl rfl ?_
            refine z_callV (n := 1) (As := [.ref q56]) (rest := []) (r1 := 7) (mc1 := 1) (ms1 := 450) (ci := 0) (T0 := T_AL) C d_RC_roll_93 k_188 k_185 k_186 k_187 k_4 (by decide +kernel) rfl rfl (by first | assumption | exact zu_s) (by decide) (by decide) (Nat.le_of_ble_eq_true rfl) (by first | decide | omega) (by first | decide | omega) rfl ?_
            refine cl_add (ci := 3) (q9 := ("RollCalls$Roll", T_RO, 10)) (vs := [.int (nI S.ro.length), .int a, .ref ct, .int (roN S a ct).rd, .int (asN a 0 S.ps), .int 0, .int (gaS a S.gf 0 10 0), .int 0, .int 0, .int 0]) l3' (by rw [List.length_map]; omega) rfl (by decide) (by decide +kernel) (fun e he => ?_) zu_s (by rw [t2a, List.length_map]) (fun h1 T1 c1 c2 c3 c4 => ?_)
            · obtain ⟨e1, -, rfl⟩ := List.mem_map.mp he
              exact ⟨_, rfl⟩
            · dsimp only [zps]
              have nn : ∀ q, h q ≠ none → zu (zu (zu (zu h q56 (roC (nI S.ro.length) a ct 1 0 0 0 0 0 0)) ct (ia g S.ps.length (fun i => if i < S.ps.length then -2 else 0))) ct (ia g S.ps.length (asF a (fun i => if i < S.ps.length then -2 else 0) 0 S.ps))) q56 (roE (roN S a ct)) q ≠ none := fun q hq => by rw [hh3 q hq]; exact hq
              have hT : ∀ q, h q ≠ none → T1 q = T q := fun q hq => (c2 q (nn q hq)).trans (hT2 q hq)
              have kp : ∀ (kd : Nat), kd ≠ 3 → ∀ q, h q ≠ none → (T q).1 = kd → h1 q = h q := fun kd h8 q hq e => (c3 q (nn q hq) (by rw [hT2 q hq]; exact fun z => h8 (by rw [← e, z])) (by rw [hT2 q hq]; exact fun z => h8 (by rw [← e, z]))).trans (hh3 q hq)
              have l3'' : zLS g T1 h1 3 lr (LR ++ [q56]) ((S.ro ++ [roN S a ct]).map roE) := by rw [List.map_append]; exact c1
              have e56 : h1 q56 = some (roE (roN S a ct)) := (c3 q56 (by rw [zu_s]; exact zsm) (by rw [t2a]; exact fun z => by have := (Prod.mk.inj z).2; omega) (by rw [t2a]; exact fun z => by have := (Prod.mk.inj z).2; omega)).trans zu_s
              have ect0 : zu (zu (zu (zu h q56 (roC (nI S.ro.length) a ct 1 0 0 0 0 0 0)) ct (ia g S.ps.length (fun i => if i < S.ps.length then -2 else 0))) ct (ia g S.ps.length (asF a (fun i => if i < S.ps.length then -2 else 0) 0 S.ps))) q56 (roE (roN S a ct)) ct = some (ia g S.ps.length (asF a (fun i => if i < S.ps.length then -2 else 0) 0 S.ps)) := (zu_n nct).trans zu_s
              have ect : h1 ct = some (ia g S.ps.length (asF a (fun i => if i < S.ps.length then -2 else 0) 0 S.ps)) := (c3 ct (zne ect0) (by rw [t2b]; exact fun z => absurd (Prod.mk.inj z).1 (by decide)) (by rw [t2b]; exact fun z => absurd (Prod.mk.inj z).1 (by decide))).trans ect0
              have r1' := (r1.keep hT (kp 7 (by decide))).app (r := roN S a ct) ect ((c2 ct (zne ect0)).trans t2b) b1
              refine z_pop C d_RC_roll_96 rfl ?_
              refine z_aload_n C d_RC_roll_97 rfl rfl ?_
              refine z_get (ci := 3) (T := T_RO) (N := 10) C d_RC_roll_98 0 i_RO rfl (by decide) k_401 (fun _ q => q) e56 (by rfl) ?_
              refine z_iret C d_RC_roll_101 ?_
              exact k3 h1 T1 ct ⟨gu, lp, lm, lr, ld, ly, le, LP, LM, _, LD, LY, LE, ⟨(kp 10 (by decide) x (zne hx) (by rw [hxT])).trans hx, (hT x (zne hx)).trans hxT⟩, ⟨(kp 10 (by decide) gu (zne hgu) (by rw [hguT])).trans hgu, (hT gu (zne hgu)).trans hguT⟩, l1.keep hT (kp 1 (by decide)), l2.keep hT (kp 2 (by decide)), l3'', l4.keep hT (kp 4 (by decide)), l5.keep hT (kp 5 (by decide)), l6.keep hT (kp 6 (by decide)), r1', r2.keep hT (kp 8 (by decide)) (kp 9 (by decide)), b1, b2, zlen1 hl, b4, b5, b6⟩ ⟨hT, fun q hq h0 => kp 0 (by decide) q hq h0, fun q hq => c4 q (nn q hq)⟩
          · refine z_throwS (text := "no room for a roll") (cls := "java/lang/UnsupportedOperationException") C ht d_RC_roll_46 d_RC_roll_49 d_RC_roll_50 d_RC_roll_52 d_RC_roll_55 (by decide +kernel) k_97 k_9 (by decide +kernel) (tho_UOE C) thg_UOE (by decide) (Nat.le_of_ble_eq_true rfl) (by first | decide | omega) (by first | decide | omega) ?_
            refine kx ?_
            rcases Nat.lt_or_ge S.ro.length 40 with q | q
            · exact absurd (by rw [show (40 : Int32) = nI 40 from rfl]; exact nI_lt q (by omega)) c43
            · exact q
        · refine z_throwS (text := "a roll is on there, or a mayday is open") (cls := "java/lang/IllegalStateException") C ht d_RC_roll_24 d_RC_roll_27 d_RC_roll_28 d_RC_roll_30 d_RC_roll_33 (by decide +kernel) k_292 k_18 (by decide +kernel) (tho_ISE C) thg_ISE (by decide) (Nat.le_of_ble_eq_true rfl) (by first | decide | omega) (by first | decide | omega) ?_
          refine kx2' (Or.inr (fun z => c21 ?_))
          rw [z]
          decide
  refine z_iload_n C d_RC_roll_0 rfl rfl ?_
  refine z_iconst (v := (-1)) C d_RC_roll_1 (by decide) ?_
  refine z_icmp_eq 9 C d_RC_roll_2 (by decide) (fun c2 => ?_) (fun c2 => ?_)
  · refine z_less (rc1 := 4) (rs1 := 534) (by decide) (by decide) ?_
    exact rest (Or.inl c2)
  · refine z_iload_n C d_RC_roll_5 rfl rfl ?_
    refine z_callS (n := 1) (As := [.int a]) (rest := []) (r1 := 6) (mc1 := 1) (ms1 := 6) C d_RC_roll_6 k_290 k_288 k_289 k_1 (by decide +kernel) rfl (by decide) (by decide) (Nat.le_of_ble_eq_true rfl) (by first | decide | omega) (by first | decide | omega) rfl ?_
    refine ct_RC_checkSector (fun z => zx_out C ht (kx1 c2 z)) (fun ha0 ha1 => ?_)
    dsimp only [zps]
    exact rest (Or.inr ⟨ha0, ha1⟩)
set_option maxRecDepth 100000 in
theorem ct_RC_evacuate {a : Int32} (hR : RepC g T h x S) (kx1 : (a < 1 ∨ 10000 < a) → PX xIOB h)
    (kx2 : ¬ a < 1 → a ≤ 10000 → (isOnE S.ev = true ∨ dmN S.gf S.ps 0 10 0 = 0) → ∀ (h1 : Hp) (T1 : Tg), RepC g T1 h1 x S → Ext T h T1 h1 → PX xISE h1)
    (kx3 : ¬ a < 1 → a ≤ 10000 → isOnE S.ev = false → ¬ dmN S.gf S.ps 0 10 0 = 0 → 20 ≤ S.ev.length → ∀ (h1 : Hp) (T1 : Tg), RepC g T1 h1 x S → Ext T h T1 h1 → PX xUOE h1)
    (k : ¬ a < 1 → a ≤ 10000 → isOnE S.ev = false → ¬ dmN S.gf S.ps 0 10 0 = 0 → S.ev.length < 20 → ∀ (h1 : Hp) (T1 : Tg) (mu lt : Nat), RepC g T1 h1 x (S.1, S.2.1, S.2.2.1, S.2.2.2.1, S.2.2.2.2.1, S.2.2.2.2.2.1, S.2.2.2.2.2.2.1, S.2.2.2.2.2.2.2 ++ [evN S a mu lt]) → Ext T h T1 h1 → PR (some (.int (nI S.ev.length))) h1) : Ct g y_RC_evacuate w_RC_evacuate 8 6 500 [.ref x, .int a] h PR PX := by
  have hR0 := hR
  obtain ⟨gu, lp, lm, lr, ld, ly, le, LP, LM, LR, LD, LY, LE, ⟨hx, hxT⟩, ⟨hgu, hguT⟩, l1, l2, l3, l4, l5, l6, r1, r2, b1, b2, b3, b4, b5, b6⟩ := hR
  obtain ⟨vs, hvs⟩ := l6.obj
  refine Ct_intro (cc := c_RC_evacuate) (nL := 3) (ret := (some FieldType.int)) (ls := [some (.ref x), some (.int a), none]) (by decide) (Nat.le_of_ble_eq_true rfl) rfl rfl ?_
  intro p e R s m args below meth c C ht hname
  refine z_iload_n C d_RC_evacuate_0 rfl rfl ?_
  refine z_iconst (v := 1) C d_RC_evacuate_1 (by decide) ?_
  refine z_icmp_lt 12 C d_RC_evacuate_2 (by decide) (fun c2 => ?_) (fun c2 => ?_)
  · refine z_throwSW (text := "an evacuation has 1 to 10,000 seconds") (cls := "java/lang/IndexOutOfBoundsException") C ht d_RC_evacuate_12 d_RC_evacuate_15 d_RC_evacuate_16 d_RC_evacuate_19 d_RC_evacuate_22 (by decide +kernel) k_348 k_20 (by decide +kernel) (tho_IOB C) thg_IOB (by decide) (Nat.le_of_ble_eq_true rfl) (by first | decide | omega) (by first | decide | omega) ?_
    exact kx1 (Or.inl c2)
  · refine z_iload_n C d_RC_evacuate_5 rfl rfl ?_
    refine z_sipush (v := 10000) C d_RC_evacuate_6 (by decide) ?_
    refine z_icmp_le 23 C d_RC_evacuate_9 (by decide) (fun c9 => ?_) (fun c9 => ?_)
    · have kx2' := kx2 c2 c9
      have kx3' := kx3 c2 c9
      have k' := k c2 c9
      clear kx1 kx2 kx3 k
      refine z_aload_n C d_RC_evacuate_23 rfl rfl ?_
      refine z_callV (n := 0) (As := []) (rest := []) (r1 := 7) (mc1 := 1) (ms1 := 6) (ci := 7) (T0 := T_RC) C d_RC_evacuate_24 k_642 k_639 k_641 ks_19 k_1 (by decide +kernel) rfl rfl (by first | assumption | exact zu_s) (by decide) (by decide) (Nat.le_of_ble_eq_true rfl) (by first | decide | omega) (by first | decide | omega) rfl ?_
      refine ct_RC_isEvacuating hx l6 ?_
      dsimp only [zps]
      cases ho : isOnE S.ev with
      | true =>
        rw [if_pos rfl]
        refine z_if_eq 41 C d_RC_evacuate_27 (by decide) (fun c27 => ?_) (fun c27 => ?_)
        · exact absurd c27 (by decide)
        · refine z_throwSW (text := "an evacuation is on") (cls := "java/lang/IllegalStateException") C ht d_RC_evacuate_30 d_RC_evacuate_33 d_RC_evacuate_34 d_RC_evacuate_37 d_RC_evacuate_40 (by decide +kernel) k_292 k_18 (by decide +kernel) (tho_ISE C) thg_ISE (by decide) (Nat.le_of_ble_eq_true rfl) (by first | decide | omega) (by first | decide | omega) ?_
          exact kx2' (Or.inl ho) h T hR0 Ext.rf
      | false =>
        rw [if_neg (by decide)]
        refine z_if_eq 41 C d_RC_evacuate_27 (by decide) (fun c27 => ?_) (fun c27 => ?_)
        · have k2 := k' ho
          have kx := kx3' ho
          clear k' kx3'
          refine z_new (ci := 6) (fs := [.int 0, .null, .null, .int 0, .int 0]) (T := T_EV) (N := 5) C d_RC_evacuate_41 ty_EV t_EV i_EV rfl k_652 k_654 k_24 (fun j hj => by rcases (show j = 0 ∨ j = 1 ∨ j = 2 ∨ j = 3 ∨ j = 4 by omega) with rfl | rfl | rfl | rfl | rfl <;> rfl) (by first | decide | omega) (by first | decide | omega) (fun q41 hq41 => ?_)
          have key : ∀ q, h q ≠ none → q ≠ q41 := fun q hq z => hq (z ▸ hq41)
          have hx0 := ((zu_n (key x (zne hx))).trans hx : zu h q41 (.inr (6, [.int 0, .null, .null, .int 0, .int 0])) x = some (rcC gu lp lm lr ld ly le S.sec))
          refine z_dup C d_RC_evacuate_44 rfl ?_
          refine z_aload_n C d_RC_evacuate_45 rfl rfl ?_
          refine z_get (ci := 7) (T := T_RC) (N := 8) C d_RC_evacuate_46 7 i_RC rfl (by decide) k_67 (fun _ q => q) hx0 (by rfl) ?_
          refine z_iload_n C d_RC_evacuate_49 rfl rfl ?_
          refine z_iadd C d_RC_evacuate_50 ?_
          refine z_callI (n := 1) (As := [.int (S.sec + a)]) (rest := [.ref q41]) (r1 := 1) (mc1 := 2) (ms1 := 20) C d_RC_evacuate_51 k_657 k_655 k_656 k_24 rfl (by decide +kernel) rfl (by decide) (by decide) (Nat.le_of_ble_eq_true rfl) (by first | decide | omega) (by first | decide | omega) rfl ?_
          refine ct_EV_init zu_s (fun mu lt hmu hlt hml => ?_)
          dsimp only [zps]
          rw [zu_zu]
          have nmu : mu ≠ q41 := by
            rintro rfl
            rw [zu_s] at hmu
            cases hmu
          have nlt : lt ≠ q41 := by
            rintro rfl
            rw [zu_s] at hlt
            cases hlt
          have hmu0 : h mu = none := by rw [zu_n nmu] at hmu; exact hmu
          have hlt0 : h lt = none := by rw [zu_n nlt] at hlt; exact hlt
          have key2 : ∀ q, h q ≠ none → q ≠ mu := fun q hq z => hq (z ▸ hmu0)
          have key3 : ∀ q, h q ≠ none → q ≠ lt := fun q hq z => hq (z ▸ hlt0)
          clear hx0
          let T2 : Tg := tg (tg (tg T q41 (6, 2 + S.ev.length)) mu (8, S.ev.length)) lt (9, S.ev.length)
          have hT2 : ∀ q, h q ≠ none → T2 q = T q := fun q hq => (tg_n (key3 q hq)).trans ((tg_n (key2 q hq)).trans (tg_n (key q hq)))
          have t2a : T2 q41 = (6, 2 + S.ev.length) := (tg_n nlt.symm).trans ((tg_n nmu.symm).trans tg_s)
          have t2b : T2 mu = (8, S.ev.length) := (tg_n hml).trans tg_s
          have t2c : T2 lt = (9, S.ev.length) := tg_s
          have hh2 : ∀ (u v w : va_E) q, h q ≠ none → zu (zu (zu h q41 u) mu v) lt w q = h q := fun u v w q hq => (zu_n (key3 q hq)).trans ((zu_n (key2 q hq)).trans (zu_n (key q hq)))
          have hx2 := (hh2 (evC (S.sec + a) mu lt 0 0) (ba g 10 (fun _ => 0)) (ba g 10 (fun _ => 0)) x (zne hx)).trans hx
          refine z_astore_n C d_RC_evacuate_54 rfl (by decide) rfl ?_
          dsimp only [List.set]
          refine z_aload_n C d_RC_evacuate_55 rfl rfl ?_
          refine z_aload_n C d_RC_evacuate_56 rfl rfl ?_
          refine z_callV (n := 1) (As := [.ref q41]) (rest := []) (r1 := 5) (mc1 := 0) (ms1 := 0) (ci := 7) (T0 := T_RC) C d_RC_evacuate_57 k_682 k_679 k_681 ks_21 k_1 (by decide +kernel) rfl rfl hx2 (by decide) (by decide) (Nat.le_of_ble_eq_true rfl) (by first | decide | omega) (by first | decide | omega) rfl ?_
          refine ct_RC_demandConfirmations (T := T2) hx2 ((hT2 x (zne hx)).trans hxT) (l1.keep hT2 (fun q hq _ => hh2 _ _ _ q hq)) ((hh2 _ _ _ gu (zne hgu)).trans hgu) ((hT2 gu (zne hgu)).trans hguT) ((zu_n nlt.symm).trans ((zu_n nmu.symm).trans zu_s)) t2a ((zu_n hml).trans zu_s) t2b ?_
          dsimp only [zps]
          have hh3 : ∀ q, h q ≠ none → zu (zu (zu (zu (zu h q41 (evC (S.sec + a) mu lt 0 0)) mu (ba g 10 (fun _ => 0))) lt (ba g 10 (fun _ => 0))) mu (ba g 10 (dmF S.gf S.ps 0 10 (fun _ => 0)))) q41 (evE (evN S a mu lt)) q = h q := fun q hq => (zu_n (key q hq)).trans ((zu_n (key2 q hq)).trans (hh2 _ _ _ q hq))
          have hg1 : zu (zu (zu (zu (zu h q41 (evC (S.sec + a) mu lt 0 0)) mu (ba g 10 (fun _ => 0))) lt (ba g 10 (fun _ => 0))) mu (ba g 10 (dmF S.gf S.ps 0 10 (fun _ => 0)))) q41 (evE (evN S a mu lt)) q41 = some (evE (evN S a mu lt)) := zu_s
          have hg2 : zu (zu (zu (zu (zu h q41 (evC (S.sec + a) mu lt 0 0)) mu (ba g 10 (fun _ => 0))) lt (ba g 10 (fun _ => 0))) mu (ba g 10 (dmF S.gf S.ps 0 10 (fun _ => 0)))) q41 (evE (evN S a mu lt)) mu = some (ba g 10 (dmF S.gf S.ps 0 10 (fun _ => 0))) := (zu_n nmu).trans zu_s
          have hg3 : zu (zu (zu (zu (zu h q41 (evC (S.sec + a) mu lt 0 0)) mu (ba g 10 (fun _ => 0))) lt (ba g 10 (fun _ => 0))) mu (ba g 10 (dmF S.gf S.ps 0 10 (fun _ => 0)))) q41 (evE (evN S a mu lt)) lt = some (ba g 10 (fun _ => 0)) := (zu_n nlt).trans ((zu_n hml.symm).trans zu_s)
          generalize zu (zu (zu (zu (zu h q41 (evC (S.sec + a) mu lt 0 0)) mu (ba g 10 (fun _ => 0))) lt (ba g 10 (fun _ => 0))) mu (ba g 10 (dmF S.gf S.ps 0 10 (fun _ => 0)))) q41 (evE (evN S a mu lt)) = h3 at hh3 hg1 hg2 hg3 ⊢
          clear hh2 hx2 hmu hlt
          have hx3 := (hh3 x (zne hx)).trans hx
          have ex3 : Ext T h T2 h3 := ⟨hT2, fun q hq _ => hh3 q hq, fun q hq => by rw [hh3 q hq]; exact hq⟩
          have rp3 : RepC g T2 h3 x S := hR0.ext hT2 (fun q hq _ => hh3 q hq)
          refine z_aload_n C d_RC_evacuate_60 rfl rfl ?_
          refine z_get (ci := 6) (T := T_EV) (N := 5) C d_RC_evacuate_61 3 i_EV rfl (by decide) k_665 (fun _ q => q) hg1 (by rfl) ?_
          refine z_if_ne 78 C d_RC_evacuate_64 (by decide) (fun c64 => ?_) (fun c64 => ?_)
          · have l6' : zLS g T2 h3 6 le LE (S.ev.map evE) := l6.keep hT2 (fun q hq _ => hh3 q hq)
            obtain ⟨vs3, hvs3⟩ := l6'.obj
            refine z_aload_n C d_RC_evacuate_78 rfl rfl ?_
            refine z_get (ci := 7) (T := T_RC) (N := 8) C d_RC_evacuate_79 6 i_RC rfl (by decide) k_66 (fun _ q => q) hx3 (by rfl) ?_
            refine z_callV (n := 0) (As := []) (rest := []) (r1 := 1) (mc1 := 0) (ms1 := 0) (ci := 0) (T0 := T_AL) C d_RC_evacuate_82 k_96 k_93 k_94 k_95 k_4 (by decide +kernel) rfl rfl (by first | assumption | exact zu_s) (by decide) (by decide) (Nat.le_of_ble_eq_true rfl) (by first | decide | omega) (by first | decide | omega) rfl ?_
            refine cl_size l6' ?_
            dsimp only [zps]
            rw [List.length_map]
            refine z_bipush (v := 20) C d_RC_evacuate_85 (by decide) ?_
            refine z_icmp_lt 101 C d_RC_evacuate_87 (by decide) (fun c87 => ?_) (fun c87 => ?_)
            · have hl : S.ev.length < 20 := by
                rcases Nat.lt_or_ge S.ev.length 20 with q | q
                · exact q
                · exact absurd c87 (by rw [show (20 : Int32) = nI 20 from rfl]; exact nI_nlt q (by omega))
              refine z_aload_n C d_RC_evacuate_101 rfl rfl ?_
              refine z_get (ci := 7) (T := T_RC) (N := 8) C d_RC_evacuate_102 6 i_RC rfl (by decide) k_66 (fun _ q => q) hx3 (by rfl) ?_
              refine z_aload_n C d_RC_evacuate_105 rfl rfl ?_
              refine z_callV (n := 1) (As := [.ref q41]) (rest := []) (r1 := 7) (mc1 := 1) (ms1 := 450) (ci := 0) (T0 := T_AL) C d_RC_evacuate_106 k_188 k_185 k_186 k_187 k_4 (by decide +kernel) rfl rfl (by first | assumption | exact zu_s) (by decide) (by decide) (Nat.le_of_ble_eq_true rfl) (by first | decide | omega) (by first | decide | omega) rfl ?_
              refine cl_add (ci := 6) (q9 := ("RollCalls$Evacuation", T_EV, 5)) (vs := [.int (S.sec + a), .ref mu, .ref lt, .int (dmN S.gf S.ps 0 10 0), .int 0]) l6' (by rw [List.length_map]; omega) rfl (by decide) (by decide +kernel) (fun e he => ?_) hg1 (by rw [t2a, List.length_map]) (fun h1 T1 c1 c2 c3 c4 => ?_)
              · obtain ⟨e1, -, rfl⟩ := List.mem_map.mp he
                exact ⟨_, rfl⟩
              · dsimp only [zps]
                have nn : ∀ q, h q ≠ none → h3 q ≠ none := fun q hq => by rw [hh3 q hq]; exact hq
                have hT : ∀ q, h q ≠ none → T1 q = T q := fun q hq => (c2 q (nn q hq)).trans (hT2 q hq)
                have kp : ∀ (kd : Nat), kd ≠ 6 → ∀ q, h q ≠ none → (T q).1 = kd → h1 q = h q := fun kd h8 q hq e => (c3 q (nn q hq) (by rw [hT2 q hq]; exact fun z => h8 (by rw [← e, z])) (by rw [hT2 q hq]; exact fun z => h8 (by rw [← e, z]))).trans (hh3 q hq)
                have l6'' : zLS g T1 h1 6 le (LE ++ [q41]) ((S.ev ++ [evN S a mu lt]).map evE) := by rw [List.map_append]; exact c1
                obtain ⟨vs4, hvs4⟩ := l6''.obj
                have emu := (c3 mu (zne hg2) (by rw [t2b]; exact fun z => absurd (Prod.mk.inj z).1 (by decide)) (by rw [t2b]; exact fun z => absurd (Prod.mk.inj z).1 (by decide))).trans hg2
                have elt := (c3 lt (zne hg3) (by rw [t2c]; exact fun z => absurd (Prod.mk.inj z).1 (by decide)) (by rw [t2c]; exact fun z => absurd (Prod.mk.inj z).1 (by decide))).trans hg3
                have r2' := (r2.keep hT (kp 8 (by decide)) (kp 9 (by decide))).app (v := evN S a mu lt) emu ((c2 mu (zne hg2)).trans t2b) elt ((c2 lt (zne hg3)).trans t2c) (dmF_nar S.gf S.ps 10 0 _ (fun _ => rfl))
                have ex1 := (kp 10 (by decide) x (zne hx) (by rw [hxT])).trans hx
                refine z_pop C d_RC_evacuate_109 rfl ?_
                refine z_aload_n C d_RC_evacuate_110 rfl rfl ?_
                refine z_get (ci := 7) (T := T_RC) (N := 8) C d_RC_evacuate_111 6 i_RC rfl (by decide) k_66 (fun _ q => q) ex1 (by rfl) ?_
                refine z_callV (n := 0) (As := []) (rest := []) (r1 := 1) (mc1 := 0) (ms1 := 0) (ci := 0) (T0 := T_AL) C d_RC_evacuate_114 k_96 k_93 k_94 k_95 k_4 (by decide +kernel) rfl rfl (by first | assumption | exact zu_s) (by decide) (by decide) (Nat.le_of_ble_eq_true rfl) (by first | decide | omega) (by first | decide | omega) rfl ?_
                refine cl_size l6'' ?_
                dsimp only [zps]
                rw [List.length_map, List.length_append]
                refine z_iconst (v := 1) C d_RC_evacuate_117 (by decide) ?_
                refine z_isub C d_RC_evacuate_118 ?_
                rw [znI_pred (by simp)]
                refine z_iret C d_RC_evacuate_119 ?_
                rw [show S.ev.length + [(evN S a mu lt : EvT)].length - 1 = S.ev.length from by simp]
                exact k2 c64 hl h1 T1 mu lt ⟨gu, lp, lm, lr, ld, ly, le, LP, LM, LR, LD, LY, _, ⟨(kp 10 (by decide) x (zne hx) (by rw [hxT])).trans hx, (hT x (zne hx)).trans hxT⟩, ⟨(kp 10 (by decide) gu (zne hgu) (by rw [hguT])).trans hgu, (hT gu (zne hgu)).trans hguT⟩, l1.keep hT (kp 1 (by decide)), l2.keep hT (kp 2 (by decide)), l3.keep hT (kp 3 (by decide)), l4.keep hT (kp 4 (by decide)), l5.keep hT (kp 5 (by decide)), l6'', r1.keep hT (kp 7 (by decide)), r2', b1, b2, b3, b4, b5, zlen1 hl⟩ ⟨hT, fun q hq h0 => kp 0 (by decide) q hq h0, fun q hq => c4 q (nn q hq)⟩
            · refine z_throwSW (text := "no room for an evacuation") (cls := "java/lang/UnsupportedOperationException") C ht d_RC_evacuate_90 d_RC_evacuate_93 d_RC_evacuate_94 d_RC_evacuate_97 d_RC_evacuate_100 (by decide +kernel) k_97 k_9 (by decide +kernel) (tho_UOE C) thg_UOE (by decide) (Nat.le_of_ble_eq_true rfl) (by first | decide | omega) (by first | decide | omega) ?_
              refine kx c64 ?_ h3 T2 rp3 ex3
              rcases Nat.lt_or_ge S.ev.length 20 with q | q
              · exact absurd (by rw [show (20 : Int32) = nI 20 from rfl]; exact nI_lt q (by omega)) c87
              · exact q
          · refine z_throwSW (text := "nobody would have to confirm") (cls := "java/lang/IllegalStateException") C ht d_RC_evacuate_67 d_RC_evacuate_70 d_RC_evacuate_71 d_RC_evacuate_74 d_RC_evacuate_77 (by decide +kernel) k_292 k_18 (by decide +kernel) (tho_ISE C) thg_ISE (by decide) (Nat.le_of_ble_eq_true rfl) (by first | decide | omega) (by first | decide | omega) ?_
            exact kx2' (Or.inr c64) h3 T2 rp3 ex3
        · exact absurd rfl c27
    · refine z_throwSW (text := "an evacuation has 1 to 10,000 seconds") (cls := "java/lang/IndexOutOfBoundsException") C ht d_RC_evacuate_12 d_RC_evacuate_15 d_RC_evacuate_16 d_RC_evacuate_19 d_RC_evacuate_22 (by decide +kernel) k_348 k_20 (by decide +kernel) (tho_IOB C) thg_IOB (by decide) (Nat.le_of_ble_eq_true rfl) (by first | decide | omega) (by first | decide | omega) ?_
      exact kx1 (Or.inr (Int32.not_le.mp c9))
theorem isOnE_last {l : List EvT} (ho : isOnE l = true) : ∃ i v, l.length = i + 1 ∧ l[i]? = some v ∧ 0 < v.2.2.1 := by
  unfold isOnE at ho
  cases hl : l.getLast? with
  | none => rw [hl] at ho; cases ho
  | some v =>
    have hne : l ≠ [] := by
      rintro rfl
      cases hl
    obtain ⟨e, he, he2⟩ := zlast hne
    rw [hl] at he2 ho
    cases he2
    have hp : 0 < l.length := List.length_pos_iff.mpr hne
    exact ⟨l.length - 1, v, by omega, he, by simpa using ho⟩
set_option maxRecDepth 100000 in
theorem ct_RC_confirm {a : Int32} (hR : RepC g T h x S) (kx1 : (a < 0 ∨ 10 ≤ a) → PX xIAE h)
    (kx2 : ¬ a < 0 → a < 10 → isOnE S.ev = false → PX xISE h)
    (kx3 : ∀ (j i : Nat) (v : EvT), a = nI j → j < 10 → isOnE S.ev = true → S.ev.length = i + 1 → S.ev[i]? = some v → v.fm j = 0 → PX xISE h)
    (k : ∀ (j i : Nat) (v : EvT), a = nI j → j < 10 → isOnE S.ev = true → S.ev.length = i + 1 → S.ev[i]? = some v → ¬ v.fm j = 0 → ∀ (h1 : Hp), RepC g T h1 x (S.1, S.2.1, S.2.2.1, S.2.2.2.1, S.2.2.2.2.1, S.2.2.2.2.2.1, S.2.2.2.2.2.2.1, S.2.2.2.2.2.2.2.set i (v.1, (v.mu, v.lt, upd v.fm j 0, v.fl), (v.2.2.1 - 1, v.2.2.2))) → Ext T h T h1 → PR (some (.int (v.2.2.1 - 1))) h1) : Ct g y_RC_confirm w_RC_confirm 8 3 18 [.ref x, .int a] h PR PX := by
  obtain ⟨gu, lp, lm, lr, ld, ly, le, LP, LM, LR, LD, LY, LE, ⟨hx, hxT⟩, ⟨hgu, hguT⟩, l1, l2, l3, l4, l5, l6, r1, r2, b1, b2, b3, b4, b5, b6⟩ := hR
  obtain ⟨vs, hvs⟩ := l6.obj
  refine Ct_intro (cc := c_RC_confirm) (nL := 3) (ret := (some FieldType.int)) (ls := [some (.ref x), some (.int a), none]) (by decide) (Nat.le_of_ble_eq_true rfl) rfl rfl ?_
  intro p e R s m args below meth c C ht hname
  refine z_iload_n C d_RC_confirm_0 rfl rfl ?_
  refine z_callS (n := 1) (As := [.int a]) (rest := []) (r1 := 6) (mc1 := 1) (ms1 := 6) C d_RC_confirm_1 k_290 k_288 k_289 k_1 (by decide +kernel) rfl (by decide) (by decide) (Nat.le_of_ble_eq_true rfl) (by first | decide | omega) (by first | decide | omega) rfl ?_
  refine ct_RC_checkSector (fun z => zx_out C ht (kx1 z)) (fun ha0 ha1 => ?_)
  dsimp only [zps]
  obtain ⟨j, hj, hja, -⟩ := pk_mu (L := 10) ha0 (Int32.not_le.mpr ha1) (by decide)
  have hin : vp_in (nI j) 10 := vp_in_nI hj (by decide)
  have kx2' := kx2 ha0 ha1
  clear kx1 kx2
  refine z_aload_n C d_RC_confirm_4 rfl rfl ?_
  refine z_callV (n := 0) (As := []) (rest := []) (r1 := 7) (mc1 := 1) (ms1 := 6) (ci := 7) (T0 := T_RC) C d_RC_confirm_5 k_642 k_639 k_641 ks_19 k_1 (by decide +kernel) rfl rfl (by first | assumption | exact zu_s) (by decide) (by decide) (Nat.le_of_ble_eq_true rfl) (by first | decide | omega) (by first | decide | omega) rfl ?_
  refine ct_RC_isEvacuating hx l6 ?_
  dsimp only [zps]
  cases ho : isOnE S.ev with
  | true =>
    rw [if_pos rfl]
    obtain ⟨i, v, hi, he, -⟩ := isOnE_last ho
    have kx3' := kx3 j i v hja hj ho hi he
    have k' := k j i v hja hj ho hi he
    clear kx3 k
    obtain ⟨⟨hm, hmT⟩, ⟨hlt, hltT⟩, hnb⟩ := r2 i v he
    refine z_if_ne 22 C d_RC_confirm_8 (by decide) (fun c8 => ?_) (fun c8 => ?_)
    · refine z_aload_n C d_RC_confirm_22 rfl rfl ?_
      refine z_aload_n C d_RC_confirm_23 rfl rfl ?_
      refine z_get (ci := 7) (T := T_RC) (N := 8) C d_RC_confirm_24 6 i_RC rfl (by decide) k_66 (fun _ q => q) hx (by rfl) ?_
      refine z_callV (n := 0) (As := []) (rest := [.ref x]) (r1 := 1) (mc1 := 0) (ms1 := 0) (ci := 0) (T0 := T_AL) C d_RC_confirm_27 k_96 k_93 k_94 k_95 k_4 (by decide +kernel) rfl rfl (by first | assumption | exact zu_s) (by decide) (by decide) (Nat.le_of_ble_eq_true rfl) (by first | decide | omega) (by first | decide | omega) rfl ?_
      refine cl_size l6 ?_
      dsimp only [zps]
      rw [List.length_map]
      refine z_iconst (v := 1) C d_RC_confirm_30 (by decide) ?_
      refine z_isub C d_RC_confirm_31 ?_
      rw [znI_pred (by omega), show S.ev.length - 1 = i from by omega]
      refine z_callV (n := 1) (As := [.int (nI i)]) (rest := []) (r1 := 4) (mc1 := 0) (ms1 := 0) (ci := 7) (T0 := T_RC) C d_RC_confirm_32 k_650 k_647 k_649 ks_20 k_1 (by decide +kernel) rfl rfl (by first | assumption | exact zu_s) (by decide) (by decide) (Nat.le_of_ble_eq_true rfl) (by first | decide | omega) (by first | decide | omega) rfl ?_
      refine ct_RC_knownEvacuation0 hx l6 he (fun y hy hye hyT => ?_)
      dsimp only [zps]
      rw [hja]
      refine z_astore_n C d_RC_confirm_35 rfl (by decide) rfl ?_
      dsimp only [List.set]
      refine z_aload_n C d_RC_confirm_36 rfl rfl ?_
      refine z_get (ci := 6) (T := T_EV) (N := 5) C d_RC_confirm_37 1 i_EV rfl (by decide) k_661 (fun _ q => q) hye (by rfl) ?_
      refine z_iload_n C d_RC_confirm_40 rfl rfl ?_
      refine z_zald C d_RC_confirm_41 hm hin ?_
      rw [nI_clamp (by omega)]
      refine z_if_ne 56 C d_RC_confirm_42 (by decide) (fun c42 => ?_) (fun c42 => ?_)
      · have k2 := k' c42
        refine z_aload_n C d_RC_confirm_56 rfl rfl ?_
        refine z_get (ci := 6) (T := T_EV) (N := 5) C d_RC_confirm_57 1 i_EV rfl (by decide) k_661 (fun _ q => q) hye (by rfl) ?_
        refine z_iload_n C d_RC_confirm_60 rfl rfl ?_
        refine z_iconst (v := 0) C d_RC_confirm_61 (by decide) ?_
        refine z_zast C d_RC_confirm_62 hm hin (by first | rfl | assumption) ?_
        rw [nI_clamp (by omega)]
        have nym : y ≠ v.mu := tne hyT hmT (by decide)
        have nyl : y ≠ v.lt := tne hyT hltT (by decide)
        have nml : v.lt ≠ v.mu := tne hltT hmT (by decide)
        have hye2 : zu h v.mu (ba g 10 (upd v.fm j 0)) y = some (evE v) := (zu_n nym).trans hye
        refine z_aload_n C d_RC_confirm_63 rfl rfl ?_
        refine z_dup C d_RC_confirm_64 rfl ?_
        refine z_get (ci := 6) (T := T_EV) (N := 5) C d_RC_confirm_65 3 i_EV rfl (by decide) k_665 (fun _ q => q) hye2 (by rfl) ?_
        refine z_iconst (v := 1) C d_RC_confirm_68 (by decide) ?_
        refine z_isub C d_RC_confirm_69 ?_
        refine z_put (ci := 6) (T := T_EV) (N := 5) (ty := .int) C d_RC_confirm_70 3 ty_EV t_EV n_EV i_EV rfl (by decide) k_665 (fun _ q => q) rfl (by decide +kernel) (by rfl) (by rfl) hye2 (by exact Nat.le_of_ble_eq_true rfl) ?_
        dsimp only [List.set]
        refine z_aload_n C d_RC_confirm_73 rfl rfl ?_
        refine z_get (ci := 6) (T := T_EV) (N := 5) C d_RC_confirm_74 3 i_EV rfl (by decide) k_665 (fun _ q => q) zu_s (by rfl) ?_
        refine z_iret C d_RC_confirm_77 ?_
        have hT : ∀ q, h q ≠ none → T q = T q := fun _ _ => rfl
        have kp : ∀ (kd : Nat), kd ≠ 6 → kd ≠ 8 → ∀ q, h q ≠ none → (T q).1 = kd → zu (zu h v.mu (ba g 10 (upd v.fm j 0))) y (evE (v.1, (v.mu, v.lt, upd v.fm j 0, v.fl), (v.2.2.1 - 1, v.2.2.2))) q = h q := fun kd h7 h8 q hq e => by rw [zu_n (fun z => h7 (by rw [← e, z, hyT])), zu_n (fun z => h8 (by rw [← e, z, hmT]))]
        have l6' := (l6.put (b := v.mu) (e := ba g 10 (upd v.fm j 0)) (tk hmT (by decide))).set (e := evE (v.1, (v.mu, v.lt, upd v.fm j 0, v.fl), (v.2.2.1 - 1, v.2.2.2))) hy
        rw [← List.map_set] at l6'
        have r2' : evOK g T (zu (zu h v.mu (ba g 10 (upd v.fm j 0))) y (evE (v.1, (v.mu, v.lt, upd v.fm j 0, v.fl), (v.2.2.1 - 1, v.2.2.2)))) (S.ev.set i (v.1, (v.mu, v.lt, upd v.fm j 0, v.fl), (v.2.2.1 - 1, v.2.2.2))) := r2.upd (v1 := (v.1, (v.mu, v.lt, upd v.fm j 0, v.fl), (v.2.2.1 - 1, v.2.2.2))) he rfl rfl ((zu_n nym.symm).trans zu_s) ((zu_n nyl.symm).trans ((zu_n nml).trans hlt)) (fun z => by
            show vp_nar .boolean (upd v.fm j 0 z) = upd v.fm j 0 z
            unfold upd
            split
            · rfl
            · exact hnb z) (fun q hq h8 h9 hk => by rw [zu_n (fun z => by rw [z, hyT] at hk; exact absurd hk (by decide : ¬ ((6 : Nat) = 8 ∨ (6 : Nat) = 9))), zu_n (fun z => h8 (by rw [z]; exact hmT))])
        exact k2 _ ⟨gu, lp, lm, lr, ld, ly, le, LP, LM, LR, LD, LY, LE, ⟨(kp 10 (by decide) (by decide) x (zne hx) (by rw [hxT])).trans hx, (hT x (zne hx)).trans hxT⟩, ⟨(kp 10 (by decide) (by decide) gu (zne hgu) (by rw [hguT])).trans hgu, (hT gu (zne hgu)).trans hguT⟩, l1.keep hT (kp 1 (by decide) (by decide)), l2.keep hT (kp 2 (by decide) (by decide)), l3.keep hT (kp 3 (by decide) (by decide)), l4.keep hT (kp 4 (by decide) (by decide)), l5.keep hT (kp 5 (by decide) (by decide)), l6', r1.keep hT (kp 7 (by decide) (by decide)), r2', b1, b2, b3, b4, b5, zlen2 b6⟩ ((Ext.put (tk hmT (by decide))).trans (Ext.put (tk hyT (by decide))))
      · refine z_throwSW (text := "the sector need not confirm, or did") (cls := "java/lang/IllegalStateException") C ht d_RC_confirm_45 d_RC_confirm_48 d_RC_confirm_49 d_RC_confirm_52 d_RC_confirm_55 (by decide +kernel) k_292 k_18 (by decide +kernel) (tho_ISE C) thg_ISE (by decide) (Nat.le_of_ble_eq_true rfl) (by first | decide | omega) (by first | decide | omega) ?_
        exact kx3' c42
    · exact absurd c8 (by decide)
  | false =>
    rw [if_neg (by decide)]
    refine z_if_ne 22 C d_RC_confirm_8 (by decide) (fun c8 => ?_) (fun c8 => ?_)
    · exact absurd rfl c8
    · refine z_throwSW (text := "no evacuation is on") (cls := "java/lang/IllegalStateException") C ht d_RC_confirm_11 d_RC_confirm_14 d_RC_confirm_15 d_RC_confirm_18 d_RC_confirm_21 (by decide +kernel) k_292 k_18 (by decide +kernel) (tho_ISE C) thg_ISE (by decide) (Nat.le_of_ble_eq_true rfl) (by first | decide | omega) (by first | decide | omega) ?_
      exact kx2' ho
set_option maxRecDepth 100000 in
theorem ct_RC_tick {a : Int32} (hR : RepC g T h x S) (kx1 : (a < 1 ∨ 5000 < a ∨ 99999 - S.1 < a) → PX xIOB h)
    (k1 : ¬ a < 1 → a ≤ 5000 → a ≤ 99999 - S.1 → isOnE S.ev = false → ∀ (h1 : Hp), RepC g T h1 x (S.1 + a, S.2) → Ext T h T h1 → PR (some (.int 0)) h1)
    (k2 : ¬ a < 1 → a ≤ 5000 → a ≤ 99999 - S.1 → isOnE S.ev = true → ∀ (i : Nat) (v : EvT), S.ev.length = i + 1 → S.ev[i]? = some v → (¬ v.2.2.2 = 0 ∨ S.1 + a ≤ v.1) → ∀ (h1 : Hp), RepC g T h1 x (S.1 + a, S.2) → Ext T h T h1 → PR (some (.int 0)) h1)
    (k3 : ¬ a < 1 → a ≤ 5000 → a ≤ 99999 - S.1 → isOnE S.ev = true → ∀ (i : Nat) (v : EvT), S.ev.length = i + 1 → S.ev[i]? = some v → v.2.2.2 = 0 → v.1 < S.1 + a → ∀ (h1 : Hp), RepC g T h1 x (S.1 + a, S.2.1, S.2.2.1, S.2.2.2.1, S.2.2.2.2.1, S.2.2.2.2.2.1, S.2.2.2.2.2.2.1, S.2.2.2.2.2.2.2.set i (v.1, (v.mu, v.lt, v.fm, fun i => if i < 10 then v.fm i else v.fl i), (v.2.2.1, 1))) → Ext T h T h1 → PR (some (.int v.2.2.1)) h1) : Ct g y_RC_tick w_RC_tick 8 2 12 [.ref x, .int a] h PR PX := by
  obtain ⟨gu, lp, lm, lr, ld, ly, le, LP, LM, LR, LD, LY, LE, ⟨hx, hxT⟩, ⟨hgu, hguT⟩, l1, l2, l3, l4, l5, l6, r1, r2, b1, b2, b3, b4, b5, b6⟩ := hR
  refine Ct_intro (cc := c_RC_tick) (nL := 2) (ret := (some FieldType.int)) (ls := [some (.ref x), some (.int a)]) (by decide) (Nat.le_of_ble_eq_true rfl) rfl rfl ?_
  intro p e R s m args below meth c C ht hname
  refine z_iload_n C d_RC_tick_0 rfl rfl ?_
  refine z_iconst (v := 1) C d_RC_tick_1 (by decide) ?_
  refine z_icmp_lt 24 C d_RC_tick_2 (by decide) (fun c2 => ?_) (fun c2 => ?_)
  · refine z_throwSW (text := "1 to 5,000 seconds, up to second 99,999") (cls := "java/lang/IndexOutOfBoundsException") C ht d_RC_tick_24 d_RC_tick_27 d_RC_tick_28 d_RC_tick_31 d_RC_tick_34 (by decide +kernel) k_348 k_20 (by decide +kernel) (tho_IOB C) thg_IOB (by decide) (Nat.le_of_ble_eq_true rfl) (by first | decide | omega) (by first | decide | omega) ?_
    exact kx1 (Or.inl c2)
  · refine z_iload_n C d_RC_tick_5 rfl rfl ?_
    refine z_sipush (v := 5000) C d_RC_tick_6 (by decide) ?_
    refine z_icmp_gt 24 C d_RC_tick_9 (by decide) (fun c9 => ?_) (fun c9 => ?_)
    · refine z_throwSW (text := "1 to 5,000 seconds, up to second 99,999") (cls := "java/lang/IndexOutOfBoundsException") C ht d_RC_tick_24 d_RC_tick_27 d_RC_tick_28 d_RC_tick_31 d_RC_tick_34 (by decide +kernel) k_348 k_20 (by decide +kernel) (tho_IOB C) thg_IOB (by decide) (Nat.le_of_ble_eq_true rfl) (by first | decide | omega) (by first | decide | omega) ?_
      exact kx1 (Or.inr (Or.inl c9))
    · refine z_iload_n C d_RC_tick_12 rfl rfl ?_
      refine z_ldcw C d_RC_tick_13 k_712 ?_
      refine z_aload_n C d_RC_tick_16 rfl rfl ?_
      refine z_get (ci := 7) (T := T_RC) (N := 8) C d_RC_tick_17 7 i_RC rfl (by decide) k_67 (fun _ q => q) hx (by rfl) ?_
      refine z_isub C d_RC_tick_20 ?_
      refine z_icmp_le 35 C d_RC_tick_21 (by decide) (fun c21 => ?_) (fun c21 => ?_)
      · have k1' := k1 c2 (Int32.not_lt.mp c9) c21
        have k2' := k2 c2 (Int32.not_lt.mp c9) c21
        have k3' := k3 c2 (Int32.not_lt.mp c9) c21
        clear k1 k2 k3 kx1
        refine z_aload_n C d_RC_tick_35 rfl rfl ?_
        refine z_dup C d_RC_tick_36 rfl ?_
        refine z_get (ci := 7) (T := T_RC) (N := 8) C d_RC_tick_37 7 i_RC rfl (by decide) k_67 (fun _ q => q) hx (by rfl) ?_
        refine z_iload_n C d_RC_tick_40 rfl rfl ?_
        refine z_iadd C d_RC_tick_41 ?_
        refine z_put (ci := 7) (T := T_RC) (N := 8) (ty := .int) C d_RC_tick_42 7 ty_RC t_RC n_RC i_RC rfl (by decide) k_67 (fun _ q => q) rfl (by decide +kernel) (by rfl) (by rfl) hx (by exact Nat.le_of_ble_eq_true rfl) ?_
        dsimp only [List.set]
        have hT : ∀ q, h q ≠ none → T q = T q := fun _ _ => rfl
        have kp0 : ∀ (kd : Nat), kd ≠ 10 → ∀ q, h q ≠ none → (T q).1 = kd → zu h x (rcC gu lp lm lr ld ly le (S.sec + a)) q = h q := fun kd h8 q hq e => zu_n (fun z => h8 (by rw [← e, z, hxT]))
        have ngx : gu ≠ x := by rintro rfl; rw [hxT] at hguT; exact absurd (congrArg Prod.snd hguT) (by decide)
        have l6' := l6.keep hT (kp0 6 (by decide))
        obtain ⟨vs, hvs⟩ := l6'.obj
        have base : RepC g T (zu h x (rcC gu lp lm lr ld ly le (S.sec + a))) x (S.1 + a, S.2) := ⟨gu, lp, lm, lr, ld, ly, le, LP, LM, LR, LD, LY, LE, ⟨zu_s, hxT⟩, ⟨(zu_n ngx).trans hgu, hguT⟩, l1.keep hT (kp0 1 (by decide)), l2.keep hT (kp0 2 (by decide)), l3.keep hT (kp0 3 (by decide)), l4.keep hT (kp0 4 (by decide)), l5.keep hT (kp0 5 (by decide)), l6', r1.keep hT (kp0 7 (by decide)), r2.keep hT (kp0 8 (by decide)) (kp0 9 (by decide)), b1, b2, b3, b4, b5, b6⟩
        refine z_aload_n C d_RC_tick_45 rfl rfl ?_
        refine z_callV (n := 0) (As := []) (rest := []) (r1 := 7) (mc1 := 1) (ms1 := 6) (ci := 7) (T0 := T_RC) C d_RC_tick_46 k_642 k_639 k_641 ks_19 k_1 (by decide +kernel) rfl rfl zu_s (by decide) (by decide) (Nat.le_of_ble_eq_true rfl) (by first | decide | omega) (by first | decide | omega) rfl ?_
        refine ct_RC_isEvacuating zu_s l6' ?_
        dsimp only [zps]
        cases ho : isOnE S.ev with
        | false =>
          rw [if_neg (by decide)]
          refine z_if_ne 54 C d_RC_tick_49 (by decide) (fun c49 => ?_) (fun c49 => ?_)
          · exact absurd rfl c49
          · refine z_iconst (v := 0) C d_RC_tick_52 (by decide) ?_
            refine z_iret C d_RC_tick_53 ?_
            exact k1' ho _ base (Ext.put (tk hxT (by decide)))
        | true =>
          rw [if_pos rfl]
          obtain ⟨i, v, hi, he, -⟩ := isOnE_last ho
          have k2'' := k2' ho i v hi he
          have k3'' := k3' ho i v hi he
          clear k1' k2' k3'
          refine z_if_ne 54 C d_RC_tick_49 (by decide) (fun c49 => ?_) (fun c49 => ?_)
          · refine z_aload_n C d_RC_tick_54 rfl rfl ?_
            refine z_aload_n C d_RC_tick_55 rfl rfl ?_
            refine z_get (ci := 7) (T := T_RC) (N := 8) C d_RC_tick_56 6 i_RC rfl (by decide) k_66 (fun _ q => q) zu_s (by rfl) ?_
            refine z_callV (n := 0) (As := []) (rest := [.ref x]) (r1 := 1) (mc1 := 0) (ms1 := 0) (ci := 0) (T0 := T_AL) C d_RC_tick_59 k_96 k_93 k_94 k_95 k_4 (by decide +kernel) rfl rfl (by first | assumption | exact zu_s) (by decide) (by decide) (Nat.le_of_ble_eq_true rfl) (by first | decide | omega) (by first | decide | omega) rfl ?_
            refine cl_size l6' ?_
            dsimp only [zps]
            rw [List.length_map]
            refine z_iconst (v := 1) C d_RC_tick_62 (by decide) ?_
            refine z_isub C d_RC_tick_63 ?_
            rw [znI_pred (by omega), show S.ev.length - 1 = i from by omega]
            refine z_callV (n := 1) (As := [.int (nI i)]) (rest := []) (r1 := 4) (mc1 := 0) (ms1 := 0) (ci := 7) (T0 := T_RC) C d_RC_tick_64 k_650 k_647 k_649 ks_20 k_1 (by decide +kernel) rfl rfl zu_s (by decide) (by decide) (Nat.le_of_ble_eq_true rfl) (by first | decide | omega) (by first | decide | omega) rfl ?_
            refine ct_RC_knownEvacuation0 zu_s l6' he (fun y hy hye hyT => ?_)
            dsimp only [zps]
            refine z_aload_n C d_RC_tick_67 rfl rfl ?_
            refine z_get (ci := 7) (T := T_RC) (N := 8) C d_RC_tick_68 7 i_RC rfl (by decide) k_67 (fun _ q => q) zu_s (by rfl) ?_
            have r2' := r2.keep hT (kp0 8 (by decide)) (kp0 9 (by decide))
            obtain ⟨⟨hm, hmT⟩, ⟨hlt, hltT⟩, hnb⟩ := r2' i v he
            have nym : y ≠ v.mu := tne hyT hmT (by decide)
            have nyl : y ≠ v.lt := tne hyT hltT (by decide)
            have nml : v.mu ≠ v.lt := tne hmT hltT (by decide)
            refine z_callV (n := 1) (As := [.int (S.sec + a)]) (rest := []) (r1 := 1) (mc1 := 0) (ms1 := 0) (ci := 6) (T0 := T_EV) C d_RC_tick_71 k_717 k_714 k_715 k_716 k_24 (by decide +kernel) rfl rfl (by first | assumption | exact zu_s) (by decide) (by decide) (Nat.le_of_ble_eq_true rfl) (by first | decide | omega) (by first | decide | omega) rfl ?_
            refine ct_EV_tellLate hye hm hlt hnb nym nyl nml (fun hz => ?_) (fun hz1 hz2 => ?_)
            · dsimp only [zps]
              refine z_iret C d_RC_tick_74 ?_
              exact k2'' hz _ base (Ext.put (tk hxT (by decide)))
            · dsimp only [zps]
              refine z_iret C d_RC_tick_74 ?_
              have kp : ∀ (kd : Nat), kd ≠ 10 → kd ≠ 6 → kd ≠ 9 → ∀ q, h q ≠ none → (T q).1 = kd → zu (zu (zu h x (rcC gu lp lm lr ld ly le (S.sec + a))) y (evE (v.1, (v.mu, v.lt, v.fm, fun i => if i < 10 then v.fm i else v.fl i), (v.2.2.1, 1)))) v.lt (ba g 10 (fun i => if i < 10 then v.fm i else v.fl i)) q = h q := fun kd h6 h7 h8 q hq e => by rw [zu_n (fun z => h8 (by rw [← e, z, hltT])), zu_n (fun z => h7 (by rw [← e, z, hyT])), kp0 kd h6 q hq e]
              have l6'' := (l6'.set (e := evE (v.1, (v.mu, v.lt, v.fm, fun i => if i < 10 then v.fm i else v.fl i), (v.2.2.1, 1))) hy).put (b := v.lt) (e := ba g 10 (fun i => if i < 10 then v.fm i else v.fl i)) (tk hltT (by decide))
              rw [← List.map_set] at l6''
              have r2'' : evOK g T (zu (zu (zu h x (rcC gu lp lm lr ld ly le (S.sec + a))) y (evE (v.1, (v.mu, v.lt, v.fm, fun i => if i < 10 then v.fm i else v.fl i), (v.2.2.1, 1)))) v.lt (ba g 10 (fun i => if i < 10 then v.fm i else v.fl i))) (S.ev.set i (v.1, (v.mu, v.lt, v.fm, fun i => if i < 10 then v.fm i else v.fl i), (v.2.2.1, 1))) := r2'.upd (v1 := (v.1, (v.mu, v.lt, v.fm, fun i => if i < 10 then v.fm i else v.fl i), (v.2.2.1, 1))) he rfl rfl ((zu_n nml).trans ((zu_n nym.symm).trans hm)) zu_s hnb (fun q hq h8 h9 hk => by rw [zu_n (fun z => h9 (by rw [z]; exact hltT)), zu_n (fun z => by rw [z, hyT] at hk; exact absurd hk (by decide : ¬ ((6 : Nat) = 8 ∨ (6 : Nat) = 9)))])
              have nxy : x ≠ y := tne hxT hyT (by decide)
              have nxl : x ≠ v.lt := tne hxT hltT (by decide)
              have ngy : gu ≠ y := tne hguT hyT (by decide)
              have ngl : gu ≠ v.lt := tne hguT hltT (by decide)
              exact k3'' hz1 hz2 _ ⟨gu, lp, lm, lr, ld, ly, le, LP, LM, LR, LD, LY, LE, ⟨(zu_n nxl).trans ((zu_n nxy).trans zu_s), hxT⟩, ⟨(zu_n ngl).trans ((zu_n ngy).trans ((zu_n ngx).trans hgu)), hguT⟩, l1.keep hT (kp 1 (by decide) (by decide) (by decide)), l2.keep hT (kp 2 (by decide) (by decide) (by decide)), l3.keep hT (kp 3 (by decide) (by decide) (by decide)), l4.keep hT (kp 4 (by decide) (by decide) (by decide)), l5.keep hT (kp 5 (by decide) (by decide) (by decide)), l6'', r1.keep hT (kp 7 (by decide) (by decide) (by decide)), r2'', b1, b2, b3, b4, b5, zlen2 b6⟩ (((Ext.put (tk hxT (by decide))).trans (Ext.put (tk hyT (by decide)))).trans (Ext.put (tk hltT (by decide))))
          · exact absurd c49 (by decide)
      · refine z_throwSW (text := "1 to 5,000 seconds, up to second 99,999") (cls := "java/lang/IndexOutOfBoundsException") C ht d_RC_tick_24 d_RC_tick_27 d_RC_tick_28 d_RC_tick_31 d_RC_tick_34 (by decide +kernel) k_348 k_20 (by decide +kernel) (tho_IOB C) thg_IOB (by decide) (Nat.le_of_ble_eq_true rfl) (by first | decide | omega) (by first | decide | omega) ?_
        exact kx1 (Or.inr (Or.inr (Int32.not_le.mp c21)))
end RV
