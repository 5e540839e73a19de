/-! THE CLASS'S WHOLE STATE ON THE HEAP -/
abbrev CS : Type := Int32 × (Nat → Int32) × List PeT × List MvT × List RoT × List DcT × List MdT × List EvT
abbrev CS.sec (S : CS) : Int32 := S.1
abbrev CS.gf (S : CS) : Nat → Int32 := S.2.1
abbrev CS.ps (S : CS) : List PeT := S.2.2.1
abbrev CS.mv (S : CS) : List MvT := S.2.2.2.1
abbrev CS.ro (S : CS) : List RoT := S.2.2.2.2.1
abbrev CS.db (S : CS) : List DcT := S.2.2.2.2.2.1
abbrev CS.md (S : CS) : List MdT := S.2.2.2.2.2.2.1
abbrev CS.ev (S : CS) : List EvT := S.2.2.2.2.2.2.2
abbrev EvT.mu (v : EvT) : Nat := v.2.1.1
abbrev EvT.lt (v : EvT) : Nat := v.2.1.2.1
abbrev EvT.fm (v : EvT) : Nat → Int32 := v.2.1.2.2.1
abbrev EvT.fl (v : EvT) : Nat → Int32 := v.2.1.2.2.2
def roOK (g : zG) (T : Tg) (h : Hp) (l : List RoT) : Prop := ∀ (i : Nat) (r : RoT), l[i]? = some r → h r.ct = some (ia g r.n r.f) ∧ T r.ct = (7, i) ∧ r.n ≤ 60
def evOK (g : zG) (T : Tg) (h : Hp) (l : List EvT) : Prop := ∀ (i : Nat) (v : EvT), l[i]? = some v → (h v.mu = some (ba g 10 v.fm) ∧ T v.mu = (8, i)) ∧ (h v.lt = some (ba g 10 v.fl) ∧ T v.lt = (9, i)) ∧ ∀ j, vp_nar .boolean (v.fm j) = v.fm j
theorem roOK.keep {g : zG} {T T1 : Tg} {h h1 : Hp} {l : List RoT} (H : roOK g T h l) (hT : ∀ q, h q ≠ none → T1 q = T q) (hh : ∀ q, h q ≠ none → (T q).1 = 7 → h1 q = h q) : roOK g T1 h1 l := by
  intro i r hr
  obtain ⟨a, b, d⟩ := H i r hr
  have hn : h r.ct ≠ none := by rw [a]; exact fun z => by cases z
  exact ⟨by rw [hh _ hn (by rw [b])]; exact a, by rw [hT _ hn]; exact b, d⟩
theorem evOK.keep {g : zG} {T T1 : Tg} {h h1 : Hp} {l : List EvT} (H : evOK g T h l) (hT : ∀ q, h q ≠ none → T1 q = T q) (h8 : ∀ q, h q ≠ none → (T q).1 = 8 → h1 q = h q) (h9 : ∀ q, h q ≠ none → (T q).1 = 9 → h1 q = h q) : evOK g T1 h1 l := by
  intro i r hr
  obtain ⟨⟨a1, a2⟩, ⟨b1, b2⟩, d⟩ := H i r hr
  have hn : h r.mu ≠ none := by rw [a1]; exact fun z => by cases z
  have hn2 : h r.lt ≠ none := by rw [b1]; exact fun z => by cases z
  exact ⟨⟨by rw [h8 _ hn (by rw [a2])]; exact a1, by rw [hT _ hn]; exact a2⟩, ⟨by rw [h9 _ hn2 (by rw [b2])]; exact b1, by rw [hT _ hn2]; exact b2⟩, d⟩
def RepA (g : zG) (T : Tg) (h : Hp) (x gu lp lm lr ld ly le : Nat) (LP LM LR LD LY LE : List Nat) (S : CS) : Prop :=
  (h x = some (rcC gu lp lm lr ld ly le S.sec) ∧ T x = (10, 0)) ∧ (h gu = some (ia g 10 S.gf) ∧ T gu = (10, 1)) ∧
  zLS g T h 1 lp LP (S.ps.map peE) ∧ zLS g T h 2 lm LM (S.mv.map mvE) ∧ zLS g T h 3 lr LR (S.ro.map roE) ∧ zLS g T h 4 ld LD (S.db.map dcE) ∧ zLS g T h 5 ly LY (S.md.map mdE) ∧ zLS g T h 6 le LE (S.ev.map evE) ∧
  roOK g T h S.ro ∧ evOK g T h S.ev ∧ S.ps.length ≤ 60 ∧ S.mv.length ≤ 300 ∧ S.ro.length ≤ 40 ∧ S.db.length ≤ 100 ∧ S.md.length ≤ 30 ∧ S.ev.length ≤ 20
def RepC (g : zG) (T : Tg) (h : Hp) (x : Nat) (S : CS) : Prop := ∃ (gu lp lm lr ld ly le : Nat) (LP LM LR LD LY LE : List Nat), RepA g T h x gu lp lm lr ld ly le LP LM LR LD LY LE S
theorem zsm {e : va_E} : (some e : Option va_E) ≠ none := fun z => by cases z
theorem zne {h : Hp} {q : Nat} {e : va_E} (hq : h q = some e) : h q ≠ none := by rw [hq]; exact zsm
theorem zlen1 {α : Type} {l : List α} {e : α} {n : Nat} (h : l.length < n) : (l ++ [e]).length ≤ n := by
  rw [List.length_append]
  exact h
theorem zlen2 {α : Type} {l : List α} {i : Nat} {e : α} {n : Nat} (h : l.length ≤ n) : (l.set i e).length ≤ n := by
  rw [List.length_set]
  exact h
section RP
variable {g : zG} {T : Tg} {h : Hp} {PR : Option Value → Hp → Prop} {PX : String → Hp → Prop} {x : Nat} {S : CS}
set_option maxRecDepth 100000 in
theorem ct_RC_person (hR : RepC g T h x S) (kx : 60 ≤ S.ps.length → PX xUOE h) (k : S.ps.length < 60 → ∀ (h1 : Hp) (T1 : Tg), RepC g T1 h1 x (S.1, S.2.1, S.2.2.1 ++ [(-1, 0, -1)], S.2.2.2) → Ext T h T1 h1 → PR (some (.int (nI S.ps.length))) h1) : Ct g y_RC_person w_RC_person 8 2 453 [.ref x] h PR PX := by
  obtain ⟨gu, lp, lm, lr, ld, ly, le, LP, LM, LR, LD, LY, LE, ⟨hx, hxT⟩, ⟨hgu, hguT⟩, l1, l2, l3, l4, l5, l6, r1, r2, b1, b2, b3, b4, b5, b6⟩ := hR
  obtain ⟨vs, hvs⟩ := l1.obj
  refine Ct_intro (cc := c_RC_person) (nL := 1) (ret := (some FieldType.int)) (ls := [some (.ref x)]) (by decide) (Nat.le_of_ble_eq_true rfl) rfl rfl ?_
  intro p e R s m args below meth c C ht hname
  refine z_aload_n C d_RC_person_0 rfl rfl ?_
  refine z_get (ci := 7) (T := T_RC) (N := 8) C d_RC_person_1 1 i_RC rfl (by decide) k_61 (fun _ q => q) (by first | assumption | exact zu_s) (by rfl) ?_
  refine z_callV (n := 0) (As := []) (rest := []) (r1 := 1) (mc1 := 0) (ms1 := 0) (ci := 0) (T0 := T_AL) C d_RC_person_4 k_96 k_93 k_94 k_95 k_4 (by decide +kernel) rfl rfl (by first | assumption | exact zu_s) (by decide) (by decide) (Nat.le_of_ble_eq_true rfl) (by first | decide | omega) (by first | decide | omega) rfl ?_
  refine cl_size l1 ?_
  dsimp only [zps]
  rw [List.length_map]
  refine z_bipush (v := 60) C d_RC_person_7 (by decide) ?_
  refine z_icmp_lt 22 C d_RC_person_9 (by decide) (fun c9 => ?_) (fun c9 => ?_)
  · have hl : S.ps.length < 60 := by
      rcases Nat.lt_or_ge S.ps.length 60 with q | q
      · exact q
      · exact absurd c9 (by rw [show (60 : Int32) = nI 60 from rfl]; exact nI_nlt q (by omega))
    refine z_aload_n C d_RC_person_22 rfl rfl ?_
    refine z_get (ci := 7) (T := T_RC) (N := 8) C d_RC_person_23 1 i_RC rfl (by decide) k_61 (fun _ q => q) (by first | assumption | exact zu_s) (by rfl) ?_
    refine z_new (ci := 1) (fs := [.int 0, .int 0, .int 0]) (T := T_PE) (N := 3) C d_RC_person_26 ty_PE t_PE i_PE rfl k_166 k_167 k_10 (fun j hj => by rcases (show j = 0 ∨ j = 1 ∨ j = 2 by omega) with rfl | rfl | rfl <;> rfl) (by first | decide | omega) (by first | decide | omega) (fun q26 hq26 => ?_)
    refine z_dup C d_RC_person_29 rfl ?_
    have key : ∀ q, h q ≠ none → q ≠ q26 := fun q hq z => hq (z ▸ hq26)
    refine z_callI (n := 0) (As := []) (rest := [.ref q26, .ref lp]) (r1 := 1) (mc1 := 0) (ms1 := 0) C d_RC_person_30 k_170 k_168 k_169 k_10 rfl (by decide +kernel) rfl (by decide) (by decide) (Nat.le_of_ble_eq_true rfl) (by first | decide | omega) (by first | decide | omega) rfl ?_
    refine ct_PE_init zu_s ?_
    dsimp only [zps]
    rw [zu_zu]
    have hL1 : zLS g (tg T q26 (1, 2 + S.ps.length)) (zu h q26 (peC (-1) 0 (-1))) 1 lp LP (S.ps.map peE) := l1.new hq26
    obtain ⟨vs1, hvs1⟩ := hL1.obj
    refine z_callV (n := 1) (As := [.ref q26]) (rest := []) (r1 := 7) (mc1 := 1) (ms1 := 450) (ci := 0) (T0 := T_AL) C d_RC_person_33 k_188 k_185 k_186 k_187 k_4 (by decide +kernel) rfl rfl (by first | assumption | exact zu_s) (by decide) (by decide) (Nat.le_of_ble_eq_true rfl) (by first | decide | omega) (by first | decide | omega) rfl ?_
    refine cl_add (ci := 1) (q9 := ("RollCalls$Person", T_PE, 3)) (vs := [.int (-1), .int 0, .int (-1)]) hL1 (by rw [List.length_map]; omega) rfl (by decide) (by decide +kernel) (fun e he => ?_) zu_s (by rw [tg_s, List.length_map]) (fun h1 T1 c1 c2 c3 c4 => ?_)
    · obtain ⟨e1, -, rfl⟩ := List.mem_map.mp he
      exact ⟨_, rfl⟩
    · dsimp only [zps]
      have nn : ∀ q, h q ≠ none → zu h q26 (peC (-1) 0 (-1)) q ≠ none := fun q hq => by rw [zu_n (key q hq)]; exact hq
      have hT : ∀ q, h q ≠ none → T1 q = T q := fun q hq => by rw [c2 q (nn q hq), tg_n (key q hq)]
      have hk : ∀ q, h q ≠ none → (T q).1 ≠ 1 → h1 q = h q := fun q hq hk => by rw [c3 q (nn q hq) (by rw [tg_n (key q hq)]; exact fun z => hk (by rw [z])) (by rw [tg_n (key q hq)]; exact fun z => hk (by rw [z])), zu_n (key q hq)]
      have ex : h1 x = some (rcC gu lp lm lr ld ly le S.sec) := by rw [hk x (zne hx) (tk hxT (by decide))]; exact hx
      have l1' : zLS g T1 h1 1 lp (LP ++ [q26]) ((S.ps ++ [(-1, 0, -1)]).map peE) := by rw [List.map_append]; exact c1
      obtain ⟨vs2, hvs2⟩ := l1'.obj
      refine z_pop C d_RC_person_36 rfl ?_
      refine z_aload_n C d_RC_person_37 rfl rfl ?_
      refine z_get (ci := 7) (T := T_RC) (N := 8) C d_RC_person_38 1 i_RC rfl (by decide) k_61 (fun _ q => q) (by first | assumption | exact zu_s) (by rfl) ?_
      refine z_callV (n := 0) (As := []) (rest := []) (r1 := 1) (mc1 := 0) (ms1 := 0) (ci := 0) (T0 := T_AL) C d_RC_person_41 k_96 k_93 k_94 k_95 k_4 (by decide +kernel) rfl rfl (by first | assumption | exact zu_s) (by decide) (by decide) (Nat.le_of_ble_eq_true rfl) (by first | decide | omega) (by first | decide | omega) rfl ?_
      refine cl_size l1' ?_
      dsimp only [zps]
      rw [List.length_map, List.length_append]
      refine z_iconst (v := 1) C d_RC_person_44 (by decide) ?_
      refine z_isub C d_RC_person_45 ?_
      rw [znI_pred (by simp)]
      refine z_iret C d_RC_person_46 ?_
      have e9 : S.ps.length + [((-1, 0, -1) : PeT)].length - 1 = S.ps.length := by simp
      rw [e9]
      have kp : ∀ (kd : Nat), kd ≠ 1 → ∀ q, h q ≠ none → (T q).1 = kd → h1 q = h q := fun kd hkd q hq e => hk q hq (by rw [e]; exact hkd)
      refine k hl h1 T1 ⟨gu, lp, lm, lr, ld, ly, le, _, LM, LR, LD, LY, LE, ⟨ex, by rw [hT x (zne hx)]; exact hxT⟩, ⟨by rw [hk gu (zne hgu) (tk hguT (by decide))]; exact hgu, by rw [hT gu (zne hgu)]; exact hguT⟩, l1', l2.keep hT (kp 2 (by decide)), l3.keep hT (kp 3 (by decide)), l4.keep hT (kp 4 (by decide)), l5.keep hT (kp 5 (by decide)), l6.keep hT (kp 6 (by decide)), r1.keep hT (kp 7 (by decide)), r2.keep hT (kp 8 (by decide)) (kp 9 (by decide)), zlen1 hl, b2, b3, b4, b5, b6⟩ ⟨hT, fun q hq h0 => hk q hq (by rw [h0]; decide), fun q hq => c4 q (nn q hq)⟩
  · refine z_throwS (text := "no room for a person") (cls := "java/lang/UnsupportedOperationException") C ht d_RC_person_12 d_RC_person_15 d_RC_person_16 d_RC_person_18 d_RC_person_21 (by decide +kernel) k_97 k_9 (by decide +kernel) (tho_UOE C) thg_UOE (by decide) (Nat.le_of_ble_eq_true rfl) (by first | decide | omega) (by first | decide | omega) ?_
    refine kx ?_
    rcases Nat.lt_or_ge S.ps.length 60 with q | q
    · exact absurd (by rw [show (60 : Int32) = nI 60 from rfl]; exact nI_lt q (by omega)) c9
    · exact q
set_option maxRecDepth 100000 in
theorem ct_RC_enter {a b : Int32} (hR : RepC g T h x S) (kx1 : (a < 0 ∨ nI S.ps.length ≤ a) ∨ (b < 0 ∨ 10 ≤ b) → PX xIAE h) (kx2 : ∀ i e, a = nI i → S.ps[i]? = some e → ¬ b < 0 → b < 10 → e.1 = b → PX xISE h) (kx3 : ∀ i e, a = nI i → S.ps[i]? = some e → ¬ b < 0 → b < 10 → ¬ e.1 = b → 300 ≤ S.mv.length → PX xUOE h)
    (k : ∀ i e, a = nI i → S.ps[i]? = some e → ¬ b < 0 → b < 10 → ¬ e.1 = b → S.mv.length < 300 → ∀ (h1 : Hp) (T1 : Tg), RepC g T1 h1 x (S.1, S.2.1, S.2.2.1.set i (b, e.2.1, e.2.2), S.2.2.2.1 ++ [(a, b, S.1)], S.2.2.2.2) → Ext T h T1 h1 → PR none h1) : Ct g y_RC_enter w_RC_enter 9 5 500 [.ref x, .int a, .int b] h PR PX := by
  obtain ⟨gu, lp, lm, lr, ld, ly, le, LP, LM, LR, LD, LY, LE, ⟨hx, hxT⟩, ⟨hgu, hguT⟩, l1, l2, l3, l4, l5, l6, r1, r2, b1, b2, b3, b4, b5, b6⟩ := hR
  refine Ct_intro (cc := c_RC_enter) (nL := 4) (ret := none) (ls := [some (.ref x), some (.int a), some (.int b), none]) (by decide) (Nat.le_of_ble_eq_true rfl) rfl rfl ?_
  intro p e R s m args below meth c C ht hname
  refine z_aload_n C d_RC_enter_0 rfl rfl ?_
  refine z_iload_n C d_RC_enter_1 rfl rfl ?_
  refine z_callV (n := 1) (As := [.int a]) (rest := []) (r1 := 6) (mc1 := 1) (ms1 := 6) (ci := 7) (T0 := T_RC) C d_RC_enter_2 k_257 k_254 k_256 ks_4 k_1 (by decide +kernel) rfl rfl (by first | assumption | exact zu_s) (by decide) (by decide) (Nat.le_of_ble_eq_true rfl) (by first | decide | omega) (by first | decide | omega) rfl ?_
  refine ct_RC_knownPerson hx l1 (fun z => zx_out C ht (kx1 (Or.inl z))) (fun i y e1 hi he hy hye hyT => ?_)
  dsimp only [zps]
  refine z_astore_n C d_RC_enter_5 rfl (by decide) rfl ?_
  dsimp only [List.set]
  refine z_iload_n C d_RC_enter_6 rfl rfl ?_
  refine z_callS (n := 1) (As := [.int b]) (rest := []) (r1 := 6) (mc1 := 1) (ms1 := 6) C d_RC_enter_7 k_290 k_288 k_289 k_1 (by decide +kernel) rfl (by decide) (by decide) (Nat.le_of_ble_eq_true rfl) (by first | decide | omega) (by first | decide | omega) rfl ?_
  refine ct_RC_checkSector (fun z => zx_out C ht (kx1 (Or.inr z))) (fun hb0 hb1 => ?_)
  dsimp only [zps]
  refine z_aload_n C d_RC_enter_10 rfl rfl ?_
  refine z_get (ci := 1) (T := T_PE) (N := 3) C d_RC_enter_11 0 i_PE rfl (by decide) k_173 (fun _ q => q) hye (by rfl) ?_
  refine z_iload_n C d_RC_enter_14 rfl rfl ?_
  refine z_icmp_ne 28 C d_RC_enter_15 (by decide) (fun c15 => ?_) (fun c15 => ?_)
  · refine z_aload_n C d_RC_enter_28 rfl rfl ?_
    refine z_iload_n C d_RC_enter_29 rfl rfl ?_
    refine z_iload_n C d_RC_enter_30 rfl rfl ?_
    refine z_callV (n := 2) (As := [.int a, .int b]) (rest := []) (r1 := 8) (mc1 := 2) (ms1 := 453) (ci := 7) (T0 := T_RC) C d_RC_enter_31 k_311 k_308 k_310 ks_5 k_1 (by decide +kernel) rfl rfl (by first | assumption | exact zu_s) (by decide) (by decide) (Nat.le_of_ble_eq_true rfl) (by first | decide | omega) (by first | decide | omega) rfl ?_
    refine ct_RC_addMove hx l2 (fun z => zx_out C ht (kx3 i e1 hi he hb0 hb1 c15 z)) (fun hl h1 T1 y2 c1 c2 c3 c4 => ?_)
    dsimp only [zps]
    have hyn := zne hye
    have ey : h1 y = some (peE e1) := by rw [c3 y hyn (tk hyT (by decide))]; exact hye
    have l1' : zLS g T1 h1 1 lp LP (S.ps.map peE) := l1.keep c2 (fun q hq e => c3 q hq (by rw [e]; decide))
    have eyT : T1 y = (1, 2 + i) := by rw [c2 y hyn]; exact hyT
    refine z_aload_n C d_RC_enter_34 rfl rfl ?_
    refine z_iload_n C d_RC_enter_35 rfl rfl ?_
    refine z_put (ci := 1) (T := T_PE) (N := 3) (ty := .int) C d_RC_enter_36 0 ty_PE t_PE n_PE i_PE rfl (by decide) k_173 (fun _ q => q) rfl (by decide +kernel) (by rfl) (by rfl) ey (by exact Nat.le_of_ble_eq_true rfl) ?_
    dsimp only [List.set]
    refine z_vret C d_RC_enter_39 ?_
    have l1'' := l1'.set (e := peE (b, e1.2.1, e1.2.2)) hy
    rw [← List.map_set] at l1''
    have hT : ∀ q, h q ≠ none → T1 q = T q := c2
    have kp : ∀ (kd : Nat), kd ≠ 1 → kd ≠ 2 → ∀ q, h q ≠ none → (T q).1 = kd → zu h1 y (peE (b, e1.2.1, e1.2.2)) q = h q := fun kd h8 h9 q hq e => by rw [zu_n (fun z => h8 (by rw [← e, z, hyT])), c3 q hq (by rw [e]; exact h9)]
    have l2' : zLS g T1 (zu h1 y (peE (b, e1.2.1, e1.2.2))) 2 lm (LM ++ [y2]) ((S.mv ++ [(a, b, S.1)]).map mvE) := c1.put (tk eyT (by decide))
    refine k i e1 hi he hb0 hb1 c15 hl _ T1 ⟨gu, lp, lm, lr, ld, ly, le, LP, _, LR, LD, LY, LE, ⟨by rw [kp 10 (by decide) (by decide) x (zne hx) (by rw [hxT])]; exact hx, by rw [hT x (zne hx)]; exact hxT⟩, ⟨by rw [kp 10 (by decide) (by decide) gu (zne hgu) (by rw [hguT])]; exact hgu, by rw [hT gu (zne hgu)]; exact hguT⟩, l1'', l2', l3.keep hT (kp 3 (by decide) (by decide)), l4.keep hT (kp 4 (by decide) (by decide)), l5.keep hT (kp 5 (by decide) (by decide)), l6.keep hT (kp 6 (by decide) (by decide)), r1.keep hT (kp 7 (by decide) (by decide)), r2.keep hT (kp 8 (by decide) (by decide)) (kp 9 (by decide) (by decide)), zlen2 b1, zlen1 hl, b3, b4, b5, b6⟩ ⟨hT, fun q hq h0 => kp 0 (by decide) (by decide) q hq h0, fun q hq => ?_⟩
    by_cases hqy : q = y
    · rw [hqy, zu_s]; exact zsm
    · rw [zu_n hqy]; exact c4 q hq
  · refine z_throwS (text := "the person is in that sector") (cls := "java/lang/IllegalStateException") C ht d_RC_enter_18 d_RC_enter_21 d_RC_enter_22 d_RC_enter_24 d_RC_enter_27 (by decide +kernel) k_292 k_18 (by decide +kernel) (tho_ISE C) thg_ISE (by decide) (Nat.le_of_ble_eq_true rfl) (by first | decide | omega) (by first | decide | omega) ?_
    exact kx2 i e1 hi he hb0 hb1 c15
end RP
