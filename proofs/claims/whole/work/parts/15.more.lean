/-! open and missing persons; the helpers that write -/
def opB (r : RoT) (i : Nat) (e : PeT) : Bool := cof r.n r.f (nI i) == -1 && !decide (r.1.1 < e.2.1)
def opC (r : RoT) : Nat → List PeT → Nat
  | _, [] => 0
  | i, e :: l => (if opB r i e = true then 1 else 0) + opC r (i + 1) l
def msB (r : RoT) (i : Nat) (e : PeT) : Bool := opB r i e && decide (e.2.2 ≤ r.1.1)
section RJ
variable {g : zG} {T : Tg} {h : Hp} {PR : Option Value → Hp → Prop} {PX : String → Hp → Prop} {x gu lp lm lr ld ly le : Nat} {sec : Int32} {LP LM LR LD LY LE : List Nat}
set_option maxRecDepth 100000 in
theorem ct_RC_knownPerson0 {l : List PeT} {j : Nat} {e0 : PeT} (hx : h x = some (rcC gu lp lm lr ld ly le sec)) (hL : zLS g T h 1 lp LP (l.map peE)) (he : l[j]? = some e0) (k : ∀ (y : Nat), LP[j]? = some y → h y = some (peE e0) → T y = (1, 2 + j) → PR (some (.ref y)) h) : Ct g y_RC_knownPerson w_RC_knownPerson 4 0 0 [.ref x, .int (nI j)] h PR PX := by
  have hlt := hL.lt
  rw [List.length_map] at hlt
  have hj := (List.getElem?_eq_some_iff.mp he).1
  obtain ⟨vs, hvs⟩ := hL.obj
  refine Ct_intro (cc := c_RC_knownPerson) (nL := 2) (ret := (some (FieldType.object "RollCalls$Person"))) (ls := [some (.ref x), some (.int (nI j))]) (by decide) (Nat.le_of_ble_eq_true rfl) rfl rfl ?_
  intro p e R s m args below meth c C ht hname
  refine z_iload_n C d_RC_knownPerson_0 rfl rfl ?_
  refine z_if_lt 15 C d_RC_knownPerson_1 (by decide) (fun c1 => ?_) (fun c1 => ?_)
  · exact absurd c1 (nI_pos (by omega))
  · refine z_iload_n C d_RC_knownPerson_4 rfl rfl ?_
    refine z_aload_n C d_RC_knownPerson_5 rfl rfl ?_
    refine z_get (ci := 7) (T := T_RC) (N := 8) C d_RC_knownPerson_6 1 i_RC rfl (by decide) k_61 (fun _ q => q) (by first | assumption | exact zu_s) (by rfl) ?_
    refine z_callV (n := 0) (As := []) (rest := [.int (nI j)]) (r1 := 1) (mc1 := 0) (ms1 := 0) (ci := 0) (T0 := T_AL) C d_RC_knownPerson_9 k_96 k_93 k_94 k_95 k_4 (by decide +kernel) rfl rfl (by first | assumption | exact zu_s) (by decide) (by decide) (Nat.le_of_ble_eq_true rfl) (by first | decide | omega) (by first | decide | omega) rfl ?_
    refine cl_size hL ?_
    dsimp only [zps]
    rw [List.length_map]
    refine z_icmp_lt 25 C d_RC_knownPerson_12 (by decide) (fun c12 => ?_) (fun c12 => ?_)
    · obtain ⟨y, hy, hye, hyT⟩ := hL.atm he
      refine z_aload_n C d_RC_knownPerson_25 rfl rfl ?_
      refine z_get (ci := 7) (T := T_RC) (N := 8) C d_RC_knownPerson_26 1 i_RC rfl (by decide) k_61 (fun _ q => q) (by first | assumption | exact zu_s) (by rfl) ?_
      refine z_iload_n C d_RC_knownPerson_29 rfl rfl ?_
      refine z_callV (n := 1) (As := [.int (nI j)]) (rest := []) (r1 := 3) (mc1 := 0) (ms1 := 0) (ci := 0) (T0 := T_AL) C d_RC_knownPerson_30 k_277 k_274 k_275 k_276 k_4 (by decide +kernel) rfl rfl (by first | assumption | exact zu_s) (by decide) (by decide) (Nat.le_of_ble_eq_true rfl) (by first | decide | omega) (by first | decide | omega) rfl ?_
      refine cl_get hL hy ?_
      dsimp only [zps]
      refine z_cast (ci := 1) C d_RC_knownPerson_33 rfl k_166 hye ?_
      refine z_aret C d_RC_knownPerson_36 (by first | exact Or.inl ⟨_, rfl⟩ | exact Or.inr ⟨_, rfl⟩) ?_
      exact k y hy hye hyT
    · exact absurd (nI_lt hj (by omega)) c12
set_option maxRecDepth 100000 in
theorem ct_RC_knownEvacuation0 {l : List EvT} {j : Nat} {e0 : EvT} (hx : h x = some (rcC gu lp lm lr ld ly le sec)) (hL : zLS g T h 6 le LE (l.map evE)) (he : l[j]? = some e0) (k : ∀ (y : Nat), LE[j]? = some y → h y = some (evE e0) → T y = (6, 2 + j) → PR (some (.ref y)) h) : Ct g y_RC_knownEvacuation w_RC_knownEvacuation 4 0 0 [.ref x, .int (nI j)] h PR PX := by
  have hlt := hL.lt
  rw [List.length_map] at hlt
  have hj := (List.getElem?_eq_some_iff.mp he).1
  obtain ⟨vs, hvs⟩ := hL.obj
  refine Ct_intro (cc := c_RC_knownEvacuation) (nL := 2) (ret := (some (FieldType.object "RollCalls$Evacuation"))) (ls := [some (.ref x), some (.int (nI j))]) (by decide) (Nat.le_of_ble_eq_true rfl) rfl rfl ?_
  intro p e R s m args below meth c C ht hname
  refine z_iload_n C d_RC_knownEvacuation_0 rfl rfl ?_
  refine z_if_lt 15 C d_RC_knownEvacuation_1 (by decide) (fun c1 => ?_) (fun c1 => ?_)
  · exact absurd c1 (nI_pos (by omega))
  · refine z_iload_n C d_RC_knownEvacuation_4 rfl rfl ?_
    refine z_aload_n C d_RC_knownEvacuation_5 rfl rfl ?_
    refine z_get (ci := 7) (T := T_RC) (N := 8) C d_RC_knownEvacuation_6 6 i_RC rfl (by decide) k_66 (fun _ q => q) (by first | assumption | exact zu_s) (by rfl) ?_
    refine z_callV (n := 0) (As := []) (rest := [.int (nI j)]) (r1 := 1) (mc1 := 0) (ms1 := 0) (ci := 0) (T0 := T_AL) C d_RC_knownEvacuation_9 k_96 k_93 k_94 k_95 k_4 (by decide +kernel) rfl rfl (by first | assumption | exact zu_s) (by decide) (by decide) (Nat.le_of_ble_eq_true rfl) (by first | decide | omega) (by first | decide | omega) rfl ?_
    refine cl_size hL ?_
    dsimp only [zps]
    rw [List.length_map]
    refine z_icmp_lt 26 C d_RC_knownEvacuation_12 (by decide) (fun c12 => ?_) (fun c12 => ?_)
    · obtain ⟨y, hy, hye, hyT⟩ := hL.atm he
      refine z_aload_n C d_RC_knownEvacuation_26 rfl rfl ?_
      refine z_get (ci := 7) (T := T_RC) (N := 8) C d_RC_knownEvacuation_27 6 i_RC rfl (by decide) k_66 (fun _ q => q) (by first | assumption | exact zu_s) (by rfl) ?_
      refine z_iload_n C d_RC_knownEvacuation_30 rfl rfl ?_
      refine z_callV (n := 1) (As := [.int (nI j)]) (rest := []) (r1 := 3) (mc1 := 0) (ms1 := 0) (ci := 0) (T0 := T_AL) C d_RC_knownEvacuation_31 k_277 k_274 k_275 k_276 k_4 (by decide +kernel) rfl rfl (by first | assumption | exact zu_s) (by decide) (by decide) (Nat.le_of_ble_eq_true rfl) (by first | decide | omega) (by first | decide | omega) rfl ?_
      refine cl_get hL hy ?_
      dsimp only [zps]
      refine z_cast (ci := 6) C d_RC_knownEvacuation_34 rfl k_652 hye ?_
      refine z_aret C d_RC_knownEvacuation_37 (by first | exact Or.inl ⟨_, rfl⟩ | exact Or.inr ⟨_, rfl⟩) ?_
      exact k y hy hye hyT
    · exact absurd (nI_lt hj (by omega)) c12
set_option maxRecDepth 100000 in
theorem ct_RC_isOpen {ps : List PeT} {q j : Nat} {r : RoT} {e0 : PeT} (hx : h x = some (rcC gu lp lm lr ld ly le sec)) (hL : zLS g T h 1 lp LP (ps.map peE)) (hq : h q = some (roE r)) (hct : h r.ct = some (ia g r.n r.f)) (hn : r.n ≤ 60) (he : ps[j]? = some e0) (k : PR (some (.int (if opB r j e0 = true then 1 else 0))) h) : Ct g y_RC_isOpen w_RC_isOpen 5 0 0 [.ref x, .ref q, .int (nI j)] h PR PX := by
  unfold opB at k
  refine Ct_intro (cc := c_RC_isOpen) (nL := 3) (ret := (some FieldType.boolean)) (ls := [some (.ref x), some (.ref q), some (.int (nI j))]) (by decide) (Nat.le_of_ble_eq_true rfl) rfl rfl ?_
  intro p e R s m args below meth c C ht hname
  refine z_aload_n C d_RC_isOpen_0 rfl rfl ?_
  refine z_iload_n C d_RC_isOpen_1 rfl rfl ?_
  refine z_callV (n := 1) (As := [.int (nI j)]) (rest := []) (r1 := 1) (mc1 := 0) (ms1 := 0) (ci := 3) (T0 := T_RO) C d_RC_isOpen_2 k_467 k_464 k_465 k_466 k_21 (by decide +kernel) rfl rfl (by first | assumption | exact zu_s) (by decide) (by decide) (Nat.le_of_ble_eq_true rfl) (by first | decide | omega) (by first | decide | omega) rfl ?_
  refine ct_RO_counterOf hq hct hn ?_
  dsimp only [zps]
  refine z_iconst (v := (-1)) C d_RC_isOpen_5 (by decide) ?_
  refine z_icmp_ne 28 C d_RC_isOpen_6 (by decide) (fun c6 => ?_) (fun c6 => ?_)
  · refine z_iconst (v := 0) C d_RC_isOpen_28 (by decide) ?_
    refine z_zret C d_RC_isOpen_29 (by first | rfl | assumption) ?_
    rw [show (cof r.n r.f (nI j) == -1) = false from beq_eq_false_iff_ne.mpr c6, Bool.false_and, if_neg (by decide)] at k
    exact k
  · rw [show (cof r.n r.f (nI j) == -1) = true from beq_iff_eq.mpr c6, Bool.true_and] at k
    refine z_aload_n C d_RC_isOpen_9 rfl rfl ?_
    refine z_iload_n C d_RC_isOpen_10 rfl rfl ?_
    refine z_callV (n := 1) (As := [.int (nI j)]) (rest := []) (r1 := 4) (mc1 := 0) (ms1 := 0) (ci := 7) (T0 := T_RC) C d_RC_isOpen_11 k_257 k_254 k_256 ks_4 k_1 (by decide +kernel) rfl rfl (by first | assumption | exact zu_s) (by decide) (by decide) (Nat.le_of_ble_eq_true rfl) (by first | decide | omega) (by first | decide | omega) rfl ?_
    refine ct_RC_knownPerson0 hx hL he (fun y hj3 hj4 hj5 => ?_)
    dsimp only [zps]
    refine z_aload_n C d_RC_isOpen_14 rfl rfl ?_
    refine z_get (ci := 3) (T := T_RO) (N := 10) C d_RC_isOpen_15 0 i_RO rfl (by decide) k_401 (fun _ q => q) hq (by rfl) ?_
    refine z_callV (n := 1) (As := [.int r.1.1]) (rest := []) (r1 := 1) (mc1 := 0) (ms1 := 0) (ci := 1) (T0 := T_PE) C d_RC_isOpen_18 k_529 k_526 k_527 k_528 k_10 (by decide +kernel) rfl rfl hj4 (by decide) (by decide) (Nat.le_of_ble_eq_true rfl) (by first | decide | omega) (by first | decide | omega) rfl ?_
    refine ct_PE_cameOutSince hj4 ?_
    dsimp only [zps]
    by_cases hr : r.1.1 < e0.2.1
    · rw [if_pos hr]
      rw [decide_eq_true hr, if_neg (by decide)] at k
      refine z_if_ne 28 C d_RC_isOpen_21 (by decide) (fun c21 => ?_) (fun c21 => ?_)
      · refine z_iconst (v := 0) C d_RC_isOpen_28 (by decide) ?_
        refine z_zret C d_RC_isOpen_29 (by first | rfl | assumption) ?_
        exact k
      · exact absurd c21 (by decide)
    · rw [if_neg hr]
      rw [decide_eq_false hr, if_pos (by decide)] at k
      refine z_if_ne 28 C d_RC_isOpen_21 (by decide) (fun c21 => ?_) (fun c21 => ?_)
      · exact absurd rfl c21
      · refine z_iconst (v := 1) C d_RC_isOpen_24 (by decide) ?_
        refine z_goto 29 C d_RC_isOpen_25 (by decide) ?_
        refine z_zret C d_RC_isOpen_29 (by first | rfl | assumption) ?_
        exact k
set_option maxRecDepth 100000 in
theorem ct_RC_openPersons {ps : List PeT} {q : Nat} {r : RoT} (hx : h x = some (rcC gu lp lm lr ld ly le sec)) (hL : zLS g T h 1 lp LP (ps.map peE)) (hq : h q = some (roE r)) (hct : h r.ct = some (ia g r.n r.f)) (hn : r.n ≤ 60) (k : PR (some (.int (nI (opC r 0 ps)))) h) : Ct g y_RC_openPersons w_RC_openPersons 6 0 0 [.ref x, .ref q] h PR PX := by
  have hlt := hL.lt
  rw [List.length_map] at hlt
  obtain ⟨vs, hvs⟩ := hL.obj
  refine Ct_intro (cc := c_RC_openPersons) (nL := 4) (ret := (some FieldType.int)) (ls := [some (.ref x), some (.ref q), none, none]) (by decide) (Nat.le_of_ble_eq_true rfl) rfl rfl ?_
  intro p e R s m args below meth c C ht hname
  have loop : ∀ (j i acc : Nat), i + j = ps.length → PR (some (.int (nI (acc + opC r i (ps.drop i))))) h → Z g 4 0 0 p e R s m args below meth c (vx_MQ below (zQ g PR) (zX g PX) args s 0 0 (zA g)) 0 0 4 [some (.ref x), some (.ref q), some (.int (nI acc)), some (.int (nI i))] [] h := by
    intro j
    induction j with
    | zero =>
      intro i acc hi hp
      have : i = ps.length := by omega
      subst this
      rw [List.drop_length] at hp
      refine z_iload_n C d_RC_openPersons_4 rfl rfl ?_
      refine z_aload_n C d_RC_openPersons_5 rfl rfl ?_
      refine z_get (ci := 7) (T := T_RC) (N := 8) C d_RC_openPersons_6 1 i_RC rfl (by decide) k_61 (fun _ q => q) (by first | assumption | exact zu_s) (by rfl) ?_
      refine z_callV (n := 0) (As := []) (rest := [.int (nI ps.length)]) (r1 := 1) (mc1 := 0) (ms1 := 0) (ci := 0) (T0 := T_AL) C d_RC_openPersons_9 k_96 k_93 k_94 k_95 k_4 (by decide +kernel) rfl rfl (by first | assumption | exact zu_s) (by decide) (by decide) (Nat.le_of_ble_eq_true rfl) (by first | decide | omega) (by first | decide | omega) rfl ?_
      refine cl_size hL ?_
      dsimp only [zps]
      rw [List.length_map]
      refine z_icmp_ge 33 C d_RC_openPersons_12 (by decide) (fun c12 => ?_) (fun c12 => ?_)
      · refine z_iload_n C d_RC_openPersons_33 rfl rfl ?_
        refine z_iret C d_RC_openPersons_34 ?_
        exact hp
      · exact absurd (Int32.le_refl _) c12
    | succ j ih =>
      intro i acc hi hp
      obtain ⟨e0, he, hd⟩ := zdrop (l := ps) (k := i) (by omega)
      rw [hd, opC] at hp
      refine z_iload_n C d_RC_openPersons_4 rfl rfl ?_
      refine z_aload_n C d_RC_openPersons_5 rfl rfl ?_
      refine z_get (ci := 7) (T := T_RC) (N := 8) C d_RC_openPersons_6 1 i_RC rfl (by decide) k_61 (fun _ q => q) (by first | assumption | exact zu_s) (by rfl) ?_
      refine z_callV (n := 0) (As := []) (rest := [.int (nI i)]) (r1 := 1) (mc1 := 0) (ms1 := 0) (ci := 0) (T0 := T_AL) C d_RC_openPersons_9 k_96 k_93 k_94 k_95 k_4 (by decide +kernel) rfl rfl (by first | assumption | exact zu_s) (by decide) (by decide) (Nat.le_of_ble_eq_true rfl) (by first | decide | omega) (by first | decide | omega) rfl ?_
      refine cl_size hL ?_
      dsimp only [zps]
      rw [List.length_map]
      refine z_icmp_ge 33 C d_RC_openPersons_12 (by decide) (fun c12 => ?_) (fun c12 => ?_)
      · exact absurd c12 (nI_ge (by omega) (by omega))
      · refine z_aload_n C d_RC_openPersons_15 rfl rfl ?_
        refine z_aload_n C d_RC_openPersons_16 rfl rfl ?_
        refine z_iload_n C d_RC_openPersons_17 rfl rfl ?_
        refine z_callV (n := 2) (As := [.ref q, .int (nI i)]) (rest := []) (r1 := 5) (mc1 := 0) (ms1 := 0) (ci := 7) (T0 := T_RC) C d_RC_openPersons_18 k_525 k_522 k_524 ks_12 k_1 (by decide +kernel) rfl rfl (by first | assumption | exact zu_s) (by decide) (by decide) (Nat.le_of_ble_eq_true rfl) (by first | decide | omega) (by first | decide | omega) rfl ?_
        refine ct_RC_isOpen hx hL hq hct hn he ?_
        dsimp only [zps]
        cases hb : opB r i e0 with
        | false =>
          rw [hb, if_neg (by decide), Nat.zero_add] at hp
          rw [if_neg (by decide)]
          refine z_if_eq 27 C d_RC_openPersons_21 (by decide) (fun c21 => ?_) (fun c21 => ?_)
          · refine z_iinc C d_RC_openPersons_27 rfl (by decide) rfl ?_
            simp only [List.set, zi1, zim1]
            rw [nI_1]
            refine z_goto 4 C d_RC_openPersons_30 (by decide) ?_
            exact ih (i + 1) acc (by omega) hp
          · exact absurd rfl c21
        | true =>
          rw [hb, if_pos rfl] at hp
          rw [if_pos rfl]
          refine z_if_eq 27 C d_RC_openPersons_21 (by decide) (fun c21 => ?_) (fun c21 => ?_)
          · exact absurd c21 (by decide)
          · refine z_iinc C d_RC_openPersons_24 rfl (by decide) rfl ?_
            simp only [List.set, zi1, zim1]
            refine z_iinc C d_RC_openPersons_27 rfl (by decide) rfl ?_
            simp only [List.set, zi1, zim1]
            rw [nI_1, nI_1]
            refine z_goto 4 C d_RC_openPersons_30 (by decide) ?_
            refine ih (i + 1) (acc + 1) (by omega) ?_
            rw [Nat.add_assoc]
            exact hp
  refine z_iconst (v := 0) C d_RC_openPersons_0 (by decide) ?_
  refine z_istore_n C d_RC_openPersons_1 rfl (by decide) rfl ?_
  dsimp only [List.set]
  refine z_iconst (v := 0) C d_RC_openPersons_2 (by decide) ?_
  refine z_istore_n C d_RC_openPersons_3 rfl (by decide) rfl ?_
  dsimp only [List.set]
  exact loop ps.length 0 0 (by omega) (by rw [List.drop_zero, Nat.zero_add]; exact k)
set_option maxRecDepth 100000 in
theorem ct_RC_isMissingStill {ps : List PeT} {q j : Nat} {r : RoT} {e0 : PeT} (hx : h x = some (rcC gu lp lm lr ld ly le sec)) (hL : zLS g T h 1 lp LP (ps.map peE)) (hq : h q = some (roE r)) (hct : h r.ct = some (ia g r.n r.f)) (hn : r.n ≤ 60) (he : ps[j]? = some e0) (k : PR (some (.int (if msB r j e0 = true then 1 else 0))) h) : Ct g y_RC_isMissingStill w_RC_isMissingStill 6 0 0 [.ref x, .ref q, .int (nI j)] h PR PX := by
  unfold msB at k
  refine Ct_intro (cc := c_RC_isMissingStill) (nL := 3) (ret := (some FieldType.boolean)) (ls := [some (.ref x), some (.ref q), some (.int (nI j))]) (by decide) (Nat.le_of_ble_eq_true rfl) rfl rfl ?_
  intro p e R s m args below meth c C ht hname
  refine z_aload_n C d_RC_isMissingStill_0 rfl rfl ?_
  refine z_aload_n C d_RC_isMissingStill_1 rfl rfl ?_
  refine z_iload_n C d_RC_isMissingStill_2 rfl rfl ?_
  refine z_callV (n := 2) (As := [.ref q, .int (nI j)]) (rest := []) (r1 := 5) (mc1 := 0) (ms1 := 0) (ci := 7) (T0 := T_RC) C d_RC_isMissingStill_3 k_525 k_522 k_524 ks_12 k_1 (by decide +kernel) rfl rfl (by first | assumption | exact zu_s) (by decide) (by decide) (Nat.le_of_ble_eq_true rfl) (by first | decide | omega) (by first | decide | omega) rfl ?_
  refine ct_RC_isOpen hx hL hq hct hn he ?_
  dsimp only [zps]
  cases hb : opB r j e0 with
  | false =>
    rw [hb, Bool.false_and, if_neg (by decide)] at k
    rw [if_neg (by decide)]
    refine z_if_eq 28 C d_RC_isMissingStill_6 (by decide) (fun c6 => ?_) (fun c6 => ?_)
    · refine z_iconst (v := 0) C d_RC_isMissingStill_28 (by decide) ?_
      refine z_zret C d_RC_isMissingStill_29 (by first | rfl | assumption) ?_
      exact k
    · exact absurd rfl c6
  | true =>
    rw [hb, Bool.true_and] at k
    rw [if_pos rfl]
    refine z_if_eq 28 C d_RC_isMissingStill_6 (by decide) (fun c6 => ?_) (fun c6 => ?_)
    · exact absurd c6 (by decide)
    · refine z_aload_n C d_RC_isMissingStill_9 rfl rfl ?_
      refine z_iload_n C d_RC_isMissingStill_10 rfl rfl ?_
      refine z_callV (n := 1) (As := [.int (nI j)]) (rest := []) (r1 := 4) (mc1 := 0) (ms1 := 0) (ci := 7) (T0 := T_RC) C d_RC_isMissingStill_11 k_257 k_254 k_256 ks_4 k_1 (by decide +kernel) rfl rfl (by first | assumption | exact zu_s) (by decide) (by decide) (Nat.le_of_ble_eq_true rfl) (by first | decide | omega) (by first | decide | omega) rfl ?_
      refine ct_RC_knownPerson0 hx hL he (fun y hj3 hj4 hj5 => ?_)
      dsimp only [zps]
      refine z_get (ci := 1) (T := T_PE) (N := 3) C d_RC_isMissingStill_14 2 i_PE rfl (by decide) k_177 (fun _ q => q) hj4 (by rfl) ?_
      refine z_aload_n C d_RC_isMissingStill_17 rfl rfl ?_
      refine z_get (ci := 3) (T := T_RO) (N := 10) C d_RC_isMissingStill_18 0 i_RO rfl (by decide) k_401 (fun _ q => q) hq (by rfl) ?_
      refine z_icmp_gt 28 C d_RC_isMissingStill_21 (by decide) (fun c21 => ?_) (fun c21 => ?_)
      · refine z_iconst (v := 0) C d_RC_isMissingStill_28 (by decide) ?_
        refine z_zret C d_RC_isMissingStill_29 (by first | rfl | assumption) ?_
        rw [decide_eq_false (Int32.not_le.mpr c21), if_neg (by decide)] at k
        exact k
      · refine z_iconst (v := 1) C d_RC_isMissingStill_24 (by decide) ?_
        refine z_goto 29 C d_RC_isMissingStill_25 (by decide) ?_
        refine z_zret C d_RC_isMissingStill_29 (by first | rfl | assumption) ?_
        rw [decide_eq_true (Int32.not_lt.mp c21), if_pos rfl] at k
        exact k
set_option maxRecDepth 100000 in
theorem ct_RC_addMove {mv : List MvT} {a b : Int32} (hx : h x = some (rcC gu lp lm lr ld ly le sec)) (hL : zLS g T h 2 lm LM (mv.map mvE)) (kx : 300 ≤ mv.length → PX xUOE h)
    (k : mv.length < 300 → ∀ (h1 : Hp) (T1 : Tg) (y : Nat), zLS g T1 h1 2 lm (LM ++ [y]) ((mv ++ [(a, b, sec)]).map mvE) → (∀ q, h q ≠ none → T1 q = T q) → (∀ q, h q ≠ none → (T q).1 ≠ 2 → h1 q = h q) → (∀ q, h q ≠ none → h1 q ≠ none) → PR none h1) : Ct g y_RC_addMove w_RC_addMove 8 2 453 [.ref x, .int a, .int b] h PR PX := by
  have hlt := hL.lt
  rw [List.length_map] at hlt
  obtain ⟨vs, hvs⟩ := hL.obj
  refine Ct_intro (cc := c_RC_addMove) (nL := 3) (ret := none) (ls := [some (.ref x), some (.int a), some (.int b)]) (by decide) (Nat.le_of_ble_eq_true rfl) rfl rfl ?_
  intro p e R s m args below meth c C ht hname
  refine z_aload_n C d_RC_addMove_0 rfl rfl ?_
  refine z_get (ci := 7) (T := T_RC) (N := 8) C d_RC_addMove_1 2 i_RC rfl (by decide) k_62 (fun _ q => q) (by first | assumption | exact zu_s) (by rfl) ?_
  refine z_callV (n := 0) (As := []) (rest := []) (r1 := 1) (mc1 := 0) (ms1 := 0) (ci := 0) (T0 := T_AL) C d_RC_addMove_4 k_96 k_93 k_94 k_95 k_4 (by decide +kernel) rfl rfl (by first | assumption | exact zu_s) (by decide) (by decide) (Nat.le_of_ble_eq_true rfl) (by first | decide | omega) (by first | decide | omega) rfl ?_
  refine cl_size hL ?_
  dsimp only [zps]
  rw [List.length_map]
  refine z_sipush (v := 300) C d_RC_addMove_7 (by decide) ?_
  refine z_icmp_lt 23 C d_RC_addMove_10 (by decide) (fun c10 => ?_) (fun c10 => ?_)
  · have hl : mv.length < 300 := by
      rcases Nat.lt_or_ge mv.length 300 with q | q
      · exact q
      · exact absurd c10 (by rw [show (300 : Int32) = nI 300 from rfl]; exact nI_nlt q (by omega))
    refine z_aload_n C d_RC_addMove_23 rfl rfl ?_
    refine z_get (ci := 7) (T := T_RC) (N := 8) C d_RC_addMove_24 2 i_RC rfl (by decide) k_62 (fun _ q => q) (by first | assumption | exact zu_s) (by rfl) ?_
    refine z_new (ci := 2) (fs := [.int 0, .int 0, .int 0]) (T := T_MO) (N := 3) C d_RC_addMove_27 ty_MO t_MO i_MO rfl k_313 k_314 k_19 (fun j hj => by rcases (show j = 0 ∨ j = 1 ∨ j = 2 by omega) with rfl | rfl | rfl <;> rfl) (by first | decide | omega) (by first | decide | omega) (fun q27 hq27 => ?_)
    refine z_dup C d_RC_addMove_30 rfl ?_
    have nx : x ≠ q27 := by
      rintro rfl
      rw [hx] at hq27
      cases hq27
    have hx1 : zu h q27 (mvC 0 0 0) x = some (rcC gu lp lm lr ld ly le sec) := by rw [zu_n nx]; exact hx
    refine z_iload_n C d_RC_addMove_31 rfl rfl ?_
    refine z_iload_n C d_RC_addMove_32 rfl rfl ?_
    refine z_aload_n C d_RC_addMove_33 rfl rfl ?_
    refine z_get (ci := 7) (T := T_RC) (N := 8) C d_RC_addMove_34 7 i_RC rfl (by decide) k_67 (fun _ q => q) (by first | assumption | exact zu_s) (by rfl) ?_
    refine z_callI (n := 3) (As := [.int a, .int b, .int sec]) (rest := [.ref q27, .ref lm]) (r1 := 1) (mc1 := 0) (ms1 := 0) C d_RC_addMove_37 k_317 k_315 k_316 k_19 rfl (by decide +kernel) rfl (by decide) (by decide) (Nat.le_of_ble_eq_true rfl) (by first | decide | omega) (by first | decide | omega) rfl ?_
    refine ct_MO_init zu_s ?_
    dsimp only [zps]
    rw [zu_zu]
    have hL1 : zLS g (tg T q27 (2, 2 + mv.length)) (zu h q27 (mvC a b sec)) 2 lm LM (mv.map mvE) := hL.new hq27
    obtain ⟨vs1, hvs1⟩ := hL1.obj
    refine z_callV (n := 1) (As := [.ref q27]) (rest := []) (r1 := 7) (mc1 := 1) (ms1 := 450) (ci := 0) (T0 := T_AL) C d_RC_addMove_40 k_188 k_185 k_186 k_187 k_4 (by decide +kernel) rfl rfl (by first | assumption | exact zu_s) (by decide) (by decide) (Nat.le_of_ble_eq_true rfl) (by first | decide | omega) (by first | decide | omega) rfl ?_
    refine cl_add (ci := 2) (q9 := ("RollCalls$Move", T_MO, 3)) (vs := [.int a, .int b, .int sec]) hL1 (by rw [List.length_map]; exact hl) rfl (by decide) (by decide +kernel) (fun e he => ?_) zu_s (by rw [tg_s, List.length_map]) (fun h1 T1 b1 b2 b3 b4 => ?_)
    · obtain ⟨e1, -, rfl⟩ := List.mem_map.mp he
      exact ⟨_, rfl⟩
    · dsimp only [zps]
      refine z_pop C d_RC_addMove_43 rfl ?_
      refine z_vret C d_RC_addMove_44 ?_
      have key : ∀ q, h q ≠ none → q ≠ q27 := fun q hq z => hq (z ▸ hq27)
      have nn : ∀ q, h q ≠ none → zu h q27 (mvC a b sec) q ≠ none := fun q hq => by rw [zu_n (key q hq)]; exact hq
      refine k hl h1 T1 q27 (by rw [List.map_append]; exact b1) (fun q hq => by rw [b2 q (nn q hq), tg_n (key q hq)]) (fun q hq hk => ?_) (fun q hq => b4 q (nn q hq))
      rw [b3 q (nn q hq) (by rw [tg_n (key q hq)]; exact fun z => hk (by rw [z])) (by rw [tg_n (key q hq)]; exact fun z => hk (by rw [z])), zu_n (key q hq)]
  · refine z_throwS (text := "no room for a move") (cls := "java/lang/UnsupportedOperationException") C ht d_RC_addMove_13 d_RC_addMove_16 d_RC_addMove_17 d_RC_addMove_19 d_RC_addMove_22 (by decide +kernel) k_97 k_9 (by decide +kernel) (tho_UOE C) thg_UOE (by decide) (Nat.le_of_ble_eq_true rfl) (by first | decide | omega) (by first | decide | omega) ?_
    refine kx ?_
    rcases Nat.lt_or_ge mv.length 300 with q | q
    · exact absurd (by rw [show (300 : Int32) = nI 300 from rfl]; exact nI_lt q (by omega)) c10
    · exact q
set_option maxRecDepth 100000 in
theorem ct_RC_addDouble {db : List DcT} {y : Nat} {d0 : DcT} (hx : h x = some (rcC gu lp lm lr ld ly le sec)) (hL : zLS g T h 4 ld LD (db.map dcE)) (hy : h y = some (dcE d0)) (hyT : T y = (4, 2 + db.length)) (kx : 100 ≤ db.length → PX xUOE h)
    (k : db.length < 100 → ∀ (h1 : Hp) (T1 : Tg), zLS g T1 h1 4 ld (LD ++ [y]) ((db ++ [d0]).map dcE) → (∀ q, h q ≠ none → T1 q = T q) → (∀ q, h q ≠ none → (T q).1 ≠ 4 → h1 q = h q) → (∀ q, h q ≠ none → h1 q ≠ none) → PR none h1) : Ct g y_RC_addDouble w_RC_addDouble 8 1 450 [.ref x, .ref y] h PR PX := by
  have hlt := hL.lt
  rw [List.length_map] at hlt
  obtain ⟨vs, hvs⟩ := hL.obj
  refine Ct_intro (cc := c_RC_addDouble) (nL := 2) (ret := none) (ls := [some (.ref x), some (.ref y)]) (by decide) (Nat.le_of_ble_eq_true rfl) rfl rfl ?_
  intro p e R s m args below meth c C ht hname
  refine z_aload_n C d_RC_addDouble_0 rfl rfl ?_
  refine z_get (ci := 7) (T := T_RC) (N := 8) C d_RC_addDouble_1 4 i_RC rfl (by decide) k_64 (fun _ q => q) (by first | assumption | exact zu_s) (by rfl) ?_
  refine z_callV (n := 0) (As := []) (rest := []) (r1 := 1) (mc1 := 0) (ms1 := 0) (ci := 0) (T0 := T_AL) C d_RC_addDouble_4 k_96 k_93 k_94 k_95 k_4 (by decide +kernel) rfl rfl (by first | assumption | exact zu_s) (by decide) (by decide) (Nat.le_of_ble_eq_true rfl) (by first | decide | omega) (by first | decide | omega) rfl ?_
  refine cl_size hL ?_
  dsimp only [zps]
  rw [List.length_map]
  refine z_bipush (v := 100) C d_RC_addDouble_7 (by decide) ?_
  refine z_icmp_lt 22 C d_RC_addDouble_9 (by decide) (fun c9 => ?_) (fun c9 => ?_)
  · have hl : db.length < 100 := by
      rcases Nat.lt_or_ge db.length 100 with q | q
      · exact q
      · exact absurd c9 (by rw [show (100 : Int32) = nI 100 from rfl]; exact nI_nlt q (by omega))
    refine z_aload_n C d_RC_addDouble_22 rfl rfl ?_
    refine z_get (ci := 7) (T := T_RC) (N := 8) C d_RC_addDouble_23 4 i_RC rfl (by decide) k_64 (fun _ q => q) (by first | assumption | exact zu_s) (by rfl) ?_
    refine z_aload_n C d_RC_addDouble_26 rfl rfl ?_
    refine z_callV (n := 1) (As := [.ref y]) (rest := []) (r1 := 7) (mc1 := 1) (ms1 := 450) (ci := 0) (T0 := T_AL) C d_RC_addDouble_27 k_188 k_185 k_186 k_187 k_4 (by decide +kernel) rfl rfl (by first | assumption | exact zu_s) (by decide) (by decide) (Nat.le_of_ble_eq_true rfl) (by first | decide | omega) (by first | decide | omega) rfl ?_
    refine cl_add (ci := 4) (q9 := ("RollCalls$DoubleCount", T_DC, 4)) (vs := [.int d0.1, .int d0.2.1, .int d0.2.2.1, .int d0.2.2.2]) hL (by rw [List.length_map]; omega) rfl (by decide) (by decide +kernel) (fun e he => ?_) hy (by rw [hyT, List.length_map]) (fun h1 T1 b1 b2 b3 b4 => ?_)
    · obtain ⟨e1, -, rfl⟩ := List.mem_map.mp he
      exact ⟨_, rfl⟩
    · dsimp only [zps]
      refine z_pop C d_RC_addDouble_30 rfl ?_
      refine z_vret C d_RC_addDouble_31 ?_
      exact k hl h1 T1 (by rw [List.map_append]; exact b1) b2 (fun q hq hk => b3 q hq (fun z => hk (by rw [z])) (fun z => hk (by rw [z]))) b4
  · refine z_throwS (text := "no room for a double") (cls := "java/lang/UnsupportedOperationException") C ht d_RC_addDouble_12 d_RC_addDouble_15 d_RC_addDouble_16 d_RC_addDouble_18 d_RC_addDouble_21 (by decide +kernel) k_97 k_9 (by decide +kernel) (tho_UOE C) thg_UOE (by decide) (Nat.le_of_ble_eq_true rfl) (by first | decide | omega) (by first | decide | omega) ?_
    refine kx ?_
    rcases Nat.lt_or_ge db.length 100 with q | q
    · exact absurd (by rw [show (100 : Int32) = nI 100 from rfl]; exact nI_lt q (by omega)) c9
    · exact q
end RJ
