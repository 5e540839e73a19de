/-! THE CLASS'S STATE, and the helpers that only read -/
abbrev PeT : Type := Int32 × Int32 × Int32
abbrev MvT : Type := Int32 × Int32 × Int32
abbrev RoT : Type := (Int32 × Int32) × (Nat × Nat × (Nat → Int32)) × (Int32 × Int32 × Int32 × Int32 × Int32 × Int32 × Int32)
abbrev DcT : Type := Int32 × Int32 × Int32 × Int32
abbrev MdT : Type := Int32 × Int32 × Int32 × Int32 × Int32
abbrev EvT : Type := Int32 × (Nat × Nat × (Nat → Int32) × (Nat → Int32)) × (Int32 × Int32)
abbrev peE (x : PeT) : va_E := peC x.1 x.2.1 x.2.2
abbrev mvE (x : MvT) : va_E := mvC x.1 x.2.1 x.2.2
abbrev roE (r : RoT) : va_E := roC r.1.1 r.1.2 r.2.1.1 r.2.2.1 r.2.2.2.1 r.2.2.2.2.1 r.2.2.2.2.2.1 r.2.2.2.2.2.2.1 r.2.2.2.2.2.2.2.1 r.2.2.2.2.2.2.2.2
abbrev dcE (x : DcT) : va_E := dcC x.1 x.2.1 x.2.2.1 x.2.2.2
abbrev mdE (x : MdT) : va_E := mdC x.1 x.2.1 x.2.2.1 x.2.2.2.1 x.2.2.2.2
abbrev evE (x : EvT) : va_E := evC x.1 x.2.1.1 x.2.1.2.1 x.2.2.1 x.2.2.2
/-- a roll's round, counters -/
abbrev RoT.rd (r : RoT) : Int32 := r.2.2.1
abbrev RoT.ct (r : RoT) : Nat := r.2.1.1
abbrev RoT.n (r : RoT) : Nat := r.2.1.2.1
abbrev RoT.f (r : RoT) : Nat → Int32 := r.2.1.2.2
abbrev MdT.op (x : MdT) : Int32 := x.2.2.2.1
abbrev MdT.tm (x : MdT) : Int32 := x.2.2.2.2
abbrev xIAE : String := "java/lang/IllegalArgumentException"
abbrev xIOB : String := "java/lang/IndexOutOfBoundsException"
abbrev xISE : String := "java/lang/IllegalStateException"
abbrev xUOE : String := "java/lang/UnsupportedOperationException"
theorem zLS.atm {g : zG} {T : Tg} {h : Hp} {kd a : Nat} {L : List Nat} {α : Type} {l : List α} {f : α → va_E} (hL : zLS g T h kd a L (l.map f)) {i : Nat} {e : α} (he : l[i]? = some e) : ∃ y, L[i]? = some y ∧ h y = some (f e) ∧ T y = (kd, 2 + i) := hL.at (by rw [List.getElem?_map, he]; rfl)
theorem zdrop {α : Type} {l : List α} {k : Nat} (hk : k < l.length) : ∃ e, l[k]? = some e ∧ l.drop k = e :: l.drop (k + 1) := ⟨l[k], List.getElem?_eq_getElem hk, List.drop_eq_getElem_cons hk⟩
section RH
variable {g : zG} {T : Tg} {h : Hp} {PR : Option Value → Hp → Prop} {PX : String → Hp → Prop} {x gu lp lm lr ld ly le : Nat} {sec : Int32} {LP LM LR LD LY LE : List Nat}

set_option maxRecDepth 100000 in
theorem ct_RC_knownPerson {l : List PeT} {i : Int32} (hx : h x = some (rcC gu lp lm lr ld ly le sec)) (hL : zLS g T h 1 lp LP (l.map peE)) (kx : (i < 0 ∨ nI l.length ≤ i) → PX xIAE h) (k : ∀ (j y : Nat) (e : PeT), i = nI j → l[j]? = some e → LP[j]? = some y → h y = some (peE e) → T y = (1, 2 + j) → PR (some (.ref y)) h) : Ct g y_RC_knownPerson w_RC_knownPerson 6 1 6 [.ref x, .int i] h PR PX := by
  have hlt := hL.lt
  rw [List.length_map] at hlt
  obtain ⟨vs, hvs⟩ := hL.obj
  refine Ct_intro (cc := c_RC_knownPerson) (nL := 2) (ret := (some (FieldType.object "RollCalls$Person"))) (ls := [some (.ref x), some (.int i)]) (by decide) (Nat.le_of_ble_eq_true rfl) rfl rfl ?_
  intro p e R s m args below meth c C ht hname
  refine z_iload_n C d_RC_knownPerson_0 rfl rfl ?_
  refine z_if_lt 15 C d_RC_knownPerson_1 (by decide) (fun c1 => ?_) (fun c1 => ?_)
  · refine z_throwS (text := "no such person") (cls := "java/lang/IllegalArgumentException") C ht d_RC_knownPerson_15 d_RC_knownPerson_18 d_RC_knownPerson_19 d_RC_knownPerson_21 d_RC_knownPerson_24 (by decide +kernel) k_258 k_15 (by decide +kernel) (tho_IAE C) thg_IAE (by decide) (Nat.le_of_ble_eq_true rfl) (by first | decide | omega) (by first | decide | omega) ?_
    exact kx (Or.inl c1)
  · refine z_iload_n C d_RC_knownPerson_4 rfl rfl ?_
    refine z_aload_n C d_RC_knownPerson_5 rfl rfl ?_
    refine z_get (ci := 7) (T := T_RC) (N := 8) C d_RC_knownPerson_6 1 i_RC rfl (by decide) k_61 (fun _ q => q) (by first | assumption | exact zu_s) (by rfl) ?_
    refine z_callV (n := 0) (As := []) (rest := [.int i]) (r1 := 1) (mc1 := 0) (ms1 := 0) (ci := 0) (T0 := T_AL) C d_RC_knownPerson_9 k_96 k_93 k_94 k_95 k_4 (by decide +kernel) rfl rfl (by first | assumption | exact zu_s) (by decide) (by decide) (Nat.le_of_ble_eq_true rfl) (by first | decide | omega) (by first | decide | omega) rfl ?_
    refine cl_size hL ?_
    dsimp only [zps]
    rw [List.length_map]
    refine z_icmp_lt 25 C d_RC_knownPerson_12 (by decide) (fun c12 => ?_) (fun c12 => ?_)
    · obtain ⟨j, hj, rfl, -⟩ := pk_mu c1 (Int32.not_le.mpr c12) (by omega)
      obtain ⟨e, he⟩ : ∃ e, l[j]? = some e := ⟨_, List.getElem?_eq_getElem hj⟩
      obtain ⟨y, hy, hye, hyT⟩ := hL.atm he
      refine z_aload_n C d_RC_knownPerson_25 rfl rfl ?_
      refine z_get (ci := 7) (T := T_RC) (N := 8) C d_RC_knownPerson_26 1 i_RC rfl (by decide) k_61 (fun _ q => q) (by first | assumption | exact zu_s) (by rfl) ?_
      refine z_iload_n C d_RC_knownPerson_29 rfl rfl ?_
      refine z_callV (n := 1) (As := [.int (nI j)]) (rest := []) (r1 := 3) (mc1 := 0) (ms1 := 0) (ci := 0) (T0 := T_AL) C d_RC_knownPerson_30 k_277 k_274 k_275 k_276 k_4 (by decide +kernel) rfl rfl (by first | assumption | exact zu_s) (by decide) (by decide) (Nat.le_of_ble_eq_true rfl) (by first | decide | omega) (by first | decide | omega) rfl ?_
      refine cl_get hL hy ?_
      dsimp only [zps]
      refine z_cast (ci := 1) C d_RC_knownPerson_33 rfl k_166 hye ?_
      refine z_aret C d_RC_knownPerson_36 (by first | exact Or.inl ⟨_, rfl⟩ | exact Or.inr ⟨_, rfl⟩) ?_
      exact k j y e rfl he hy hye hyT
    · refine z_throwS (text := "no such person") (cls := "java/lang/IllegalArgumentException") C ht d_RC_knownPerson_15 d_RC_knownPerson_18 d_RC_knownPerson_19 d_RC_knownPerson_21 d_RC_knownPerson_24 (by decide +kernel) k_258 k_15 (by decide +kernel) (tho_IAE C) thg_IAE (by decide) (Nat.le_of_ble_eq_true rfl) (by first | decide | omega) (by first | decide | omega) ?_
      exact kx (Or.inr (Int32.not_lt.mp c12))
set_option maxRecDepth 100000 in
theorem ct_RC_knownRoll {l : List RoT} {i : Int32} (hx : h x = some (rcC gu lp lm lr ld ly le sec)) (hL : zLS g T h 3 lr LR (l.map roE)) (kx : (i < 0 ∨ nI l.length ≤ i) → PX xIAE h) (k : ∀ (j y : Nat) (e : RoT), i = nI j → l[j]? = some e → LR[j]? = some y → h y = some (roE e) → T y = (3, 2 + j) → PR (some (.ref y)) h) : Ct g y_RC_knownRoll w_RC_knownRoll 6 1 6 [.ref x, .int i] h PR PX := by
  have hlt := hL.lt
  rw [List.length_map] at hlt
  obtain ⟨vs, hvs⟩ := hL.obj
  refine Ct_intro (cc := c_RC_knownRoll) (nL := 2) (ret := (some (FieldType.object "RollCalls$Roll"))) (ls := [some (.ref x), some (.int i)]) (by decide) (Nat.le_of_ble_eq_true rfl) rfl rfl ?_
  intro p e R s m args below meth c C ht hname
  refine z_iload_n C d_RC_knownRoll_0 rfl rfl ?_
  refine z_if_lt 15 C d_RC_knownRoll_1 (by decide) (fun c1 => ?_) (fun c1 => ?_)
  · refine z_throwS (text := "no such roll") (cls := "java/lang/IllegalArgumentException") C ht d_RC_knownRoll_15 d_RC_knownRoll_18 d_RC_knownRoll_19 d_RC_knownRoll_21 d_RC_knownRoll_24 (by decide +kernel) k_258 k_15 (by decide +kernel) (tho_IAE C) thg_IAE (by decide) (Nat.le_of_ble_eq_true rfl) (by first | decide | omega) (by first | decide | omega) ?_
    exact kx (Or.inl c1)
  · refine z_iload_n C d_RC_knownRoll_4 rfl rfl ?_
    refine z_aload_n C d_RC_knownRoll_5 rfl rfl ?_
    refine z_get (ci := 7) (T := T_RC) (N := 8) C d_RC_knownRoll_6 3 i_RC rfl (by decide) k_63 (fun _ q => q) (by first | assumption | exact zu_s) (by rfl) ?_
    refine z_callV (n := 0) (As := []) (rest := [.int i]) (r1 := 1) (mc1 := 0) (ms1 := 0) (ci := 0) (T0 := T_AL) C d_RC_knownRoll_9 k_96 k_93 k_94 k_95 k_4 (by decide +kernel) rfl rfl (by first | assumption | exact zu_s) (by decide) (by decide) (Nat.le_of_ble_eq_true rfl) (by first | decide | omega) (by first | decide | omega) rfl ?_
    refine cl_size hL ?_
    dsimp only [zps]
    rw [List.length_map]
    refine z_icmp_lt 25 C d_RC_knownRoll_12 (by decide) (fun c12 => ?_) (fun c12 => ?_)
    · obtain ⟨j, hj, rfl, -⟩ := pk_mu c1 (Int32.not_le.mpr c12) (by omega)
      obtain ⟨e, he⟩ : ∃ e, l[j]? = some e := ⟨_, List.getElem?_eq_getElem hj⟩
      obtain ⟨y, hy, hye, hyT⟩ := hL.atm he
      refine z_aload_n C d_RC_knownRoll_25 rfl rfl ?_
      refine z_get (ci := 7) (T := T_RC) (N := 8) C d_RC_knownRoll_26 3 i_RC rfl (by decide) k_63 (fun _ q => q) (by first | assumption | exact zu_s) (by rfl) ?_
      refine z_iload_n C d_RC_knownRoll_29 rfl rfl ?_
      refine z_callV (n := 1) (As := [.int (nI j)]) (rest := []) (r1 := 3) (mc1 := 0) (ms1 := 0) (ci := 0) (T0 := T_AL) C d_RC_knownRoll_30 k_277 k_274 k_275 k_276 k_4 (by decide +kernel) rfl rfl (by first | assumption | exact zu_s) (by decide) (by decide) (Nat.le_of_ble_eq_true rfl) (by first | decide | omega) (by first | decide | omega) rfl ?_
      refine cl_get hL hy ?_
      dsimp only [zps]
      refine z_cast (ci := 3) C d_RC_knownRoll_33 rfl k_375 hye ?_
      refine z_aret C d_RC_knownRoll_36 (by first | exact Or.inl ⟨_, rfl⟩ | exact Or.inr ⟨_, rfl⟩) ?_
      exact k j y e rfl he hy hye hyT
    · refine z_throwS (text := "no such roll") (cls := "java/lang/IllegalArgumentException") C ht d_RC_knownRoll_15 d_RC_knownRoll_18 d_RC_knownRoll_19 d_RC_knownRoll_21 d_RC_knownRoll_24 (by decide +kernel) k_258 k_15 (by decide +kernel) (tho_IAE C) thg_IAE (by decide) (Nat.le_of_ble_eq_true rfl) (by first | decide | omega) (by first | decide | omega) ?_
      exact kx (Or.inr (Int32.not_lt.mp c12))
set_option maxRecDepth 100000 in
theorem ct_RC_knownMayday {l : List MdT} {i : Int32} (hx : h x = some (rcC gu lp lm lr ld ly le sec)) (hL : zLS g T h 5 ly LY (l.map mdE)) (kx : (i < 0 ∨ nI l.length ≤ i) → PX xIAE h) (k : ∀ (j y : Nat) (e : MdT), i = nI j → l[j]? = some e → LY[j]? = some y → h y = some (mdE e) → T y = (5, 2 + j) → PR (some (.ref y)) h) : Ct g y_RC_knownMayday w_RC_knownMayday 6 1 6 [.ref x, .int i] h PR PX := by
  have hlt := hL.lt
  rw [List.length_map] at hlt
  obtain ⟨vs, hvs⟩ := hL.obj
  refine Ct_intro (cc := c_RC_knownMayday) (nL := 2) (ret := (some (FieldType.object "RollCalls$Mayday"))) (ls := [some (.ref x), some (.int i)]) (by decide) (Nat.le_of_ble_eq_true rfl) rfl rfl ?_
  intro p e R s m args below meth c C ht hname
  refine z_iload_n C d_RC_knownMayday_0 rfl rfl ?_
  refine z_if_lt 15 C d_RC_knownMayday_1 (by decide) (fun c1 => ?_) (fun c1 => ?_)
  · refine z_throwSW (text := "no such mayday") (cls := "java/lang/IllegalArgumentException") C ht d_RC_knownMayday_15 d_RC_knownMayday_18 d_RC_knownMayday_19 d_RC_knownMayday_22 d_RC_knownMayday_25 (by decide +kernel) k_258 k_15 (by decide +kernel) (tho_IAE C) thg_IAE (by decide) (Nat.le_of_ble_eq_true rfl) (by first | decide | omega) (by first | decide | omega) ?_
    exact kx (Or.inl c1)
  · refine z_iload_n C d_RC_knownMayday_4 rfl rfl ?_
    refine z_aload_n C d_RC_knownMayday_5 rfl rfl ?_
    refine z_get (ci := 7) (T := T_RC) (N := 8) C d_RC_knownMayday_6 5 i_RC rfl (by decide) k_65 (fun _ q => q) (by first | assumption | exact zu_s) (by rfl) ?_
    refine z_callV (n := 0) (As := []) (rest := [.int i]) (r1 := 1) (mc1 := 0) (ms1 := 0) (ci := 0) (T0 := T_AL) C d_RC_knownMayday_9 k_96 k_93 k_94 k_95 k_4 (by decide +kernel) rfl rfl (by first | assumption | exact zu_s) (by decide) (by decide) (Nat.le_of_ble_eq_true rfl) (by first | decide | omega) (by first | decide | omega) rfl ?_
    refine cl_size hL ?_
    dsimp only [zps]
    rw [List.length_map]
    refine z_icmp_lt 26 C d_RC_knownMayday_12 (by decide) (fun c12 => ?_) (fun c12 => ?_)
    · obtain ⟨j, hj, rfl, -⟩ := pk_mu c1 (Int32.not_le.mpr c12) (by omega)
      obtain ⟨e, he⟩ : ∃ e, l[j]? = some e := ⟨_, List.getElem?_eq_getElem hj⟩
      obtain ⟨y, hy, hye, hyT⟩ := hL.atm he
      refine z_aload_n C d_RC_knownMayday_26 rfl rfl ?_
      refine z_get (ci := 7) (T := T_RC) (N := 8) C d_RC_knownMayday_27 5 i_RC rfl (by decide) k_65 (fun _ q => q) (by first | assumption | exact zu_s) (by rfl) ?_
      refine z_iload_n C d_RC_knownMayday_30 rfl rfl ?_
      refine z_callV (n := 1) (As := [.int (nI j)]) (rest := []) (r1 := 3) (mc1 := 0) (ms1 := 0) (ci := 0) (T0 := T_AL) C d_RC_knownMayday_31 k_277 k_274 k_275 k_276 k_4 (by decide +kernel) rfl rfl (by first | assumption | exact zu_s) (by decide) (by decide) (Nat.le_of_ble_eq_true rfl) (by first | decide | omega) (by first | decide | omega) rfl ?_
      refine cl_get hL hy ?_
      dsimp only [zps]
      refine z_cast (ci := 5) C d_RC_knownMayday_34 rfl k_388 hye ?_
      refine z_aret C d_RC_knownMayday_37 (by first | exact Or.inl ⟨_, rfl⟩ | exact Or.inr ⟨_, rfl⟩) ?_
      exact k j y e rfl he hy hye hyT
    · refine z_throwSW (text := "no such mayday") (cls := "java/lang/IllegalArgumentException") C ht d_RC_knownMayday_15 d_RC_knownMayday_18 d_RC_knownMayday_19 d_RC_knownMayday_22 d_RC_knownMayday_25 (by decide +kernel) k_258 k_15 (by decide +kernel) (tho_IAE C) thg_IAE (by decide) (Nat.le_of_ble_eq_true rfl) (by first | decide | omega) (by first | decide | omega) ?_
      exact kx (Or.inr (Int32.not_lt.mp c12))
set_option maxRecDepth 100000 in
theorem ct_RC_knownEvacuation {l : List EvT} {i : Int32} (hx : h x = some (rcC gu lp lm lr ld ly le sec)) (hL : zLS g T h 6 le LE (l.map evE)) (kx : (i < 0 ∨ nI l.length ≤ i) → PX xIAE h) (k : ∀ (j y : Nat) (e : EvT), i = nI j → l[j]? = some e → LE[j]? = some y → h y = some (evE e) → T y = (6, 2 + j) → PR (some (.ref y)) h) : Ct g y_RC_knownEvacuation w_RC_knownEvacuation 6 1 6 [.ref x, .int i] h PR PX := by
  have hlt := hL.lt
  rw [List.length_map] at hlt
  obtain ⟨vs, hvs⟩ := hL.obj
  refine Ct_intro (cc := c_RC_knownEvacuation) (nL := 2) (ret := (some (FieldType.object "RollCalls$Evacuation"))) (ls := [some (.ref x), some (.int i)]) (by decide) (Nat.le_of_ble_eq_true rfl) rfl rfl ?_
  intro p e R s m args below meth c C ht hname
  refine z_iload_n C d_RC_knownEvacuation_0 rfl rfl ?_
  refine z_if_lt 15 C d_RC_knownEvacuation_1 (by decide) (fun c1 => ?_) (fun c1 => ?_)
  · refine z_throwSW (text := "no such evacuation") (cls := "java/lang/IllegalArgumentException") C ht d_RC_knownEvacuation_15 d_RC_knownEvacuation_18 d_RC_knownEvacuation_19 d_RC_knownEvacuation_22 d_RC_knownEvacuation_25 (by decide +kernel) k_258 k_15 (by decide +kernel) (tho_IAE C) thg_IAE (by decide) (Nat.le_of_ble_eq_true rfl) (by first | decide | omega) (by first | decide | omega) ?_
    exact kx (Or.inl c1)
  · refine z_iload_n C d_RC_knownEvacuation_4 rfl rfl ?_
    refine z_aload_n C d_RC_knownEvacuation_5 rfl rfl ?_
    refine z_get (ci := 7) (T := T_RC) (N := 8) C d_RC_knownEvacuation_6 6 i_RC rfl (by decide) k_66 (fun _ q => q) (by first | assumption | exact zu_s) (by rfl) ?_
    refine z_callV (n := 0) (As := []) (rest := [.int i]) (r1 := 1) (mc1 := 0) (ms1 := 0) (ci := 0) (T0 := T_AL) C d_RC_knownEvacuation_9 k_96 k_93 k_94 k_95 k_4 (by decide +kernel) rfl rfl (by first | assumption | exact zu_s) (by decide) (by decide) (Nat.le_of_ble_eq_true rfl) (by first | decide | omega) (by first | decide | omega) rfl ?_
    refine cl_size hL ?_
    dsimp only [zps]
    rw [List.length_map]
    refine z_icmp_lt 26 C d_RC_knownEvacuation_12 (by decide) (fun c12 => ?_) (fun c12 => ?_)
    · obtain ⟨j, hj, rfl, -⟩ := pk_mu c1 (Int32.not_le.mpr c12) (by omega)
      obtain ⟨e, he⟩ : ∃ e, l[j]? = some e := ⟨_, List.getElem?_eq_getElem hj⟩
      obtain ⟨y, hy, hye, hyT⟩ := hL.atm he
      refine z_aload_n C d_RC_knownEvacuation_26 rfl rfl ?_
      refine z_get (ci := 7) (T := T_RC) (N := 8) C d_RC_knownEvacuation_27 6 i_RC rfl (by decide) k_66 (fun _ q => q) (by first | assumption | exact zu_s) (by rfl) ?_
      refine z_iload_n C d_RC_knownEvacuation_30 rfl rfl ?_
      refine z_callV (n := 1) (As := [.int (nI j)]) (rest := []) (r1 := 3) (mc1 := 0) (ms1 := 0) (ci := 0) (T0 := T_AL) C d_RC_knownEvacuation_31 k_277 k_274 k_275 k_276 k_4 (by decide +kernel) rfl rfl (by first | assumption | exact zu_s) (by decide) (by decide) (Nat.le_of_ble_eq_true rfl) (by first | decide | omega) (by first | decide | omega) rfl ?_
      refine cl_get hL hy ?_
      dsimp only [zps]
      refine z_cast (ci := 6) C d_RC_knownEvacuation_34 rfl k_652 hye ?_
      refine z_aret C d_RC_knownEvacuation_37 (by first | exact Or.inl ⟨_, rfl⟩ | exact Or.inr ⟨_, rfl⟩) ?_
      exact k j y e rfl he hy hye hyT
    · refine z_throwSW (text := "no such evacuation") (cls := "java/lang/IllegalArgumentException") C ht d_RC_knownEvacuation_15 d_RC_knownEvacuation_18 d_RC_knownEvacuation_19 d_RC_knownEvacuation_22 d_RC_knownEvacuation_25 (by decide +kernel) k_258 k_15 (by decide +kernel) (tho_IAE C) thg_IAE (by decide) (Nat.le_of_ble_eq_true rfl) (by first | decide | omega) (by first | decide | omega) ?_
      exact kx (Or.inr (Int32.not_lt.mp c12))
set_option maxRecDepth 100000 in
theorem ct_RC_checkSector {i : Int32} (kx : (i < 0 ∨ 10 ≤ i) → PX xIAE h) (k : ¬ i < 0 → i < 10 → PR none h) : Ct g y_RC_checkSector w_RC_checkSector 6 1 6 [.int i] h PR PX := by
  refine Ct_intro (cc := c_RC_checkSector) (nL := 1) (ret := none) (ls := [some (.int i)]) (by decide) (Nat.le_of_ble_eq_true rfl) rfl rfl ?_
  intro p e R s m args below meth c C ht hname
  refine z_iload_n C d_RC_checkSector_0 rfl rfl ?_
  refine z_if_lt 10 C d_RC_checkSector_1 (by decide) (fun c1 => ?_) (fun c1 => ?_)
  · refine z_throwS (text := "no such sector") (cls := "java/lang/IllegalArgumentException") C ht d_RC_checkSector_10 d_RC_checkSector_13 d_RC_checkSector_14 d_RC_checkSector_16 d_RC_checkSector_19 (by decide +kernel) k_258 k_15 (by decide +kernel) (tho_IAE C) thg_IAE (by decide) (Nat.le_of_ble_eq_true rfl) (by first | decide | omega) (by first | decide | omega) ?_
    exact kx (Or.inl c1)
  · refine z_iload_n C d_RC_checkSector_4 rfl rfl ?_
    refine z_bipush (v := 10) C d_RC_checkSector_5 (by decide) ?_
    refine z_icmp_lt 20 C d_RC_checkSector_7 (by decide) (fun c7 => ?_) (fun c7 => ?_)
    · refine z_vret C d_RC_checkSector_20 ?_
      exact k c1 c7
    · refine z_throwS (text := "no such sector") (cls := "java/lang/IllegalArgumentException") C ht d_RC_checkSector_10 d_RC_checkSector_13 d_RC_checkSector_14 d_RC_checkSector_16 d_RC_checkSector_19 (by decide +kernel) k_258 k_15 (by decide +kernel) (tho_IAE C) thg_IAE (by decide) (Nat.le_of_ble_eq_true rfl) (by first | decide | omega) (by first | decide | omega) ?_
      exact kx (Or.inr (Int32.not_lt.mp c7))
set_option maxRecDepth 100000 in
theorem ct_RC_checkIsOn {q : Nat} {r : RoT} (h0 : h q = some (roE r)) (kx : ¬ r.rd < 3 → PX xISE h) (k : r.rd < 3 → PR none h) : Ct g y_RC_checkIsOn w_RC_checkIsOn 6 1 6 [.ref q] h PR PX := by
  refine Ct_intro (cc := c_RC_checkIsOn) (nL := 1) (ret := none) (ls := [some (.ref q)]) (by decide) (Nat.le_of_ble_eq_true rfl) rfl rfl ?_
  intro p e R s m args below meth c C ht hname
  refine z_aload_n C d_RC_checkIsOn_0 rfl rfl ?_
  refine z_callV (n := 0) (As := []) (rest := []) (r1 := 1) (mc1 := 0) (ms1 := 0) (ci := 3) (T0 := T_RO) C d_RC_checkIsOn_1 k_379 k_376 k_377 k_378 k_21 (by decide +kernel) rfl rfl (by first | assumption | exact zu_s) (by decide) (by decide) (Nat.le_of_ble_eq_true rfl) (by first | decide | omega) (by first | decide | omega) rfl ?_
  refine ct_RO_isOver h0 ?_
  dsimp only [zps]
  by_cases hr : r.rd < 3
  · rw [if_pos hr]
    refine z_if_eq 17 C d_RC_checkIsOn_4 (by decide) (fun c4 => ?_) (fun c4 => ?_)
    · refine z_vret C d_RC_checkIsOn_17 ?_
      exact k hr
    · exact absurd rfl c4
  · rw [if_neg hr]
    refine z_if_eq 17 C d_RC_checkIsOn_4 (by decide) (fun c4 => ?_) (fun c4 => ?_)
    · exact absurd c4 (by decide)
    · refine z_throwS (text := "the roll is over") (cls := "java/lang/IllegalStateException") C ht d_RC_checkIsOn_7 d_RC_checkIsOn_10 d_RC_checkIsOn_11 d_RC_checkIsOn_13 d_RC_checkIsOn_16 (by decide +kernel) k_292 k_18 (by decide +kernel) (tho_ISE C) thg_ISE (by decide) (Nat.le_of_ble_eq_true rfl) (by first | decide | omega) (by first | decide | omega) ?_
      exact kx hr
set_option maxRecDepth 100000 in
theorem ct_RC_openMaydays {l : List MdT} (hx : h x = some (rcC gu lp lm lr ld ly le sec)) (hL : zLS g T h 5 ly LY (l.map mdE)) (k : PR (some (.int (nI (l.countP (fun e => e.op ≠ 0))))) h) : Ct g y_RC_openMaydays w_RC_openMaydays 4 0 0 [.ref x] h PR PX := by
  have hlt := hL.lt
  rw [List.length_map] at hlt
  obtain ⟨vs, hvs⟩ := hL.obj
  refine Ct_intro (cc := c_RC_openMaydays) (nL := 3) (ret := (some FieldType.int)) (ls := [some (.ref x), none, none]) (by decide) (Nat.le_of_ble_eq_true rfl) rfl rfl ?_
  intro p e R s m args below meth c C ht hname
  have loop : ∀ (j i acc : Nat), i + j = l.length → PR (some (.int (nI (acc + (l.drop i).countP (fun e => e.op ≠ 0))))) h → Z g 3 0 0 p e R s m args below meth c (vx_MQ below (zQ g PR) (zX g PX) args s 0 0 (zA g)) 0 0 4 [some (.ref x), some (.int (nI acc)), some (.int (nI i))] [] h := by
    intro j
    induction j with
    | zero =>
      intro i acc hi hp
      have : i = l.length := by omega
      subst this
      rw [List.drop_length] at hp
      refine z_iload_n C d_RC_openMaydays_4 rfl rfl ?_
      refine z_aload_n C d_RC_openMaydays_5 rfl rfl ?_
      refine z_get (ci := 7) (T := T_RC) (N := 8) C d_RC_openMaydays_6 5 i_RC rfl (by decide) k_65 (fun _ q => q) (by first | assumption | exact zu_s) (by rfl) ?_
      refine z_callV (n := 0) (As := []) (rest := [.int (nI l.length)]) (r1 := 1) (mc1 := 0) (ms1 := 0) (ci := 0) (T0 := T_AL) C d_RC_openMaydays_9 k_96 k_93 k_94 k_95 k_4 (by decide +kernel) rfl rfl (by first | assumption | exact zu_s) (by decide) (by decide) (Nat.le_of_ble_eq_true rfl) (by first | decide | omega) (by first | decide | omega) rfl ?_
      refine cl_size hL ?_
      dsimp only [zps]
      rw [List.length_map]
      refine z_icmp_ge 41 C d_RC_openMaydays_12 (by decide) (fun c12 => ?_) (fun c12 => ?_)
      · refine z_iload_n C d_RC_openMaydays_41 rfl rfl ?_
        refine z_iret C d_RC_openMaydays_42 ?_
        exact hp
      · exact absurd (Int32.le_refl _) c12
    | succ j ih =>
      intro i acc hi hp
      obtain ⟨e0, he, hd⟩ := zdrop (l := l) (k := i) (by omega)
      rw [hd, List.countP_cons] at hp
      obtain ⟨y, hy, hye, hyT⟩ := hL.atm he
      refine z_iload_n C d_RC_openMaydays_4 rfl rfl ?_
      refine z_aload_n C d_RC_openMaydays_5 rfl rfl ?_
      refine z_get (ci := 7) (T := T_RC) (N := 8) C d_RC_openMaydays_6 5 i_RC rfl (by decide) k_65 (fun _ q => q) (by first | assumption | exact zu_s) (by rfl) ?_
      refine z_callV (n := 0) (As := []) (rest := [.int (nI i)]) (r1 := 1) (mc1 := 0) (ms1 := 0) (ci := 0) (T0 := T_AL) C d_RC_openMaydays_9 k_96 k_93 k_94 k_95 k_4 (by decide +kernel) rfl rfl (by first | assumption | exact zu_s) (by decide) (by decide) (Nat.le_of_ble_eq_true rfl) (by first | decide | omega) (by first | decide | omega) rfl ?_
      refine cl_size hL ?_
      dsimp only [zps]
      rw [List.length_map]
      refine z_icmp_ge 41 C d_RC_openMaydays_12 (by decide) (fun c12 => ?_) (fun c12 => ?_)
      · exact absurd c12 (nI_ge (by omega) (by omega))
      · refine z_aload_n C d_RC_openMaydays_15 rfl rfl ?_
        refine z_get (ci := 7) (T := T_RC) (N := 8) C d_RC_openMaydays_16 5 i_RC rfl (by decide) k_65 (fun _ q => q) (by first | assumption | exact zu_s) (by rfl) ?_
        refine z_iload_n C d_RC_openMaydays_19 rfl rfl ?_
        refine z_callV (n := 1) (As := [.int (nI i)]) (rest := []) (r1 := 3) (mc1 := 0) (ms1 := 0) (ci := 0) (T0 := T_AL) C d_RC_openMaydays_20 k_277 k_274 k_275 k_276 k_4 (by decide +kernel) rfl rfl (by first | assumption | exact zu_s) (by decide) (by decide) (Nat.le_of_ble_eq_true rfl) (by first | decide | omega) (by first | decide | omega) rfl ?_
        refine cl_get hL hy ?_
        dsimp only [zps]
        refine z_cast (ci := 5) C d_RC_openMaydays_23 rfl k_388 hye ?_
        refine z_get (ci := 5) (T := T_MD) (N := 5) C d_RC_openMaydays_26 3 i_MD rfl (by decide) k_593 (fun _ q => q) hye (by rfl) ?_
        refine z_if_eq 35 C d_RC_openMaydays_29 (by decide) (fun c29 => ?_) (fun c29 => ?_)
        · refine z_iinc C d_RC_openMaydays_35 rfl (by decide) rfl ?_
          simp only [List.set, zi1, zim1]
          rw [nI_1]
          refine z_goto 4 C d_RC_openMaydays_38 (by decide) ?_
          refine ih (i + 1) acc (by omega) ?_
          rw [if_neg (by simpa using c29)] at hp
          exact hp
        · refine z_iinc C d_RC_openMaydays_32 rfl (by decide) rfl ?_
          simp only [List.set, zi1, zim1]
          refine z_iinc C d_RC_openMaydays_35 rfl (by decide) rfl ?_
          simp only [List.set, zi1, zim1]
          rw [nI_1, nI_1]
          refine z_goto 4 C d_RC_openMaydays_38 (by decide) ?_
          refine ih (i + 1) (acc + 1) (by omega) ?_
          rw [if_pos (by simpa using c29)] at hp
          rw [show acc + 1 + (l.drop (i + 1)).countP (fun e => e.op ≠ 0) = acc + ((l.drop (i + 1)).countP (fun e => e.op ≠ 0) + 1) by omega]
          exact hp
  refine z_iconst (v := 0) C d_RC_openMaydays_0 (by decide) ?_
  refine z_istore_n C d_RC_openMaydays_1 rfl (by decide) rfl ?_
  dsimp only [List.set]
  refine z_iconst (v := 0) C d_RC_openMaydays_2 (by decide) ?_
  refine z_istore_n C d_RC_openMaydays_3 rfl (by decide) rfl ?_
  dsimp only [List.set]
  exact loop l.length 0 0 (by omega) (by simpa using k)
set_option maxRecDepth 100000 in
theorem ct_RC_personsInside {l : List PeT} (hx : h x = some (rcC gu lp lm lr ld ly le sec)) (hL : zLS g T h 1 lp LP (l.map peE)) (k : PR (some (.int (nI (l.countP (fun e => e.1 ≠ -1))))) h) : Ct g y_RC_personsInside w_RC_personsInside 4 0 0 [.ref x] h PR PX := by
  have hlt := hL.lt
  rw [List.length_map] at hlt
  obtain ⟨vs, hvs⟩ := hL.obj
  refine Ct_intro (cc := c_RC_personsInside) (nL := 3) (ret := (some FieldType.int)) (ls := [some (.ref x), none, none]) (by decide) (Nat.le_of_ble_eq_true rfl) rfl rfl ?_
  intro p e R s m args below meth c C ht hname
  have loop : ∀ (j i acc : Nat), i + j = l.length → PR (some (.int (nI (acc + (l.drop i).countP (fun e => e.1 ≠ -1))))) h → Z g 3 0 0 p e R s m args below meth c (vx_MQ below (zQ g PR) (zX g PX) args s 0 0 (zA g)) 0 0 4 [some (.ref x), some (.int (nI acc)), some (.int (nI i))] [] h := by
    intro j
    induction j with
    | zero =>
      intro i acc hi hp
      have : i = l.length := by omega
      subst this
      rw [List.drop_length] at hp
      refine z_iload_n C d_RC_personsInside_4 rfl rfl ?_
      refine z_aload_n C d_RC_personsInside_5 rfl rfl ?_
      refine z_get (ci := 7) (T := T_RC) (N := 8) C d_RC_personsInside_6 1 i_RC rfl (by decide) k_61 (fun _ q => q) (by first | assumption | exact zu_s) (by rfl) ?_
      refine z_callV (n := 0) (As := []) (rest := [.int (nI l.length)]) (r1 := 1) (mc1 := 0) (ms1 := 0) (ci := 0) (T0 := T_AL) C d_RC_personsInside_9 k_96 k_93 k_94 k_95 k_4 (by decide +kernel) rfl rfl (by first | assumption | exact zu_s) (by decide) (by decide) (Nat.le_of_ble_eq_true rfl) (by first | decide | omega) (by first | decide | omega) rfl ?_
      refine cl_size hL ?_
      dsimp only [zps]
      rw [List.length_map]
      refine z_icmp_ge 42 C d_RC_personsInside_12 (by decide) (fun c12 => ?_) (fun c12 => ?_)
      · refine z_iload_n C d_RC_personsInside_42 rfl rfl ?_
        refine z_iret C d_RC_personsInside_43 ?_
        exact hp
      · exact absurd (Int32.le_refl _) c12
    | succ j ih =>
      intro i acc hi hp
      obtain ⟨e0, he, hd⟩ := zdrop (l := l) (k := i) (by omega)
      rw [hd, List.countP_cons] at hp
      obtain ⟨y, hy, hye, hyT⟩ := hL.atm he
      refine z_iload_n C d_RC_personsInside_4 rfl rfl ?_
      refine z_aload_n C d_RC_personsInside_5 rfl rfl ?_
      refine z_get (ci := 7) (T := T_RC) (N := 8) C d_RC_personsInside_6 1 i_RC rfl (by decide) k_61 (fun _ q => q) (by first | assumption | exact zu_s) (by rfl) ?_
      refine z_callV (n := 0) (As := []) (rest := [.int (nI i)]) (r1 := 1) (mc1 := 0) (ms1 := 0) (ci := 0) (T0 := T_AL) C d_RC_personsInside_9 k_96 k_93 k_94 k_95 k_4 (by decide +kernel) rfl rfl (by first | assumption | exact zu_s) (by decide) (by decide) (Nat.le_of_ble_eq_true rfl) (by first | decide | omega) (by first | decide | omega) rfl ?_
      refine cl_size hL ?_
      dsimp only [zps]
      rw [List.length_map]
      refine z_icmp_ge 42 C d_RC_personsInside_12 (by decide) (fun c12 => ?_) (fun c12 => ?_)
      · exact absurd c12 (nI_ge (by omega) (by omega))
      · refine z_aload_n C d_RC_personsInside_15 rfl rfl ?_
        refine z_get (ci := 7) (T := T_RC) (N := 8) C d_RC_personsInside_16 1 i_RC rfl (by decide) k_61 (fun _ q => q) (by first | assumption | exact zu_s) (by rfl) ?_
        refine z_iload_n C d_RC_personsInside_19 rfl rfl ?_
        refine z_callV (n := 1) (As := [.int (nI i)]) (rest := []) (r1 := 3) (mc1 := 0) (ms1 := 0) (ci := 0) (T0 := T_AL) C d_RC_personsInside_20 k_277 k_274 k_275 k_276 k_4 (by decide +kernel) rfl rfl (by first | assumption | exact zu_s) (by decide) (by decide) (Nat.le_of_ble_eq_true rfl) (by first | decide | omega) (by first | decide | omega) rfl ?_
        refine cl_get hL hy ?_
        dsimp only [zps]
        refine z_cast (ci := 1) C d_RC_personsInside_23 rfl k_166 hye ?_
        refine z_get (ci := 1) (T := T_PE) (N := 3) C d_RC_personsInside_26 0 i_PE rfl (by decide) k_173 (fun _ q => q) hye (by rfl) ?_
        refine z_iconst (v := (-1)) C d_RC_personsInside_29 (by decide) ?_
        refine z_icmp_eq 36 C d_RC_personsInside_30 (by decide) (fun c30 => ?_) (fun c30 => ?_)
        · refine z_iinc C d_RC_personsInside_36 rfl (by decide) rfl ?_
          simp only [List.set, zi1, zim1]
          rw [nI_1]
          refine z_goto 4 C d_RC_personsInside_39 (by decide) ?_
          refine ih (i + 1) acc (by omega) ?_
          rw [if_neg (by simpa using c30)] at hp
          exact hp
        · refine z_iinc C d_RC_personsInside_33 rfl (by decide) rfl ?_
          simp only [List.set, zi1, zim1]
          refine z_iinc C d_RC_personsInside_36 rfl (by decide) rfl ?_
          simp only [List.set, zi1, zim1]
          rw [nI_1, nI_1]
          refine z_goto 4 C d_RC_personsInside_39 (by decide) ?_
          refine ih (i + 1) (acc + 1) (by omega) ?_
          rw [if_pos (by simpa using c30)] at hp
          rw [show acc + 1 + (l.drop (i + 1)).countP (fun e => e.1 ≠ -1) = acc + ((l.drop (i + 1)).countP (fun e => e.1 ≠ -1) + 1) by omega]
          exact hp
  refine z_iconst (v := 0) C d_RC_personsInside_0 (by decide) ?_
  refine z_istore_n C d_RC_personsInside_1 rfl (by decide) rfl ?_
  dsimp only [List.set]
  refine z_iconst (v := 0) C d_RC_personsInside_2 (by decide) ?_
  refine z_istore_n C d_RC_personsInside_3 rfl (by decide) rfl ?_
  dsimp only [List.set]
  exact loop l.length 0 0 (by omega) (by simpa using k)
end RH
