/-! THE LAW'S LOOP -/
theorem lt4 {L i : Nat} (hL : L ≤ 2048) (hi : i ≤ 2048) (h : ¬ nI L - 4 < nI i) : i + 4 ≤ L := by
  by_cases hl : 4 ≤ L
  · rw [show (4 : Int32) = nI 4 from rfl, pk_sub hl, nI_ltI (by omega) (by omega)] at h
    omega
  · exfalso
    refine h (Int32.lt_of_lt_of_le ?_ (nI_pos' (n := i) (by omega)))
    rcases (show L = 0 ∨ L = 1 ∨ L = 2 ∨ L = 3 by omega) with rfl | rfl | rfl | rfl <;> decide
section LOOP
variable {g : zG} {mc ms : Nat} {p : Program} {e : Env} {R : Room} {s : State} {m : MethodId} {args : Array Value} {below : List Frame} {meth : Method} {c : Code} {Q : State → Prop} {rc rs : Nat} {h : Hp} {T : Tg} {x mo ou b L i : Nat} {A : Nat → Nat} {S : CS} {F : FT} {xs : Nat → Int32} {v5 v6 : Option Value}
set_option maxRecDepth 100000 in
theorem lb_head (C : zC g "RollCallsLaw" code 7 (some .boolean) 11 mc ms p e R s m args below meth c) (hX : va_X b L xs s s.heap) (hbl : b < s.heap.size) (hbA : ¬ zA g b) (hL : L ≤ 2048) (hi : i ≤ 2048) (kE : ∀ (ls : List (Option Value)) (h : Hp), Z g 7 mc ms p e R s m args below meth c Q 0 0 1310 ls [] h) (nx : i + 4 ≤ L → Z g 7 mc ms p e R s m args below meth c Q rc rs 32 [some (.ref b), some (.ref x), some (.ref mo), some (.ref ou), some (.int (nI i)), v5, v6] [] h) : Z g 7 mc ms p e R s m args below meth c Q rc rs 23 [some (.ref b), some (.ref x), some (.ref mo), some (.ref ou), some (.int (nI i)), v5, v6] [] h := by
  refine z_iload C d_LW_law_23 rfl ?_
  refine z_aload_n C d_LW_law_25 rfl rfl ?_
  refine z_slen C d_LW_law_26 hX hbl hbA ?_
  refine z_iconst (v := 4) C d_LW_law_27 (by decide) ?_
  refine z_isub C d_LW_law_28 ?_
  refine z_icmp_gt 1310 C d_LW_law_29 (by decide) (fun cl => ?_) (fun cl => ?_)
  · exact z_less (Nat.zero_le _) (Nat.zero_le _) (kE _ _)
  · exact nx (lt4 hL hi cl)
set_option maxRecDepth 100000 in
theorem lb_loop (C : zC g "RollCallsLaw" code 7 (some .boolean) 11 mc ms p e R s m args below meth c) (hX : va_X b L xs s s.heap) (hbl : b < s.heap.size) (hbA : ¬ zA g b) (hL : L ≤ 2048) (kE : ∀ (ls : List (Option Value)) (h : Hp), Z g 7 mc ms p e R s m args below meth c Q 0 0 1310 ls [] h) : ∀ (n i : Nat) (T : Tg) (h : Hp) (S : CS) (F : FT) (v5 v6 : Option Value), LI g T h x mo ou A S F → L < i + 4 * (n + 1) → i ≤ 2048 → Z g 7 mc ms p e R s m args below meth c Q (6 * n) (540 * n) 23 [some (.ref b), some (.ref x), some (.ref mo), some (.ref ou), some (.int (nI i)), v5, v6] [] h := by
  intro n
  induction n with
  | zero =>
    intro i T h S F v5 v6 hI h1 h2
    exact lb_head C hX hbl hbA hL h2 kE (fun z => absurd z (by omega))
  | succ n ih =>
    intro i T h S F v5 v6 hI h1 h2
    refine lb_head C hX hbl hbA hL h2 kE (fun z => ?_)
    have i0 : vp_in (nI i) L := nI_in (by omega) (by omega)
    have i1 : vp_in (nI i + 1) L := by
      rw [nI_1]
      exact nI_in (by omega) (by omega)
    have i2 : vp_in (nI i + 2) L := by
      rw [show (2 : Int32) = nI 2 from rfl, nI_add]
      exact nI_in (by omega) (by omega)
    have i3 : vp_in (nI i + 3) L := by
      rw [show (3 : Int32) = nI 3 from rfl, nI_add]
      exact nI_in (by omega) (by omega)
    have nx : ∀ (T1 : Tg) (h1 : Hp) (S1 : CS) (F1 : FT) (w5 w6 : Option Value), LI g T1 h1 x mo ou A S1 F1 → Z g 7 mc ms p e R s m args below meth c Q (6 * (n + 1) - 6) (540 * (n + 1) - 540) 1304 [some (.ref b), some (.ref x), some (.ref mo), some (.ref ou), some (.int (nI i)), w5, w6] [] h1 := by
      intro T1 h3 S1 F1 w5 w6 hI1
      refine z_iinc (x := nI i) C d_LW_law_1304 rfl (by decide) rfl ?_
      rw [show nI i + Int32.ofInt 4 = nI (i + 4) from by rw [show Int32.ofInt 4 = nI 4 from rfl, nI_add]]
      dsimp only [List.set]
      refine z_goto 23 C d_LW_law_1307 (by decide) ?_
      exact z_less (by omega) (by omega) (ih (i + 4) T1 h3 S1 F1 w5 w6 hI1 (by omega) (by omega))
    refine z_aload_n C d_LW_law_32 rfl rfl ?_
    refine z_iload C d_LW_law_33 rfl ?_
    refine z_sld C d_LW_law_35 hX hbl hbA i0 ?_
    refine z_bipush (v := 31) C d_LW_law_36 (by decide) ?_
    refine z_iand C d_LW_law_38 ?_
    generalize xs (nI i).toNatClampNeg &&& 31 = w
    by_cases hw : w.toInt < 0 ∨ 19 < w.toInt
    · refine z_tableOut 1304 C d_LW_law_39 (by first | assumption | decide) (by decide) ?_
      exact z_less (by omega) (by omega) (nx T h S F v5 v6 hI)
    · obtain ⟨j, hj, rfl⟩ := inN_t (n := 20) (by decide) (inT_t (n := 19) (by decide) hw)
      rcases (show j = 0 ∨ j = 1 ∨ j = 2 ∨ j = 3 ∨ j = 4 ∨ j = 5 ∨ j = 6 ∨ j = 7 ∨ j = 8 ∨ j = 9 ∨ j = 10 ∨ j = 11 ∨ j = 12 ∨ j = 13 ∨ j = 14 ∨ j = 15 ∨ j = 16 ∨ j = 17 ∨ j = 18 ∨ j = 19 by omega) with rfl | rfl | rfl | rfl | rfl | rfl | rfl | rfl | rfl | rfl | rfl | rfl | rfl | rfl | rfl | rfl | rfl | rfl | rfl | rfl
      · refine z_tableIn 132 C d_LW_law_39 (by decide) (by decide) rfl (by decide) ?_
        exact lb_person C hX hbl hbA i1 i2 i3 hI (by omega) (by omega) nx
      · refine z_tableIn 176 C d_LW_law_39 (by decide) (by decide) rfl (by decide) ?_
        exact lb_enter C hX hbl hbA i1 i2 i3 hI (by omega) (by omega) nx
      · refine z_tableIn 224 C d_LW_law_39 (by decide) (by decide) rfl (by decide) ?_
        exact lb_leave C hX hbl hbA i1 i2 i3 hI (by omega) (by omega) nx
      · refine z_tableIn 260 C d_LW_law_39 (by decide) (by decide) rfl (by decide) ?_
        exact lb_guests C hX hbl hbA i1 i2 i3 hI (by omega) (by omega) nx
      · refine z_tableIn 308 C d_LW_law_39 (by decide) (by decide) rfl (by decide) ?_
        exact lb_roll C hX hbl hbA i1 i2 i3 hI (by omega) (by omega) nx
      · refine z_tableIn 364 C d_LW_law_39 (by decide) (by decide) rfl (by decide) ?_
        exact lb_answer C hX hbl hbA i1 i2 i3 hI (by omega) (by omega) nx
      · refine z_tableIn 444 C d_LW_law_39 (by decide) (by decide) rfl (by decide) ?_
        exact lb_seen C hX hbl hbA i1 i2 i3 hI (by omega) (by omega) nx
      · refine z_tableIn 512 C d_LW_law_39 (by decide) (by decide) rfl (by decide) ?_
        exact lb_round C hX hbl hbA i1 i2 i3 hI (by omega) (by omega) nx
      · refine z_tableIn 568 C d_LW_law_39 (by decide) (by decide) rfl (by decide) ?_
        exact lb_rollAt C hX hbl hbA i1 i2 i3 hI (by omega) (by omega) nx
      · refine z_tableIn 636 C d_LW_law_39 (by decide) (by decide) rfl (by decide) ?_
        exact lb_missing C hX hbl hbA i1 i2 i3 hI (by omega) (by omega) nx
      · refine z_tableIn 704 C d_LW_law_39 (by decide) (by decide) rfl (by decide) ?_
        exact lb_twice C hX hbl hbA i1 i2 i3 hI (by omega) (by omega) nx
      · refine z_tableIn 772 C d_LW_law_39 (by decide) (by decide) rfl (by decide) ?_
        exact lb_mayday C hX hbl hbA i1 i2 i3 hI (by omega) (by omega) nx
      · refine z_tableIn 840 C d_LW_law_39 (by decide) (by decide) rfl (by decide) ?_
        exact lb_answered C hX hbl hbA i1 i2 i3 hI (by omega) (by omega) nx
      · refine z_tableIn 876 C d_LW_law_39 (by decide) (by decide) rfl (by decide) ?_
        exact lb_maydayAt C hX hbl hbA i1 i2 i3 hI (by omega) (by omega) nx
      · refine z_tableIn 944 C d_LW_law_39 (by decide) (by decide) rfl (by decide) ?_
        exact lb_evacuate C hX hbl hbA i1 i2 i3 hI (by omega) (by omega) nx
      · refine z_tableIn 1000 C d_LW_law_39 (by decide) (by decide) rfl (by decide) ?_
        exact lb_confirm C hX hbl hbA i1 i2 i3 hI (by omega) (by omega) nx
      · refine z_tableIn 1056 C d_LW_law_39 (by decide) (by decide) rfl (by decide) ?_
        exact lb_late C hX hbl hbA i1 i2 i3 hI (by omega) (by omega) nx
      · refine z_tableIn 1124 C d_LW_law_39 (by decide) (by decide) rfl (by decide) ?_
        exact lb_tick C hX hbl hbA i1 i2 i3 hI (by omega) (by omega) nx
      · refine z_tableIn 1180 C d_LW_law_39 (by decide) (by decide) rfl (by decide) ?_
        exact lb_was C hX hbl hbA i1 i2 i3 hI (by omega) (by omega) nx
      · refine z_tableIn 1248 C d_LW_law_39 (by decide) (by decide) rfl (by decide) ?_
        exact lb_count C hX hbl hbA i1 i2 i3 hI (by omega) (by omega) nx
set_option maxRecDepth 100000 in
theorem lb_start (C : zC g "RollCallsLaw" code 7 (some .boolean) 11 3103 285666 p e R s m args below meth c) (hX : va_X b L xs s s.heap) (hbl : b < s.heap.size) (hbA : ¬ zA g b) (hL : L ≤ 2048) (kE : ∀ (ls : List (Option Value)) (h : Hp), Z g 7 3103 285666 p e R s m args below meth c Q 0 0 1310 ls [] h) : Z g 7 3103 285666 p e R s m args below meth c Q 3103 285666 0 [some (.ref b), none, none, none, none, none, none] [] (fun _ => none) := by
  refine z_new (ci := 7) (fs := [.null, .null, .null, .null, .null, .null, .null, .int 0]) (T := T_RC) (N := 8) C d_LW_law_0 ty_RC t_RC i_RC rfl k_25 k_26 k_1 (fun j hj => by rcases (show j = 0 ∨ j = 1 ∨ j = 2 ∨ j = 3 ∨ j = 4 ∨ j = 5 ∨ j = 6 ∨ j = 7 by omega) with rfl | rfl | rfl | rfl | rfl | rfl | rfl | rfl <;> rfl) (by first | decide | omega) (by first | decide | omega) (fun q0 hq0 => ?_)
  refine z_dup C d_LW_law_3 rfl ?_
  refine z_callI (n := 0) (As := []) (rest := [.ref q0]) (r1 := 4) (mc1 := 7) (ms1 := 28) C d_LW_law_4 k_29 k_27 k_28 k_1 rfl (by decide +kernel) rfl (by decide) (by decide) (Nat.le_of_ble_eq_true rfl) (by first | decide | omega) (by first | decide | omega) rfl ?_
  refine ct_RC_init (T := fun _ => (0, 99)) zu_s (fun h1 T1 hR1 ex1 => ?_)
  dsimp only [zps]
  refine z_astore_n C d_LW_law_7 rfl (by decide) rfl ?_
  dsimp only [List.set]
  refine z_new (ci := 8) (fs := [.int 0, .int 0, .int 0, .null, .int 0, .null, .null, .null, .int 0, .null, .null, .null, .null, .null, .null, .null, .null, .null, .int 0, .null, .int 0, .null, .null, .null, .null, .null, .int 0, .null, .null]) (T := T_MM) (N := 29) C d_LW_law_8 ty_MM t_MM i_MM rfl k_741 k_742 k_5 (fun j hj => by rcases (show j = 0 ∨ j = 1 ∨ j = 2 ∨ j = 3 ∨ j = 4 ∨ j = 5 ∨ j = 6 ∨ j = 7 ∨ j = 8 ∨ j = 9 ∨ j = 10 ∨ j = 11 ∨ j = 12 ∨ j = 13 ∨ j = 14 ∨ j = 15 ∨ j = 16 ∨ j = 17 ∨ j = 18 ∨ j = 19 ∨ j = 20 ∨ j = 21 ∨ j = 22 ∨ j = 23 ∨ j = 24 ∨ j = 25 ∨ j = 26 ∨ j = 27 ∨ j = 28 by omega) with rfl | rfl | rfl | rfl | rfl | rfl | rfl | rfl | rfl | rfl | rfl | rfl | rfl | rfl | rfl | rfl | rfl | rfl | rfl | rfl | rfl | rfl | rfl | rfl | rfl | rfl | rfl | rfl | rfl <;> rfl) (by first | decide | omega) (by first | decide | omega) (fun q8 hq8 => ?_)
  refine z_dup C d_LW_law_11 rfl ?_
  refine z_callI (n := 0) (As := []) (rest := [.ref q8]) (r1 := 1) (mc1 := 21) (ms1 := 9120) C d_LW_law_12 k_745 k_743 k_744 k_5 rfl (by decide +kernel) rfl (by decide) (by decide) (Nat.le_of_ble_eq_true rfl) (by first | decide | omega) (by first | decide | omega) rfl ?_
  refine ct_MM_init (T := T1) zu_s (fun h2 T2 A hM2 ex2 => ?_)
  dsimp only [zps]
  refine z_astore_n C d_LW_law_15 rfl (by decide) rfl ?_
  dsimp only [List.set]
  refine z_iconst (v := 1) C d_LW_law_16 (by decide) ?_
  refine z_newaL (N0 := 1) C d_LW_law_17 k_990 (zC_L C) (by decide) (by decide) (by decide) (by first | decide | omega) (by first | decide | omega) (fun q17 hq17 => ?_)
  refine z_astore_n C d_LW_law_19 rfl (by decide) rfl ?_
  dsimp only [List.set]
  refine z_iconst (v := 0) C d_LW_law_20 (by decide) ?_
  refine z_istore C d_LW_law_21 (by decide) rfl ?_
  dsimp only [List.set]
  have ne8 : ∀ q, h1 q ≠ none → q ≠ q8 := fun q hq z => hq (z ▸ hq8)
  have hR2 : RepC g T2 h2 q0 S0 := by
    refine hR1.ext (fun q hq => ?_) (fun q hq _ => ?_)
    · exact ((ex2 q (by rw [zu_n (ne8 q hq)]; exact hq)).2 (ne8 q hq)).1
    · exact ((ex2 q (by rw [zu_n (ne8 q hq)]; exact hq)).2 (ne8 q hq)).2.trans (zu_n (ne8 q hq))
  have ne17 : ∀ q, h2 q ≠ none → q ≠ q17 := fun q hq z => hq (z ▸ hq17)
  have hR3 : RepC g (tg T2 q17 (0, 30)) (zu h2 q17 (la g 1 (fun _ => 0))) q0 S0 := hR2.ext (fun q hq => tg_n (ne17 q hq)) (fun q hq _ => zu_n (ne17 q hq))
  have hM3 : RepM g (tg T2 q17 (0, 30)) (zu h2 q17 (la g 1 (fun _ => 0))) q8 A 0 S0 (fun _ _ => 0) := by
    obtain ⟨m1, m2, m3⟩ := hM2
    refine ⟨(zu_n (ne17 q8 (zne m1))).trans m1, (tg_n (ne17 q8 (zne m1))).trans m2, fun j hj => ?_⟩
    obtain ⟨n1, n2⟩ := m3 j hj
    exact ⟨(zu_n (ne17 _ (zne n1))).trans n1, (tg_n (ne17 _ (zne n1))).trans n2⟩
  refine z_less (rc1 := 6 * 512) (rs1 := 540 * 512) (by decide) (by decide) ?_
  exact lb_loop C hX hbl hbA hL kE 512 0 (tg T2 q17 (0, 30)) _ S0 (fun _ _ => 0) none none ⟨hR3, ⟨0, hM3⟩, Rel.start, ⟨_, zu_s⟩, tg_s⟩ (by omega) (by omega)
end LOOP
