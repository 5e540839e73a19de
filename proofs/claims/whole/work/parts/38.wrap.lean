/-! the law's wrappers, over any contract of the class's method -/
section LA
variable {g : zG} {T : Tg} {h : Hp} {PR : Option Value → Hp → Prop} {PX : String → Hp → Prop}
theorem Ct_mono {y : MethodName} {w : Cond} {r mc ms : Nat} {av : List Value} {PR1 : Option Value → Hp → Prop} {PX1 : String → Hp → Prop} (ct : Ct g y w r mc ms av h PR PX) (hR : ∀ v h1, PR v h1 → PR1 v h1) (hX : ∀ E h1, PX E h1 → PX1 E h1) : Ct g y w r mc ms av h PR1 PX1 := by
  intro p e a1 a2 a3 s m args below b1 b2 b3 b4
  obtain ⟨n, o, c1, c2, c3, c4⟩ := ct p e a1 a2 a3 s m args below b1 b2 b3 b4
  refine ⟨n, o, c1, c2, c3, ?_⟩
  rcases c4 with ⟨⟨⟨v, h1, q1, q2, q3⟩, q4⟩, q5⟩ | ⟨q, q1, E, ce, L, ⟨⟨h1, x1, x2⟩, x3⟩, q2⟩
  · exact Or.inl ⟨⟨⟨v, h1, q1, hR v h1 q2, q3⟩, q4⟩, q5⟩
  · exact Or.inr ⟨q, q1, E, ce, L, ⟨⟨h1, hX E h1 x1, x2⟩, x3⟩, q2⟩
set_option maxRecDepth 100000 in
theorem ct_LW_person {x ou : Nat} {vs : List Value} (hx : h x = some (.inr (7, vs))) (hct : Ct g y_RC_person w_RC_person 8 2 453 [.ref x] h (fun v h1 => ∃ (w : Int32) (f : Nat → Int64), v = some (.int w) ∧ h1 ou = some (la g 1 f) ∧ PR (some (.int 0)) (zu h1 ou (la g 1 (vp_updL f 0 w.toInt64)))) (fun E h1 => (E = xUOE ∧ PR (some (.int 1)) h1))) : Ct g y_LW_person w_LW_person 10 6 540 [.ref x, .ref ou] h PR PX := by
  refine Ct_introW (cc := c_LW_person) (nL := 3) (ret := (some FieldType.int)) (ls := [some (.ref x), some (.ref ou), none]) (by decide) (Nat.le_of_ble_eq_true rfl) rfl rfl ?_
  intro p e R s m args below meth c C ht
  refine z_aload_n C d_LW_person_0 rfl rfl ?_
  refine z_iconst (v := 0) C d_LW_person_1 (by decide) ?_
  refine z_aload_n C d_LW_person_2 rfl rfl ?_
  refine z_callV (n := 0) (As := []) (rest := [.int 0, .ref ou]) (r1 := 8) (mc1 := 2) (ms1 := 453) (ci := 7) (T0 := T_RC) C d_LW_person_3 k_92 k_89 k_90 k_91 k_1 (by decide +kernel) rfl rfl (hx) (by decide) (by decide) (Nat.le_of_ble_eq_true rfl) (by first | decide | omega) (by first | decide | omega) rfl ?_
  refine Ct_mono hct (fun v h1 hv => ?_) (fun E h1 hE => ?_)
  · obtain ⟨w, f, rfl, hf, k⟩ := hv
    dsimp only [zps]
    refine z_i2l C d_LW_person_6 ?_
    refine z_last C d_LW_person_7 (hf) (vp_in_nI (n := 0) (by decide) (by decide)) ?_
    refine z_goto 14 C d_LW_person_8 (by decide) ?_
    refine z_iconst (v := 0) C d_LW_person_14 (by decide) ?_
    refine z_iret C d_LW_person_15 ?_
    exact k
  · obtain ⟨rfl, k⟩ := hE
    refine zx_catch C [] ⟨0, 8, 11, 13⟩ [] (by rw [ht]; rfl) (fun z hz => by cases hz) (by decide) (by decide) k_88 (by decide +kernel) (fun q => ?_)
    refine z_astore_n C d_LW_person_11 rfl (by decide) rfl ?_
    dsimp only [List.set]
    refine z_iconst (v := 1) C d_LW_person_12 (by decide) ?_
    refine z_iret C d_LW_person_13 ?_
    exact k
set_option maxRecDepth 100000 in
theorem ct_LW_enter {x : Nat} {vs : List Value} {a0 a1 : Int32} (hx : h x = some (.inr (7, vs))) (hct : Ct g y_RC_enter w_RC_enter 9 5 500 [.ref x, .int a0, .int a1] h (fun v h1 => v = none ∧ PR (some (.int 0)) h1) (fun E h1 => (E = xIAE ∧ PR (some (.int 1)) h1) ∨ (E = xISE ∧ PR (some (.int 2)) h1) ∨ (E = xUOE ∧ PR (some (.int 3)) h1))) : Ct g y_LW_enter w_LW_enter 10 6 540 [.ref x, .int a0, .int a1] h PR PX := by
  refine Ct_introW (cc := c_LW_enter) (nL := 4) (ret := (some FieldType.int)) (ls := [some (.ref x), some (.int a0), some (.int a1), none]) (by decide) (Nat.le_of_ble_eq_true rfl) rfl rfl ?_
  intro p e R s m args below meth c C ht
  refine z_aload_n C d_LW_enter_0 rfl rfl ?_
  refine z_iload_n C d_LW_enter_1 rfl rfl ?_
  refine z_iload_n C d_LW_enter_2 rfl rfl ?_
  refine z_callV (n := 2) (As := [.int a0, .int a1]) (rest := []) (r1 := 9) (mc1 := 5) (ms1 := 500) (ci := 7) (T0 := T_RC) C d_LW_enter_3 k_253 k_250 k_251 k_252 k_1 (by decide +kernel) rfl rfl (hx) (by decide) (by decide) (Nat.le_of_ble_eq_true rfl) (by first | decide | omega) (by first | decide | omega) rfl ?_
  refine Ct_mono hct (fun v h1 hv => ?_) (fun E h1 hE => ?_)
  · obtain ⟨rfl, k⟩ := hv
    dsimp only [zps]
    refine z_goto 18 C d_LW_enter_6 (by decide) ?_
    refine z_iconst (v := 0) C d_LW_enter_18 (by decide) ?_
    refine z_iret C d_LW_enter_19 ?_
    exact k
  · rcases hE with ⟨rfl, k⟩ | ⟨rfl, k⟩ | ⟨rfl, k⟩
    · refine zx_catch C [] ⟨0, 6, 9, 19⟩ [⟨0, 6, 12, 21⟩, ⟨0, 6, 15, 13⟩] (by rw [ht]; rfl) (fun z hz => by cases hz) (by decide) (by decide) k_248 (by decide +kernel) (fun q => ?_)
      refine z_astore_n C d_LW_enter_9 rfl (by decide) rfl ?_
      dsimp only [List.set]
      refine z_iconst (v := 1) C d_LW_enter_10 (by decide) ?_
      refine z_iret C d_LW_enter_11 ?_
      exact k
    · refine zx_catch C [⟨0, 6, 9, 19⟩] ⟨0, 6, 12, 21⟩ [⟨0, 6, 15, 13⟩] (by rw [ht]; rfl) (fun z hz => by
        rcases (show z = ⟨0, 6, 9, 19⟩ from by simpa using hz) with rfl
        · exact Or.inr ⟨by decide, _, k_248, by decide +kernel⟩) (by decide) (by decide) k_249 (by decide +kernel) (fun q => ?_)
      refine z_astore_n C d_LW_enter_12 rfl (by decide) rfl ?_
      dsimp only [List.set]
      refine z_iconst (v := 2) C d_LW_enter_13 (by decide) ?_
      refine z_iret C d_LW_enter_14 ?_
      exact k
    · refine zx_catch C [⟨0, 6, 9, 19⟩, ⟨0, 6, 12, 21⟩] ⟨0, 6, 15, 13⟩ [] (by rw [ht]; rfl) (fun z hz => by
        rcases (show z = ⟨0, 6, 9, 19⟩ ∨ z = ⟨0, 6, 12, 21⟩ from by simpa using hz) with rfl | rfl
        · exact Or.inr ⟨by decide, _, k_248, by decide +kernel⟩
        · exact Or.inr ⟨by decide, _, k_249, by decide +kernel⟩) (by decide) (by decide) k_88 (by decide +kernel) (fun q => ?_)
      refine z_astore_n C d_LW_enter_15 rfl (by decide) rfl ?_
      dsimp only [List.set]
      refine z_iconst (v := 3) C d_LW_enter_16 (by decide) ?_
      refine z_iret C d_LW_enter_17 ?_
      exact k
set_option maxRecDepth 100000 in
theorem ct_LW_leave {x : Nat} {vs : List Value} {a0 : Int32} (hx : h x = some (.inr (7, vs))) (hct : Ct g y_RC_leave w_RC_leave 9 5 500 [.ref x, .int a0] h (fun v h1 => v = none ∧ PR (some (.int 0)) h1) (fun E h1 => (E = xIAE ∧ PR (some (.int 1)) h1) ∨ (E = xISE ∧ PR (some (.int 2)) h1) ∨ (E = xUOE ∧ PR (some (.int 3)) h1))) : Ct g y_LW_leave w_LW_leave 10 6 540 [.ref x, .int a0] h PR PX := by
  refine Ct_introW (cc := c_LW_leave) (nL := 3) (ret := (some FieldType.int)) (ls := [some (.ref x), some (.int a0), none]) (by decide) (Nat.le_of_ble_eq_true rfl) rfl rfl ?_
  intro p e R s m args below meth c C ht
  refine z_aload_n C d_LW_leave_0 rfl rfl ?_
  refine z_iload_n C d_LW_leave_1 rfl rfl ?_
  refine z_callV (n := 1) (As := [.int a0]) (rest := []) (r1 := 9) (mc1 := 5) (ms1 := 500) (ci := 7) (T0 := T_RC) C d_LW_leave_2 k_338 k_335 k_336 k_337 k_1 (by decide +kernel) rfl rfl (hx) (by decide) (by decide) (Nat.le_of_ble_eq_true rfl) (by first | decide | omega) (by first | decide | omega) rfl ?_
  refine Ct_mono hct (fun v h1 hv => ?_) (fun E h1 hE => ?_)
  · obtain ⟨rfl, k⟩ := hv
    dsimp only [zps]
    refine z_goto 17 C d_LW_leave_5 (by decide) ?_
    refine z_iconst (v := 0) C d_LW_leave_17 (by decide) ?_
    refine z_iret C d_LW_leave_18 ?_
    exact k
  · rcases hE with ⟨rfl, k⟩ | ⟨rfl, k⟩ | ⟨rfl, k⟩
    · refine zx_catch C [] ⟨0, 5, 8, 19⟩ [⟨0, 5, 11, 21⟩, ⟨0, 5, 14, 13⟩] (by rw [ht]; rfl) (fun z hz => by cases hz) (by decide) (by decide) k_248 (by decide +kernel) (fun q => ?_)
      refine z_astore_n C d_LW_leave_8 rfl (by decide) rfl ?_
      dsimp only [List.set]
      refine z_iconst (v := 1) C d_LW_leave_9 (by decide) ?_
      refine z_iret C d_LW_leave_10 ?_
      exact k
    · refine zx_catch C [⟨0, 5, 8, 19⟩] ⟨0, 5, 11, 21⟩ [⟨0, 5, 14, 13⟩] (by rw [ht]; rfl) (fun z hz => by
        rcases (show z = ⟨0, 5, 8, 19⟩ from by simpa using hz) with rfl
        · exact Or.inr ⟨by decide, _, k_248, by decide +kernel⟩) (by decide) (by decide) k_249 (by decide +kernel) (fun q => ?_)
      refine z_astore_n C d_LW_leave_11 rfl (by decide) rfl ?_
      dsimp only [List.set]
      refine z_iconst (v := 2) C d_LW_leave_12 (by decide) ?_
      refine z_iret C d_LW_leave_13 ?_
      exact k
    · refine zx_catch C [⟨0, 5, 8, 19⟩, ⟨0, 5, 11, 21⟩] ⟨0, 5, 14, 13⟩ [] (by rw [ht]; rfl) (fun z hz => by
        rcases (show z = ⟨0, 5, 8, 19⟩ ∨ z = ⟨0, 5, 11, 21⟩ from by simpa using hz) with rfl | rfl
        · exact Or.inr ⟨by decide, _, k_248, by decide +kernel⟩
        · exact Or.inr ⟨by decide, _, k_249, by decide +kernel⟩) (by decide) (by decide) k_88 (by decide +kernel) (fun q => ?_)
      refine z_astore_n C d_LW_leave_14 rfl (by decide) rfl ?_
      dsimp only [List.set]
      refine z_iconst (v := 3) C d_LW_leave_15 (by decide) ?_
      refine z_iret C d_LW_leave_16 ?_
      exact k
set_option maxRecDepth 100000 in
theorem ct_LW_guests {x : Nat} {vs : List Value} {a0 a1 : Int32} (hx : h x = some (.inr (7, vs))) (hct : Ct g y_RC_guests w_RC_guests 7 2 12 [.ref x, .int a0, .int a1] h (fun v h1 => v = none ∧ PR (some (.int 0)) h1) (fun E h1 => (E = xIAE ∧ PR (some (.int 1)) h1) ∨ (E = xIOB ∧ PR (some (.int 2)) h1))) : Ct g y_LW_guests w_LW_guests 10 6 540 [.ref x, .int a0, .int a1] h PR PX := by
  refine Ct_introW (cc := c_LW_guests) (nL := 4) (ret := (some FieldType.int)) (ls := [some (.ref x), some (.int a0), some (.int a1), none]) (by decide) (Nat.le_of_ble_eq_true rfl) rfl rfl ?_
  intro p e R s m args below meth c C ht
  refine z_aload_n C d_LW_guests_0 rfl rfl ?_
  refine z_iload_n C d_LW_guests_1 rfl rfl ?_
  refine z_iload_n C d_LW_guests_2 rfl rfl ?_
  refine z_callV (n := 2) (As := [.int a0, .int a1]) (rest := []) (r1 := 7) (mc1 := 2) (ms1 := 12) (ci := 7) (T0 := T_RC) C d_LW_guests_3 k_347 k_344 k_345 k_346 k_1 (by decide +kernel) rfl rfl (hx) (by decide) (by decide) (Nat.le_of_ble_eq_true rfl) (by first | decide | omega) (by first | decide | omega) rfl ?_
  refine Ct_mono hct (fun v h1 hv => ?_) (fun E h1 hE => ?_)
  · obtain ⟨rfl, k⟩ := hv
    dsimp only [zps]
    refine z_goto 15 C d_LW_guests_6 (by decide) ?_
    refine z_iconst (v := 0) C d_LW_guests_15 (by decide) ?_
    refine z_iret C d_LW_guests_16 ?_
    exact k
  · rcases hE with ⟨rfl, k⟩ | ⟨rfl, k⟩
    · refine zx_catch C [] ⟨0, 6, 9, 19⟩ [⟨0, 6, 12, 30⟩] (by rw [ht]; rfl) (fun z hz => by cases hz) (by decide) (by decide) k_248 (by decide +kernel) (fun q => ?_)
      refine z_astore_n C d_LW_guests_9 rfl (by decide) rfl ?_
      dsimp only [List.set]
      refine z_iconst (v := 1) C d_LW_guests_10 (by decide) ?_
      refine z_iret C d_LW_guests_11 ?_
      exact k
    · refine zx_catch C [⟨0, 6, 9, 19⟩] ⟨0, 6, 12, 30⟩ [] (by rw [ht]; rfl) (fun z hz => by
        rcases (show z = ⟨0, 6, 9, 19⟩ from by simpa using hz) with rfl
        · exact Or.inr ⟨by decide, _, k_248, by decide +kernel⟩) (by decide) (by decide) k_343 (by decide +kernel) (fun q => ?_)
      refine z_astore_n C d_LW_guests_12 rfl (by decide) rfl ?_
      dsimp only [List.set]
      refine z_iconst (v := 2) C d_LW_guests_13 (by decide) ?_
      refine z_iret C d_LW_guests_14 ?_
      exact k
set_option maxRecDepth 100000 in
theorem ct_LW_roll {x ou : Nat} {vs : List Value} {a0 : Int32} (hx : h x = some (.inr (7, vs))) (hct : Ct g y_RC_roll w_RC_roll 8 5 540 [.ref x, .int a0] h (fun v h1 => ∃ (w : Int32) (f : Nat → Int64), v = some (.int w) ∧ h1 ou = some (la g 1 f) ∧ PR (some (.int 0)) (zu h1 ou (la g 1 (vp_updL f 0 w.toInt64)))) (fun E h1 => (E = xIAE ∧ PR (some (.int 1)) h1) ∨ (E = xISE ∧ PR (some (.int 2)) h1) ∨ (E = xUOE ∧ PR (some (.int 3)) h1))) : Ct g y_LW_roll w_LW_roll 10 6 540 [.ref x, .int a0, .ref ou] h PR PX := by
  refine Ct_introW (cc := c_LW_roll) (nL := 4) (ret := (some FieldType.int)) (ls := [some (.ref x), some (.int a0), some (.ref ou), none]) (by decide) (Nat.le_of_ble_eq_true rfl) rfl rfl ?_
  intro p e R s m args below meth c C ht
  refine z_aload_n C d_LW_roll_0 rfl rfl ?_
  refine z_iconst (v := 0) C d_LW_roll_1 (by decide) ?_
  refine z_aload_n C d_LW_roll_2 rfl rfl ?_
  refine z_iload_n C d_LW_roll_3 rfl rfl ?_
  refine z_callV (n := 1) (As := [.int a0]) (rest := [.int 0, .ref ou]) (r1 := 8) (mc1 := 5) (ms1 := 540) (ci := 7) (T0 := T_RC) C d_LW_roll_4 k_370 k_367 k_368 k_369 k_1 (by decide +kernel) rfl rfl (hx) (by decide) (by decide) (Nat.le_of_ble_eq_true rfl) (by first | decide | omega) (by first | decide | omega) rfl ?_
  refine Ct_mono hct (fun v h1 hv => ?_) (fun E h1 hE => ?_)
  · obtain ⟨w, f, rfl, hf, k⟩ := hv
    dsimp only [zps]
    refine z_i2l C d_LW_roll_7 ?_
    refine z_last C d_LW_roll_8 (hf) (vp_in_nI (n := 0) (by decide) (by decide)) ?_
    refine z_goto 21 C d_LW_roll_9 (by decide) ?_
    refine z_iconst (v := 0) C d_LW_roll_21 (by decide) ?_
    refine z_iret C d_LW_roll_22 ?_
    exact k
  · rcases hE with ⟨rfl, k⟩ | ⟨rfl, k⟩ | ⟨rfl, k⟩
    · refine zx_catch C [] ⟨0, 9, 12, 19⟩ [⟨0, 9, 15, 21⟩, ⟨0, 9, 18, 13⟩] (by rw [ht]; rfl) (fun z hz => by cases hz) (by decide) (by decide) k_248 (by decide +kernel) (fun q => ?_)
      refine z_astore_n C d_LW_roll_12 rfl (by decide) rfl ?_
      dsimp only [List.set]
      refine z_iconst (v := 1) C d_LW_roll_13 (by decide) ?_
      refine z_iret C d_LW_roll_14 ?_
      exact k
    · refine zx_catch C [⟨0, 9, 12, 19⟩] ⟨0, 9, 15, 21⟩ [⟨0, 9, 18, 13⟩] (by rw [ht]; rfl) (fun z hz => by
        rcases (show z = ⟨0, 9, 12, 19⟩ from by simpa using hz) with rfl
        · exact Or.inr ⟨by decide, _, k_248, by decide +kernel⟩) (by decide) (by decide) k_249 (by decide +kernel) (fun q => ?_)
      refine z_astore_n C d_LW_roll_15 rfl (by decide) rfl ?_
      dsimp only [List.set]
      refine z_iconst (v := 2) C d_LW_roll_16 (by decide) ?_
      refine z_iret C d_LW_roll_17 ?_
      exact k
    · refine zx_catch C [⟨0, 9, 12, 19⟩, ⟨0, 9, 15, 21⟩] ⟨0, 9, 18, 13⟩ [] (by rw [ht]; rfl) (fun z hz => by
        rcases (show z = ⟨0, 9, 12, 19⟩ ∨ z = ⟨0, 9, 15, 21⟩ from by simpa using hz) with rfl | rfl
        · exact Or.inr ⟨by decide, _, k_248, by decide +kernel⟩
        · exact Or.inr ⟨by decide, _, k_249, by decide +kernel⟩) (by decide) (by decide) k_88 (by decide +kernel) (fun q => ?_)
      refine z_astore_n C d_LW_roll_18 rfl (by decide) rfl ?_
      dsimp only [List.set]
      refine z_iconst (v := 3) C d_LW_roll_19 (by decide) ?_
      refine z_iret C d_LW_roll_20 ?_
      exact k
set_option maxRecDepth 100000 in
theorem ct_LW_answer {x ou : Nat} {vs : List Value} {a0 a1 a2 : Int32} (hx : h x = some (.inr (7, vs))) (hct : Ct g y_RC_answer w_RC_answer 9 6 500 [.ref x, .int a0, .int a1, .int a2] h (fun v h1 => ∃ (w : Int32) (f : Nat → Int64), v = some (.int w) ∧ h1 ou = some (la g 1 f) ∧ PR (some (.int 0)) (zu h1 ou (la g 1 (vp_updL f 0 w.toInt64)))) (fun E h1 => (E = xIAE ∧ PR (some (.int 1)) h1) ∨ (E = xISE ∧ PR (some (.int 2)) h1) ∨ (E = xUOE ∧ PR (some (.int 3)) h1))) : Ct g y_LW_answer w_LW_answer 10 6 540 [.ref x, .int a0, .int a1, .int a2, .ref ou] h PR PX := by
  refine Ct_introW (cc := c_LW_answer) (nL := 6) (ret := (some FieldType.int)) (ls := [some (.ref x), some (.int a0), some (.int a1), some (.int a2), some (.ref ou), none]) (by decide) (Nat.le_of_ble_eq_true rfl) rfl rfl ?_
  intro p e R s m args below meth c C ht
  refine z_aload C d_LW_answer_0 rfl ?_
  refine z_iconst (v := 0) C d_LW_answer_2 (by decide) ?_
  refine z_aload_n C d_LW_answer_3 rfl rfl ?_
  refine z_iload_n C d_LW_answer_4 rfl rfl ?_
  refine z_iload_n C d_LW_answer_5 rfl rfl ?_
  refine z_iload_n C d_LW_answer_6 rfl rfl ?_
  refine z_callV (n := 3) (As := [.int a0, .int a1, .int a2]) (rest := [.int 0, .ref ou]) (r1 := 9) (mc1 := 6) (ms1 := 500) (ci := 7) (T0 := T_RC) C d_LW_answer_7 k_454 k_451 k_452 k_453 k_1 (by decide +kernel) rfl rfl (hx) (by decide) (by decide) (Nat.le_of_ble_eq_true rfl) (by first | decide | omega) (by first | decide | omega) rfl ?_
  refine Ct_mono hct (fun v h1 hv => ?_) (fun E h1 hE => ?_)
  · obtain ⟨w, f, rfl, hf, k⟩ := hv
    dsimp only [zps]
    refine z_i2l C d_LW_answer_10 ?_
    refine z_last C d_LW_answer_11 (hf) (vp_in_nI (n := 0) (by decide) (by decide)) ?_
    refine z_goto 27 C d_LW_answer_12 (by decide) ?_
    refine z_iconst (v := 0) C d_LW_answer_27 (by decide) ?_
    refine z_iret C d_LW_answer_28 ?_
    exact k
  · rcases hE with ⟨rfl, k⟩ | ⟨rfl, k⟩ | ⟨rfl, k⟩
    · refine zx_catch C [] ⟨0, 12, 15, 19⟩ [⟨0, 12, 19, 21⟩, ⟨0, 12, 23, 13⟩] (by rw [ht]; rfl) (fun z hz => by cases hz) (by decide) (by decide) k_248 (by decide +kernel) (fun q => ?_)
      refine z_astore C d_LW_answer_15 (by decide) rfl ?_
      dsimp only [List.set]
      refine z_iconst (v := 1) C d_LW_answer_17 (by decide) ?_
      refine z_iret C d_LW_answer_18 ?_
      exact k
    · refine zx_catch C [⟨0, 12, 15, 19⟩] ⟨0, 12, 19, 21⟩ [⟨0, 12, 23, 13⟩] (by rw [ht]; rfl) (fun z hz => by
        rcases (show z = ⟨0, 12, 15, 19⟩ from by simpa using hz) with rfl
        · exact Or.inr ⟨by decide, _, k_248, by decide +kernel⟩) (by decide) (by decide) k_249 (by decide +kernel) (fun q => ?_)
      refine z_astore C d_LW_answer_19 (by decide) rfl ?_
      dsimp only [List.set]
      refine z_iconst (v := 2) C d_LW_answer_21 (by decide) ?_
      refine z_iret C d_LW_answer_22 ?_
      exact k
    · refine zx_catch C [⟨0, 12, 15, 19⟩, ⟨0, 12, 19, 21⟩] ⟨0, 12, 23, 13⟩ [] (by rw [ht]; rfl) (fun z hz => by
        rcases (show z = ⟨0, 12, 15, 19⟩ ∨ z = ⟨0, 12, 19, 21⟩ from by simpa using hz) with rfl | rfl
        · exact Or.inr ⟨by decide, _, k_248, by decide +kernel⟩
        · exact Or.inr ⟨by decide, _, k_249, by decide +kernel⟩) (by decide) (by decide) k_88 (by decide +kernel) (fun q => ?_)
      refine z_astore C d_LW_answer_23 (by decide) rfl ?_
      dsimp only [List.set]
      refine z_iconst (v := 3) C d_LW_answer_25 (by decide) ?_
      refine z_iret C d_LW_answer_26 ?_
      exact k
set_option maxRecDepth 100000 in
theorem ct_LW_seen {x ou : Nat} {vs : List Value} {a0 a1 : Int32} (hx : h x = some (.inr (7, vs))) (hct : Ct g y_RC_seen w_RC_seen 7 3 18 [.ref x, .int a0, .int a1] h (fun v h1 => ∃ (w : Int32) (f : Nat → Int64), v = some (.int w) ∧ h1 ou = some (la g 1 f) ∧ PR (some (.int 0)) (zu h1 ou (la g 1 (vp_updL f 0 w.toInt64)))) (fun E h1 => (E = xIAE ∧ PR (some (.int 1)) h1) ∨ (E = xIOB ∧ PR (some (.int 2)) h1) ∨ (E = xISE ∧ PR (some (.int 3)) h1) ∨ (E = xUOE ∧ PR (some (.int 4)) h1))) : Ct g y_LW_seen w_LW_seen 10 6 540 [.ref x, .int a0, .int a1, .ref ou] h PR PX := by
  refine Ct_introW (cc := c_LW_seen) (nL := 5) (ret := (some FieldType.int)) (ls := [some (.ref x), some (.int a0), some (.int a1), some (.ref ou), none]) (by decide) (Nat.le_of_ble_eq_true rfl) rfl rfl ?_
  intro p e R s m args below meth c C ht
  refine z_aload_n C d_LW_seen_0 rfl rfl ?_
  refine z_iconst (v := 0) C d_LW_seen_1 (by decide) ?_
  refine z_aload_n C d_LW_seen_2 rfl rfl ?_
  refine z_iload_n C d_LW_seen_3 rfl rfl ?_
  refine z_iload_n C d_LW_seen_4 rfl rfl ?_
  refine z_callV (n := 2) (As := [.int a0, .int a1]) (rest := [.int 0, .ref ou]) (r1 := 7) (mc1 := 3) (ms1 := 18) (ci := 7) (T0 := T_RC) C d_LW_seen_5 k_507 k_504 k_505 k_506 k_1 (by decide +kernel) rfl rfl (hx) (by decide) (by decide) (Nat.le_of_ble_eq_true rfl) (by first | decide | omega) (by first | decide | omega) rfl ?_
  refine Ct_mono hct (fun v h1 hv => ?_) (fun E h1 hE => ?_)
  · obtain ⟨w, f, rfl, hf, k⟩ := hv
    dsimp only [zps]
    refine z_i2l C d_LW_seen_8 ?_
    refine z_last C d_LW_seen_9 (hf) (vp_in_nI (n := 0) (by decide) (by decide)) ?_
    refine z_goto 29 C d_LW_seen_10 (by decide) ?_
    refine z_iconst (v := 0) C d_LW_seen_29 (by decide) ?_
    refine z_iret C d_LW_seen_30 ?_
    exact k
  · rcases hE with ⟨rfl, k⟩ | ⟨rfl, k⟩ | ⟨rfl, k⟩ | ⟨rfl, k⟩
    · refine zx_catch C [] ⟨0, 10, 13, 19⟩ [⟨0, 10, 17, 30⟩, ⟨0, 10, 21, 21⟩, ⟨0, 10, 25, 13⟩] (by rw [ht]; rfl) (fun z hz => by cases hz) (by decide) (by decide) k_248 (by decide +kernel) (fun q => ?_)
      refine z_astore C d_LW_seen_13 (by decide) rfl ?_
      dsimp only [List.set]
      refine z_iconst (v := 1) C d_LW_seen_15 (by decide) ?_
      refine z_iret C d_LW_seen_16 ?_
      exact k
    · refine zx_catch C [⟨0, 10, 13, 19⟩] ⟨0, 10, 17, 30⟩ [⟨0, 10, 21, 21⟩, ⟨0, 10, 25, 13⟩] (by rw [ht]; rfl) (fun z hz => by
        rcases (show z = ⟨0, 10, 13, 19⟩ from by simpa using hz) with rfl
        · exact Or.inr ⟨by decide, _, k_248, by decide +kernel⟩) (by decide) (by decide) k_343 (by decide +kernel) (fun q => ?_)
      refine z_astore C d_LW_seen_17 (by decide) rfl ?_
      dsimp only [List.set]
      refine z_iconst (v := 2) C d_LW_seen_19 (by decide) ?_
      refine z_iret C d_LW_seen_20 ?_
      exact k
    · refine zx_catch C [⟨0, 10, 13, 19⟩, ⟨0, 10, 17, 30⟩] ⟨0, 10, 21, 21⟩ [⟨0, 10, 25, 13⟩] (by rw [ht]; rfl) (fun z hz => by
        rcases (show z = ⟨0, 10, 13, 19⟩ ∨ z = ⟨0, 10, 17, 30⟩ from by simpa using hz) with rfl | rfl
        · exact Or.inr ⟨by decide, _, k_248, by decide +kernel⟩
        · exact Or.inr ⟨by decide, _, k_343, by decide +kernel⟩) (by decide) (by decide) k_249 (by decide +kernel) (fun q => ?_)
      refine z_astore C d_LW_seen_21 (by decide) rfl ?_
      dsimp only [List.set]
      refine z_iconst (v := 3) C d_LW_seen_23 (by decide) ?_
      refine z_iret C d_LW_seen_24 ?_
      exact k
    · refine zx_catch C [⟨0, 10, 13, 19⟩, ⟨0, 10, 17, 30⟩, ⟨0, 10, 21, 21⟩] ⟨0, 10, 25, 13⟩ [] (by rw [ht]; rfl) (fun z hz => by
        rcases (show z = ⟨0, 10, 13, 19⟩ ∨ z = ⟨0, 10, 17, 30⟩ ∨ z = ⟨0, 10, 21, 21⟩ from by simpa using hz) with rfl | rfl | rfl
        · exact Or.inr ⟨by decide, _, k_248, by decide +kernel⟩
        · exact Or.inr ⟨by decide, _, k_343, by decide +kernel⟩
        · exact Or.inr ⟨by decide, _, k_249, by decide +kernel⟩) (by decide) (by decide) k_88 (by decide +kernel) (fun q => ?_)
      refine z_astore C d_LW_seen_25 (by decide) rfl ?_
      dsimp only [List.set]
      refine z_iconst (v := 4) C d_LW_seen_27 (by decide) ?_
      refine z_iret C d_LW_seen_28 ?_
      exact k
set_option maxRecDepth 100000 in
theorem ct_LW_round {x ou : Nat} {vs : List Value} {a0 : Int32} (hx : h x = some (.inr (7, vs))) (hct : Ct g y_RC_round w_RC_round 7 3 18 [.ref x, .int a0] h (fun v h1 => ∃ (w : Int32) (f : Nat → Int64), v = some (.int w) ∧ h1 ou = some (la g 1 f) ∧ PR (some (.int 0)) (zu h1 ou (la g 1 (vp_updL f 0 w.toInt64)))) (fun E h1 => (E = xIAE ∧ PR (some (.int 1)) h1) ∨ (E = xISE ∧ PR (some (.int 2)) h1))) : Ct g y_LW_round w_LW_round 10 6 540 [.ref x, .int a0, .ref ou] h PR PX := by
  refine Ct_introW (cc := c_LW_round) (nL := 4) (ret := (some FieldType.int)) (ls := [some (.ref x), some (.int a0), some (.ref ou), none]) (by decide) (Nat.le_of_ble_eq_true rfl) rfl rfl ?_
  intro p e R s m args below meth c C ht
  refine z_aload_n C d_LW_round_0 rfl rfl ?_
  refine z_iconst (v := 0) C d_LW_round_1 (by decide) ?_
  refine z_aload_n C d_LW_round_2 rfl rfl ?_
  refine z_iload_n C d_LW_round_3 rfl rfl ?_
  refine z_callV (n := 1) (As := [.int a0]) (rest := [.int 0, .ref ou]) (r1 := 7) (mc1 := 3) (ms1 := 18) (ci := 7) (T0 := T_RC) C d_LW_round_4 k_516 k_513 k_514 k_515 k_1 (by decide +kernel) rfl rfl (hx) (by decide) (by decide) (Nat.le_of_ble_eq_true rfl) (by first | decide | omega) (by first | decide | omega) rfl ?_
  refine Ct_mono hct (fun v h1 hv => ?_) (fun E h1 hE => ?_)
  · obtain ⟨w, f, rfl, hf, k⟩ := hv
    dsimp only [zps]
    refine z_i2l C d_LW_round_7 ?_
    refine z_last C d_LW_round_8 (hf) (vp_in_nI (n := 0) (by decide) (by decide)) ?_
    refine z_goto 18 C d_LW_round_9 (by decide) ?_
    refine z_iconst (v := 0) C d_LW_round_18 (by decide) ?_
    refine z_iret C d_LW_round_19 ?_
    exact k
  · rcases hE with ⟨rfl, k⟩ | ⟨rfl, k⟩
    · refine zx_catch C [] ⟨0, 9, 12, 19⟩ [⟨0, 9, 15, 21⟩] (by rw [ht]; rfl) (fun z hz => by cases hz) (by decide) (by decide) k_248 (by decide +kernel) (fun q => ?_)
      refine z_astore_n C d_LW_round_12 rfl (by decide) rfl ?_
      dsimp only [List.set]
      refine z_iconst (v := 1) C d_LW_round_13 (by decide) ?_
      refine z_iret C d_LW_round_14 ?_
      exact k
    · refine zx_catch C [⟨0, 9, 12, 19⟩] ⟨0, 9, 15, 21⟩ [] (by rw [ht]; rfl) (fun z hz => by
        rcases (show z = ⟨0, 9, 12, 19⟩ from by simpa using hz) with rfl
        · exact Or.inr ⟨by decide, _, k_248, by decide +kernel⟩) (by decide) (by decide) k_249 (by decide +kernel) (fun q => ?_)
      refine z_astore_n C d_LW_round_15 rfl (by decide) rfl ?_
      dsimp only [List.set]
      refine z_iconst (v := 2) C d_LW_round_16 (by decide) ?_
      refine z_iret C d_LW_round_17 ?_
      exact k
set_option maxRecDepth 100000 in
theorem ct_LW_rollAt {x ou : Nat} {vs : List Value} {a0 a1 : Int32} (hx : h x = some (.inr (7, vs))) (hct : Ct g y_RC_rollAt w_RC_rollAt 7 2 12 [.ref x, .int a0, .int a1] h (fun v h1 => ∃ (w : Int32) (f : Nat → Int64), v = some (.int w) ∧ h1 ou = some (la g 1 f) ∧ PR (some (.int 0)) (zu h1 ou (la g 1 (vp_updL f 0 w.toInt64)))) (fun E h1 => (E = xIAE ∧ PR (some (.int 1)) h1))) : Ct g y_LW_rollAt w_LW_rollAt 10 6 540 [.ref x, .int a0, .int a1, .ref ou] h PR PX := by
  refine Ct_introW (cc := c_LW_rollAt) (nL := 5) (ret := (some FieldType.int)) (ls := [some (.ref x), some (.int a0), some (.int a1), some (.ref ou), none]) (by decide) (Nat.le_of_ble_eq_true rfl) rfl rfl ?_
  intro p e R s m args below meth c C ht
  refine z_aload_n C d_LW_rollAt_0 rfl rfl ?_
  refine z_iconst (v := 0) C d_LW_rollAt_1 (by decide) ?_
  refine z_aload_n C d_LW_rollAt_2 rfl rfl ?_
  refine z_iload_n C d_LW_rollAt_3 rfl rfl ?_
  refine z_iload_n C d_LW_rollAt_4 rfl rfl ?_
  refine z_callV (n := 2) (As := [.int a0, .int a1]) (rest := [.int 0, .ref ou]) (r1 := 7) (mc1 := 2) (ms1 := 12) (ci := 7) (T0 := T_RC) C d_LW_rollAt_5 k_536 k_533 k_534 k_535 k_1 (by decide +kernel) rfl rfl (hx) (by decide) (by decide) (Nat.le_of_ble_eq_true rfl) (by first | decide | omega) (by first | decide | omega) rfl ?_
  refine Ct_mono hct (fun v h1 hv => ?_) (fun E h1 hE => ?_)
  · obtain ⟨w, f, rfl, hf, k⟩ := hv
    dsimp only [zps]
    refine z_i2l C d_LW_rollAt_8 ?_
    refine z_last C d_LW_rollAt_9 (hf) (vp_in_nI (n := 0) (by decide) (by decide)) ?_
    refine z_goto 17 C d_LW_rollAt_10 (by decide) ?_
    refine z_iconst (v := 0) C d_LW_rollAt_17 (by decide) ?_
    refine z_iret C d_LW_rollAt_18 ?_
    exact k
  · obtain ⟨rfl, k⟩ := hE
    refine zx_catch C [] ⟨0, 10, 13, 19⟩ [] (by rw [ht]; rfl) (fun z hz => by cases hz) (by decide) (by decide) k_248 (by decide +kernel) (fun q => ?_)
    refine z_astore C d_LW_rollAt_13 (by decide) rfl ?_
    dsimp only [List.set]
    refine z_iconst (v := 1) C d_LW_rollAt_15 (by decide) ?_
    refine z_iret C d_LW_rollAt_16 ?_
    exact k
set_option maxRecDepth 100000 in
theorem ct_LW_missing {x ou : Nat} {vs : List Value} {a0 a1 : Int32} (hx : h x = some (.inr (7, vs))) (hct : Ct g y_RC_missing w_RC_missing 7 2 12 [.ref x, .int a0, .int a1] h (fun v h1 => ∃ (w : Int32) (f : Nat → Int64), v = some (.int w) ∧ h1 ou = some (la g 1 f) ∧ PR (some (.int 0)) (zu h1 ou (la g 1 (vp_updL f 0 w.toInt64)))) (fun E h1 => (E = xIAE ∧ PR (some (.int 1)) h1) ∨ (E = xIOB ∧ PR (some (.int 2)) h1) ∨ (E = xISE ∧ PR (some (.int 3)) h1))) : Ct g y_LW_missing w_LW_missing 10 6 540 [.ref x, .int a0, .int a1, .ref ou] h PR PX := by
  refine Ct_introW (cc := c_LW_missing) (nL := 5) (ret := (some FieldType.int)) (ls := [some (.ref x), some (.int a0), some (.int a1), some (.ref ou), none]) (by decide) (Nat.le_of_ble_eq_true rfl) rfl rfl ?_
  intro p e R s m args below meth c C ht
  refine z_aload_n C d_LW_missing_0 rfl rfl ?_
  refine z_iconst (v := 0) C d_LW_missing_1 (by decide) ?_
  refine z_aload_n C d_LW_missing_2 rfl rfl ?_
  refine z_iload_n C d_LW_missing_3 rfl rfl ?_
  refine z_iload_n C d_LW_missing_4 rfl rfl ?_
  refine z_callV (n := 2) (As := [.int a0, .int a1]) (rest := [.int 0, .ref ou]) (r1 := 7) (mc1 := 2) (ms1 := 12) (ci := 7) (T0 := T_RC) C d_LW_missing_5 k_544 k_541 k_542 k_543 k_1 (by decide +kernel) rfl rfl (hx) (by decide) (by decide) (Nat.le_of_ble_eq_true rfl) (by first | decide | omega) (by first | decide | omega) rfl ?_
  refine Ct_mono hct (fun v h1 hv => ?_) (fun E h1 hE => ?_)
  · obtain ⟨w, f, rfl, hf, k⟩ := hv
    dsimp only [zps]
    refine z_i2l C d_LW_missing_8 ?_
    refine z_last C d_LW_missing_9 (hf) (vp_in_nI (n := 0) (by decide) (by decide)) ?_
    refine z_goto 25 C d_LW_missing_10 (by decide) ?_
    refine z_iconst (v := 0) C d_LW_missing_25 (by decide) ?_
    refine z_iret C d_LW_missing_26 ?_
    exact k
  · rcases hE with ⟨rfl, k⟩ | ⟨rfl, k⟩ | ⟨rfl, k⟩
    · refine zx_catch C [] ⟨0, 10, 13, 19⟩ [⟨0, 10, 17, 30⟩, ⟨0, 10, 21, 21⟩] (by rw [ht]; rfl) (fun z hz => by cases hz) (by decide) (by decide) k_248 (by decide +kernel) (fun q => ?_)
      refine z_astore C d_LW_missing_13 (by decide) rfl ?_
      dsimp only [List.set]
      refine z_iconst (v := 1) C d_LW_missing_15 (by decide) ?_
      refine z_iret C d_LW_missing_16 ?_
      exact k
    · refine zx_catch C [⟨0, 10, 13, 19⟩] ⟨0, 10, 17, 30⟩ [⟨0, 10, 21, 21⟩] (by rw [ht]; rfl) (fun z hz => by
        rcases (show z = ⟨0, 10, 13, 19⟩ from by simpa using hz) with rfl
        · exact Or.inr ⟨by decide, _, k_248, by decide +kernel⟩) (by decide) (by decide) k_343 (by decide +kernel) (fun q => ?_)
      refine z_astore C d_LW_missing_17 (by decide) rfl ?_
      dsimp only [List.set]
      refine z_iconst (v := 2) C d_LW_missing_19 (by decide) ?_
      refine z_iret C d_LW_missing_20 ?_
      exact k
    · refine zx_catch C [⟨0, 10, 13, 19⟩, ⟨0, 10, 17, 30⟩] ⟨0, 10, 21, 21⟩ [] (by rw [ht]; rfl) (fun z hz => by
        rcases (show z = ⟨0, 10, 13, 19⟩ ∨ z = ⟨0, 10, 17, 30⟩ from by simpa using hz) with rfl | rfl
        · exact Or.inr ⟨by decide, _, k_248, by decide +kernel⟩
        · exact Or.inr ⟨by decide, _, k_343, by decide +kernel⟩) (by decide) (by decide) k_249 (by decide +kernel) (fun q => ?_)
      refine z_astore C d_LW_missing_21 (by decide) rfl ?_
      dsimp only [List.set]
      refine z_iconst (v := 3) C d_LW_missing_23 (by decide) ?_
      refine z_iret C d_LW_missing_24 ?_
      exact k
set_option maxRecDepth 100000 in
theorem ct_LW_twice {x ou : Nat} {vs : List Value} {a0 a1 : Int32} (hx : h x = some (.inr (7, vs))) (hct : Ct g y_RC_twice w_RC_twice 6 1 6 [.ref x, .int a0, .int a1] h (fun v h1 => ∃ (w : Int32) (f : Nat → Int64), v = some (.int w) ∧ h1 ou = some (la g 1 f) ∧ PR (some (.int 0)) (zu h1 ou (la g 1 (vp_updL f 0 w.toInt64)))) (fun E h1 => (E = xIAE ∧ PR (some (.int 1)) h1))) : Ct g y_LW_twice w_LW_twice 10 6 540 [.ref x, .int a0, .int a1, .ref ou] h PR PX := by
  refine Ct_introW (cc := c_LW_twice) (nL := 5) (ret := (some FieldType.int)) (ls := [some (.ref x), some (.int a0), some (.int a1), some (.ref ou), none]) (by decide) (Nat.le_of_ble_eq_true rfl) rfl rfl ?_
  intro p e R s m args below meth c C ht
  refine z_aload_n C d_LW_twice_0 rfl rfl ?_
  refine z_iconst (v := 0) C d_LW_twice_1 (by decide) ?_
  refine z_aload_n C d_LW_twice_2 rfl rfl ?_
  refine z_iload_n C d_LW_twice_3 rfl rfl ?_
  refine z_iload_n C d_LW_twice_4 rfl rfl ?_
  refine z_callV (n := 2) (As := [.int a0, .int a1]) (rest := [.int 0, .ref ou]) (r1 := 6) (mc1 := 1) (ms1 := 6) (ci := 7) (T0 := T_RC) C d_LW_twice_5 k_557 k_554 k_555 k_556 k_1 (by decide +kernel) rfl rfl (hx) (by decide) (by decide) (Nat.le_of_ble_eq_true rfl) (by first | decide | omega) (by first | decide | omega) rfl ?_
  refine Ct_mono hct (fun v h1 hv => ?_) (fun E h1 hE => ?_)
  · obtain ⟨w, f, rfl, hf, k⟩ := hv
    dsimp only [zps]
    refine z_i2l C d_LW_twice_8 ?_
    refine z_last C d_LW_twice_9 (hf) (vp_in_nI (n := 0) (by decide) (by decide)) ?_
    refine z_goto 17 C d_LW_twice_10 (by decide) ?_
    refine z_iconst (v := 0) C d_LW_twice_17 (by decide) ?_
    refine z_iret C d_LW_twice_18 ?_
    exact k
  · obtain ⟨rfl, k⟩ := hE
    refine zx_catch C [] ⟨0, 10, 13, 19⟩ [] (by rw [ht]; rfl) (fun z hz => by cases hz) (by decide) (by decide) k_248 (by decide +kernel) (fun q => ?_)
    refine z_astore C d_LW_twice_13 (by decide) rfl ?_
    dsimp only [List.set]
    refine z_iconst (v := 1) C d_LW_twice_15 (by decide) ?_
    refine z_iret C d_LW_twice_16 ?_
    exact k
set_option maxRecDepth 100000 in
theorem ct_LW_mayday {x ou : Nat} {vs : List Value} {a0 a1 : Int32} (hx : h x = some (.inr (7, vs))) (hct : Ct g y_RC_mayday w_RC_mayday 8 4 480 [.ref x, .int a0, .int a1] h (fun v h1 => ∃ (w : Int32) (f : Nat → Int64), v = some (.int w) ∧ h1 ou = some (la g 1 f) ∧ PR (some (.int 0)) (zu h1 ou (la g 1 (vp_updL f 0 w.toInt64)))) (fun E h1 => (E = xIAE ∧ PR (some (.int 1)) h1) ∨ (E = xIOB ∧ PR (some (.int 2)) h1) ∨ (E = xISE ∧ PR (some (.int 3)) h1) ∨ (E = xUOE ∧ PR (some (.int 4)) h1))) : Ct g y_LW_mayday w_LW_mayday 10 6 540 [.ref x, .int a0, .int a1, .ref ou] h PR PX := by
  refine Ct_introW (cc := c_LW_mayday) (nL := 5) (ret := (some FieldType.int)) (ls := [some (.ref x), some (.int a0), some (.int a1), some (.ref ou), none]) (by decide) (Nat.le_of_ble_eq_true rfl) rfl rfl ?_
  intro p e R s m args below meth c C ht
  refine z_aload_n C d_LW_mayday_0 rfl rfl ?_
  refine z_iconst (v := 0) C d_LW_mayday_1 (by decide) ?_
  refine z_aload_n C d_LW_mayday_2 rfl rfl ?_
  refine z_iload_n C d_LW_mayday_3 rfl rfl ?_
  refine z_iload_n C d_LW_mayday_4 rfl rfl ?_
  refine z_callV (n := 2) (As := [.int a0, .int a1]) (rest := [.int 0, .ref ou]) (r1 := 8) (mc1 := 4) (ms1 := 480) (ci := 7) (T0 := T_RC) C d_LW_mayday_5 k_565 k_562 k_563 k_564 k_1 (by decide +kernel) rfl rfl (hx) (by decide) (by decide) (Nat.le_of_ble_eq_true rfl) (by first | decide | omega) (by first | decide | omega) rfl ?_
  refine Ct_mono hct (fun v h1 hv => ?_) (fun E h1 hE => ?_)
  · obtain ⟨w, f, rfl, hf, k⟩ := hv
    dsimp only [zps]
    refine z_i2l C d_LW_mayday_8 ?_
    refine z_last C d_LW_mayday_9 (hf) (vp_in_nI (n := 0) (by decide) (by decide)) ?_
    refine z_goto 29 C d_LW_mayday_10 (by decide) ?_
    refine z_iconst (v := 0) C d_LW_mayday_29 (by decide) ?_
    refine z_iret C d_LW_mayday_30 ?_
    exact k
  · rcases hE with ⟨rfl, k⟩ | ⟨rfl, k⟩ | ⟨rfl, k⟩ | ⟨rfl, k⟩
    · refine zx_catch C [] ⟨0, 10, 13, 19⟩ [⟨0, 10, 17, 30⟩, ⟨0, 10, 21, 21⟩, ⟨0, 10, 25, 13⟩] (by rw [ht]; rfl) (fun z hz => by cases hz) (by decide) (by decide) k_248 (by decide +kernel) (fun q => ?_)
      refine z_astore C d_LW_mayday_13 (by decide) rfl ?_
      dsimp only [List.set]
      refine z_iconst (v := 1) C d_LW_mayday_15 (by decide) ?_
      refine z_iret C d_LW_mayday_16 ?_
      exact k
    · refine zx_catch C [⟨0, 10, 13, 19⟩] ⟨0, 10, 17, 30⟩ [⟨0, 10, 21, 21⟩, ⟨0, 10, 25, 13⟩] (by rw [ht]; rfl) (fun z hz => by
        rcases (show z = ⟨0, 10, 13, 19⟩ from by simpa using hz) with rfl
        · exact Or.inr ⟨by decide, _, k_248, by decide +kernel⟩) (by decide) (by decide) k_343 (by decide +kernel) (fun q => ?_)
      refine z_astore C d_LW_mayday_17 (by decide) rfl ?_
      dsimp only [List.set]
      refine z_iconst (v := 2) C d_LW_mayday_19 (by decide) ?_
      refine z_iret C d_LW_mayday_20 ?_
      exact k
    · refine zx_catch C [⟨0, 10, 13, 19⟩, ⟨0, 10, 17, 30⟩] ⟨0, 10, 21, 21⟩ [⟨0, 10, 25, 13⟩] (by rw [ht]; rfl) (fun z hz => by
        rcases (show z = ⟨0, 10, 13, 19⟩ ∨ z = ⟨0, 10, 17, 30⟩ from by simpa using hz) with rfl | rfl
        · exact Or.inr ⟨by decide, _, k_248, by decide +kernel⟩
        · exact Or.inr ⟨by decide, _, k_343, by decide +kernel⟩) (by decide) (by decide) k_249 (by decide +kernel) (fun q => ?_)
      refine z_astore C d_LW_mayday_21 (by decide) rfl ?_
      dsimp only [List.set]
      refine z_iconst (v := 3) C d_LW_mayday_23 (by decide) ?_
      refine z_iret C d_LW_mayday_24 ?_
      exact k
    · refine zx_catch C [⟨0, 10, 13, 19⟩, ⟨0, 10, 17, 30⟩, ⟨0, 10, 21, 21⟩] ⟨0, 10, 25, 13⟩ [] (by rw [ht]; rfl) (fun z hz => by
        rcases (show z = ⟨0, 10, 13, 19⟩ ∨ z = ⟨0, 10, 17, 30⟩ ∨ z = ⟨0, 10, 21, 21⟩ from by simpa using hz) with rfl | rfl | rfl
        · exact Or.inr ⟨by decide, _, k_248, by decide +kernel⟩
        · exact Or.inr ⟨by decide, _, k_343, by decide +kernel⟩
        · exact Or.inr ⟨by decide, _, k_249, by decide +kernel⟩) (by decide) (by decide) k_88 (by decide +kernel) (fun q => ?_)
      refine z_astore C d_LW_mayday_25 (by decide) rfl ?_
      dsimp only [List.set]
      refine z_iconst (v := 4) C d_LW_mayday_27 (by decide) ?_
      refine z_iret C d_LW_mayday_28 ?_
      exact k
set_option maxRecDepth 100000 in
theorem ct_LW_answered {x : Nat} {vs : List Value} {a0 : Int32} (hx : h x = some (.inr (7, vs))) (hct : Ct g y_RC_answered w_RC_answered 7 2 12 [.ref x, .int a0] h (fun v h1 => v = none ∧ PR (some (.int 0)) h1) (fun E h1 => (E = xIAE ∧ PR (some (.int 1)) h1) ∨ (E = xISE ∧ PR (some (.int 2)) h1))) : Ct g y_LW_answered w_LW_answered 10 6 540 [.ref x, .int a0] h PR PX := by
  refine Ct_introW (cc := c_LW_answered) (nL := 3) (ret := (some FieldType.int)) (ls := [some (.ref x), some (.int a0), none]) (by decide) (Nat.le_of_ble_eq_true rfl) rfl rfl ?_
  intro p e R s m args below meth c C ht
  refine z_aload_n C d_LW_answered_0 rfl rfl ?_
  refine z_iload_n C d_LW_answered_1 rfl rfl ?_
  refine z_callV (n := 1) (As := [.int a0]) (rest := []) (r1 := 7) (mc1 := 2) (ms1 := 12) (ci := 7) (T0 := T_RC) C d_LW_answered_2 k_613 k_610 k_611 k_612 k_1 (by decide +kernel) rfl rfl (hx) (by decide) (by decide) (Nat.le_of_ble_eq_true rfl) (by first | decide | omega) (by first | decide | omega) rfl ?_
  refine Ct_mono hct (fun v h1 hv => ?_) (fun E h1 hE => ?_)
  · obtain ⟨rfl, k⟩ := hv
    dsimp only [zps]
    refine z_goto 14 C d_LW_answered_5 (by decide) ?_
    refine z_iconst (v := 0) C d_LW_answered_14 (by decide) ?_
    refine z_iret C d_LW_answered_15 ?_
    exact k
  · rcases hE with ⟨rfl, k⟩ | ⟨rfl, k⟩
    · refine zx_catch C [] ⟨0, 5, 8, 19⟩ [⟨0, 5, 11, 21⟩] (by rw [ht]; rfl) (fun z hz => by cases hz) (by decide) (by decide) k_248 (by decide +kernel) (fun q => ?_)
      refine z_astore_n C d_LW_answered_8 rfl (by decide) rfl ?_
      dsimp only [List.set]
      refine z_iconst (v := 1) C d_LW_answered_9 (by decide) ?_
      refine z_iret C d_LW_answered_10 ?_
      exact k
    · refine zx_catch C [⟨0, 5, 8, 19⟩] ⟨0, 5, 11, 21⟩ [] (by rw [ht]; rfl) (fun z hz => by
        rcases (show z = ⟨0, 5, 8, 19⟩ from by simpa using hz) with rfl
        · exact Or.inr ⟨by decide, _, k_248, by decide +kernel⟩) (by decide) (by decide) k_249 (by decide +kernel) (fun q => ?_)
      refine z_astore_n C d_LW_answered_11 rfl (by decide) rfl ?_
      dsimp only [List.set]
      refine z_iconst (v := 2) C d_LW_answered_12 (by decide) ?_
      refine z_iret C d_LW_answered_13 ?_
      exact k
set_option maxRecDepth 100000 in
theorem ct_LW_maydayAt {x ou : Nat} {vs : List Value} {a0 a1 : Int32} (hx : h x = some (.inr (7, vs))) (hct : Ct g y_RC_maydayAt w_RC_maydayAt 7 2 12 [.ref x, .int a0, .int a1] h (fun v h1 => ∃ (w : Int32) (f : Nat → Int64), v = some (.int w) ∧ h1 ou = some (la g 1 f) ∧ PR (some (.int 0)) (zu h1 ou (la g 1 (vp_updL f 0 w.toInt64)))) (fun E h1 => (E = xIAE ∧ PR (some (.int 1)) h1))) : Ct g y_LW_maydayAt w_LW_maydayAt 10 6 540 [.ref x, .int a0, .int a1, .ref ou] h PR PX := by
  refine Ct_introW (cc := c_LW_maydayAt) (nL := 5) (ret := (some FieldType.int)) (ls := [some (.ref x), some (.int a0), some (.int a1), some (.ref ou), none]) (by decide) (Nat.le_of_ble_eq_true rfl) rfl rfl ?_
  intro p e R s m args below meth c C ht
  refine z_aload_n C d_LW_maydayAt_0 rfl rfl ?_
  refine z_iconst (v := 0) C d_LW_maydayAt_1 (by decide) ?_
  refine z_aload_n C d_LW_maydayAt_2 rfl rfl ?_
  refine z_iload_n C d_LW_maydayAt_3 rfl rfl ?_
  refine z_iload_n C d_LW_maydayAt_4 rfl rfl ?_
  refine z_callV (n := 2) (As := [.int a0, .int a1]) (rest := [.int 0, .ref ou]) (r1 := 7) (mc1 := 2) (ms1 := 12) (ci := 7) (T0 := T_RC) C d_LW_maydayAt_5 k_630 k_627 k_628 k_629 k_1 (by decide +kernel) rfl rfl (hx) (by decide) (by decide) (Nat.le_of_ble_eq_true rfl) (by first | decide | omega) (by first | decide | omega) rfl ?_
  refine Ct_mono hct (fun v h1 hv => ?_) (fun E h1 hE => ?_)
  · obtain ⟨w, f, rfl, hf, k⟩ := hv
    dsimp only [zps]
    refine z_i2l C d_LW_maydayAt_8 ?_
    refine z_last C d_LW_maydayAt_9 (hf) (vp_in_nI (n := 0) (by decide) (by decide)) ?_
    refine z_goto 17 C d_LW_maydayAt_10 (by decide) ?_
    refine z_iconst (v := 0) C d_LW_maydayAt_17 (by decide) ?_
    refine z_iret C d_LW_maydayAt_18 ?_
    exact k
  · obtain ⟨rfl, k⟩ := hE
    refine zx_catch C [] ⟨0, 10, 13, 19⟩ [] (by rw [ht]; rfl) (fun z hz => by cases hz) (by decide) (by decide) k_248 (by decide +kernel) (fun q => ?_)
    refine z_astore C d_LW_maydayAt_13 (by decide) rfl ?_
    dsimp only [List.set]
    refine z_iconst (v := 1) C d_LW_maydayAt_15 (by decide) ?_
    refine z_iret C d_LW_maydayAt_16 ?_
    exact k
set_option maxRecDepth 100000 in
theorem ct_LW_evacuate {x ou : Nat} {vs : List Value} {a0 : Int32} (hx : h x = some (.inr (7, vs))) (hct : Ct g y_RC_evacuate w_RC_evacuate 8 6 500 [.ref x, .int a0] h (fun v h1 => ∃ (w : Int32) (f : Nat → Int64), v = some (.int w) ∧ h1 ou = some (la g 1 f) ∧ PR (some (.int 0)) (zu h1 ou (la g 1 (vp_updL f 0 w.toInt64)))) (fun E h1 => (E = xIOB ∧ PR (some (.int 1)) h1) ∨ (E = xISE ∧ PR (some (.int 2)) h1) ∨ (E = xUOE ∧ PR (some (.int 3)) h1))) : Ct g y_LW_evacuate w_LW_evacuate 10 6 540 [.ref x, .int a0, .ref ou] h PR PX := by
  refine Ct_introW (cc := c_LW_evacuate) (nL := 4) (ret := (some FieldType.int)) (ls := [some (.ref x), some (.int a0), some (.ref ou), none]) (by decide) (Nat.le_of_ble_eq_true rfl) rfl rfl ?_
  intro p e R s m args below meth c C ht
  refine z_aload_n C d_LW_evacuate_0 rfl rfl ?_
  refine z_iconst (v := 0) C d_LW_evacuate_1 (by decide) ?_
  refine z_aload_n C d_LW_evacuate_2 rfl rfl ?_
  refine z_iload_n C d_LW_evacuate_3 rfl rfl ?_
  refine z_callV (n := 1) (As := [.int a0]) (rest := [.int 0, .ref ou]) (r1 := 8) (mc1 := 6) (ms1 := 500) (ci := 7) (T0 := T_RC) C d_LW_evacuate_4 k_637 k_634 k_635 k_636 k_1 (by decide +kernel) rfl rfl (hx) (by decide) (by decide) (Nat.le_of_ble_eq_true rfl) (by first | decide | omega) (by first | decide | omega) rfl ?_
  refine Ct_mono hct (fun v h1 hv => ?_) (fun E h1 hE => ?_)
  · obtain ⟨w, f, rfl, hf, k⟩ := hv
    dsimp only [zps]
    refine z_i2l C d_LW_evacuate_7 ?_
    refine z_last C d_LW_evacuate_8 (hf) (vp_in_nI (n := 0) (by decide) (by decide)) ?_
    refine z_goto 21 C d_LW_evacuate_9 (by decide) ?_
    refine z_iconst (v := 0) C d_LW_evacuate_21 (by decide) ?_
    refine z_iret C d_LW_evacuate_22 ?_
    exact k
  · rcases hE with ⟨rfl, k⟩ | ⟨rfl, k⟩ | ⟨rfl, k⟩
    · refine zx_catch C [] ⟨0, 9, 12, 30⟩ [⟨0, 9, 15, 21⟩, ⟨0, 9, 18, 13⟩] (by rw [ht]; rfl) (fun z hz => by cases hz) (by decide) (by decide) k_343 (by decide +kernel) (fun q => ?_)
      refine z_astore_n C d_LW_evacuate_12 rfl (by decide) rfl ?_
      dsimp only [List.set]
      refine z_iconst (v := 1) C d_LW_evacuate_13 (by decide) ?_
      refine z_iret C d_LW_evacuate_14 ?_
      exact k
    · refine zx_catch C [⟨0, 9, 12, 30⟩] ⟨0, 9, 15, 21⟩ [⟨0, 9, 18, 13⟩] (by rw [ht]; rfl) (fun z hz => by
        rcases (show z = ⟨0, 9, 12, 30⟩ from by simpa using hz) with rfl
        · exact Or.inr ⟨by decide, _, k_343, by decide +kernel⟩) (by decide) (by decide) k_249 (by decide +kernel) (fun q => ?_)
      refine z_astore_n C d_LW_evacuate_15 rfl (by decide) rfl ?_
      dsimp only [List.set]
      refine z_iconst (v := 2) C d_LW_evacuate_16 (by decide) ?_
      refine z_iret C d_LW_evacuate_17 ?_
      exact k
    · refine zx_catch C [⟨0, 9, 12, 30⟩, ⟨0, 9, 15, 21⟩] ⟨0, 9, 18, 13⟩ [] (by rw [ht]; rfl) (fun z hz => by
        rcases (show z = ⟨0, 9, 12, 30⟩ ∨ z = ⟨0, 9, 15, 21⟩ from by simpa using hz) with rfl | rfl
        · exact Or.inr ⟨by decide, _, k_343, by decide +kernel⟩
        · exact Or.inr ⟨by decide, _, k_249, by decide +kernel⟩) (by decide) (by decide) k_88 (by decide +kernel) (fun q => ?_)
      refine z_astore_n C d_LW_evacuate_18 rfl (by decide) rfl ?_
      dsimp only [List.set]
      refine z_iconst (v := 3) C d_LW_evacuate_19 (by decide) ?_
      refine z_iret C d_LW_evacuate_20 ?_
      exact k
set_option maxRecDepth 100000 in
theorem ct_LW_confirm {x ou : Nat} {vs : List Value} {a0 : Int32} (hx : h x = some (.inr (7, vs))) (hct : Ct g y_RC_confirm w_RC_confirm 8 3 18 [.ref x, .int a0] h (fun v h1 => ∃ (w : Int32) (f : Nat → Int64), v = some (.int w) ∧ h1 ou = some (la g 1 f) ∧ PR (some (.int 0)) (zu h1 ou (la g 1 (vp_updL f 0 w.toInt64)))) (fun E h1 => (E = xIAE ∧ PR (some (.int 1)) h1) ∨ (E = xISE ∧ PR (some (.int 2)) h1))) : Ct g y_LW_confirm w_LW_confirm 10 6 540 [.ref x, .int a0, .ref ou] h PR PX := by
  refine Ct_introW (cc := c_LW_confirm) (nL := 4) (ret := (some FieldType.int)) (ls := [some (.ref x), some (.int a0), some (.ref ou), none]) (by decide) (Nat.le_of_ble_eq_true rfl) rfl rfl ?_
  intro p e R s m args below meth c C ht
  refine z_aload_n C d_LW_confirm_0 rfl rfl ?_
  refine z_iconst (v := 0) C d_LW_confirm_1 (by decide) ?_
  refine z_aload_n C d_LW_confirm_2 rfl rfl ?_
  refine z_iload_n C d_LW_confirm_3 rfl rfl ?_
  refine z_callV (n := 1) (As := [.int a0]) (rest := [.int 0, .ref ou]) (r1 := 8) (mc1 := 3) (ms1 := 18) (ci := 7) (T0 := T_RC) C d_LW_confirm_4 k_695 k_692 k_693 k_694 k_1 (by decide +kernel) rfl rfl (hx) (by decide) (by decide) (Nat.le_of_ble_eq_true rfl) (by first | decide | omega) (by first | decide | omega) rfl ?_
  refine Ct_mono hct (fun v h1 hv => ?_) (fun E h1 hE => ?_)
  · obtain ⟨w, f, rfl, hf, k⟩ := hv
    dsimp only [zps]
    refine z_i2l C d_LW_confirm_7 ?_
    refine z_last C d_LW_confirm_8 (hf) (vp_in_nI (n := 0) (by decide) (by decide)) ?_
    refine z_goto 18 C d_LW_confirm_9 (by decide) ?_
    refine z_iconst (v := 0) C d_LW_confirm_18 (by decide) ?_
    refine z_iret C d_LW_confirm_19 ?_
    exact k
  · rcases hE with ⟨rfl, k⟩ | ⟨rfl, k⟩
    · refine zx_catch C [] ⟨0, 9, 12, 19⟩ [⟨0, 9, 15, 21⟩] (by rw [ht]; rfl) (fun z hz => by cases hz) (by decide) (by decide) k_248 (by decide +kernel) (fun q => ?_)
      refine z_astore_n C d_LW_confirm_12 rfl (by decide) rfl ?_
      dsimp only [List.set]
      refine z_iconst (v := 1) C d_LW_confirm_13 (by decide) ?_
      refine z_iret C d_LW_confirm_14 ?_
      exact k
    · refine zx_catch C [⟨0, 9, 12, 19⟩] ⟨0, 9, 15, 21⟩ [] (by rw [ht]; rfl) (fun z hz => by
        rcases (show z = ⟨0, 9, 12, 19⟩ from by simpa using hz) with rfl
        · exact Or.inr ⟨by decide, _, k_248, by decide +kernel⟩) (by decide) (by decide) k_249 (by decide +kernel) (fun q => ?_)
      refine z_astore_n C d_LW_confirm_15 rfl (by decide) rfl ?_
      dsimp only [List.set]
      refine z_iconst (v := 2) C d_LW_confirm_16 (by decide) ?_
      refine z_iret C d_LW_confirm_17 ?_
      exact k
set_option maxRecDepth 100000 in
theorem ct_LW_late {x ou : Nat} {vs : List Value} {a0 a1 : Int32} (hx : h x = some (.inr (7, vs))) (hct : Ct g y_RC_late w_RC_late 7 2 12 [.ref x, .int a0, .int a1] h (fun v h1 => ∃ (w : Int32) (f : Nat → Int64), v = some (.int w) ∧ h1 ou = some (la g 1 f) ∧ PR (some (.int 0)) (zu h1 ou (la g 1 (vp_updL f 0 w.toInt64)))) (fun E h1 => (E = xIAE ∧ PR (some (.int 1)) h1) ∨ (E = xIOB ∧ PR (some (.int 2)) h1))) : Ct g y_LW_late w_LW_late 10 6 540 [.ref x, .int a0, .int a1, .ref ou] h PR PX := by
  refine Ct_introW (cc := c_LW_late) (nL := 5) (ret := (some FieldType.int)) (ls := [some (.ref x), some (.int a0), some (.int a1), some (.ref ou), none]) (by decide) (Nat.le_of_ble_eq_true rfl) rfl rfl ?_
  intro p e R s m args below meth c C ht
  refine z_aload_n C d_LW_late_0 rfl rfl ?_
  refine z_iconst (v := 0) C d_LW_late_1 (by decide) ?_
  refine z_aload_n C d_LW_late_2 rfl rfl ?_
  refine z_iload_n C d_LW_late_3 rfl rfl ?_
  refine z_iload_n C d_LW_late_4 rfl rfl ?_
  refine z_callV (n := 2) (As := [.int a0, .int a1]) (rest := [.int 0, .ref ou]) (r1 := 7) (mc1 := 2) (ms1 := 12) (ci := 7) (T0 := T_RC) C d_LW_late_5 k_704 k_701 k_702 k_703 k_1 (by decide +kernel) rfl rfl (hx) (by decide) (by decide) (Nat.le_of_ble_eq_true rfl) (by first | decide | omega) (by first | decide | omega) rfl ?_
  refine Ct_mono hct (fun v h1 hv => ?_) (fun E h1 hE => ?_)
  · obtain ⟨w, f, rfl, hf, k⟩ := hv
    dsimp only [zps]
    refine z_i2l C d_LW_late_8 ?_
    refine z_last C d_LW_late_9 (hf) (vp_in_nI (n := 0) (by decide) (by decide)) ?_
    refine z_goto 21 C d_LW_late_10 (by decide) ?_
    refine z_iconst (v := 0) C d_LW_late_21 (by decide) ?_
    refine z_iret C d_LW_late_22 ?_
    exact k
  · rcases hE with ⟨rfl, k⟩ | ⟨rfl, k⟩
    · refine zx_catch C [] ⟨0, 10, 13, 19⟩ [⟨0, 10, 17, 30⟩] (by rw [ht]; rfl) (fun z hz => by cases hz) (by decide) (by decide) k_248 (by decide +kernel) (fun q => ?_)
      refine z_astore C d_LW_late_13 (by decide) rfl ?_
      dsimp only [List.set]
      refine z_iconst (v := 1) C d_LW_late_15 (by decide) ?_
      refine z_iret C d_LW_late_16 ?_
      exact k
    · refine zx_catch C [⟨0, 10, 13, 19⟩] ⟨0, 10, 17, 30⟩ [] (by rw [ht]; rfl) (fun z hz => by
        rcases (show z = ⟨0, 10, 13, 19⟩ from by simpa using hz) with rfl
        · exact Or.inr ⟨by decide, _, k_248, by decide +kernel⟩) (by decide) (by decide) k_343 (by decide +kernel) (fun q => ?_)
      refine z_astore C d_LW_late_17 (by decide) rfl ?_
      dsimp only [List.set]
      refine z_iconst (v := 2) C d_LW_late_19 (by decide) ?_
      refine z_iret C d_LW_late_20 ?_
      exact k
set_option maxRecDepth 100000 in
theorem ct_LW_tick {x ou : Nat} {vs : List Value} {a0 : Int32} (hx : h x = some (.inr (7, vs))) (hct : Ct g y_RC_tick w_RC_tick 8 2 12 [.ref x, .int a0] h (fun v h1 => ∃ (w : Int32) (f : Nat → Int64), v = some (.int w) ∧ h1 ou = some (la g 1 f) ∧ PR (some (.int 0)) (zu h1 ou (la g 1 (vp_updL f 0 w.toInt64)))) (fun E h1 => (E = xIOB ∧ PR (some (.int 1)) h1))) : Ct g y_LW_tick w_LW_tick 10 6 540 [.ref x, .int a0, .ref ou] h PR PX := by
  refine Ct_introW (cc := c_LW_tick) (nL := 4) (ret := (some FieldType.int)) (ls := [some (.ref x), some (.int a0), some (.ref ou), none]) (by decide) (Nat.le_of_ble_eq_true rfl) rfl rfl ?_
  intro p e R s m args below meth c C ht
  refine z_aload_n C d_LW_tick_0 rfl rfl ?_
  refine z_iconst (v := 0) C d_LW_tick_1 (by decide) ?_
  refine z_aload_n C d_LW_tick_2 rfl rfl ?_
  refine z_iload_n C d_LW_tick_3 rfl rfl ?_
  refine z_callV (n := 1) (As := [.int a0]) (rest := [.int 0, .ref ou]) (r1 := 8) (mc1 := 2) (ms1 := 12) (ci := 7) (T0 := T_RC) C d_LW_tick_4 k_711 k_708 k_709 k_710 k_1 (by decide +kernel) rfl rfl (hx) (by decide) (by decide) (Nat.le_of_ble_eq_true rfl) (by first | decide | omega) (by first | decide | omega) rfl ?_
  refine Ct_mono hct (fun v h1 hv => ?_) (fun E h1 hE => ?_)
  · obtain ⟨w, f, rfl, hf, k⟩ := hv
    dsimp only [zps]
    refine z_i2l C d_LW_tick_7 ?_
    refine z_last C d_LW_tick_8 (hf) (vp_in_nI (n := 0) (by decide) (by decide)) ?_
    refine z_goto 15 C d_LW_tick_9 (by decide) ?_
    refine z_iconst (v := 0) C d_LW_tick_15 (by decide) ?_
    refine z_iret C d_LW_tick_16 ?_
    exact k
  · obtain ⟨rfl, k⟩ := hE
    refine zx_catch C [] ⟨0, 9, 12, 30⟩ [] (by rw [ht]; rfl) (fun z hz => by cases hz) (by decide) (by decide) k_343 (by decide +kernel) (fun q => ?_)
    refine z_astore_n C d_LW_tick_12 rfl (by decide) rfl ?_
    dsimp only [List.set]
    refine z_iconst (v := 1) C d_LW_tick_13 (by decide) ?_
    refine z_iret C d_LW_tick_14 ?_
    exact k
set_option maxRecDepth 100000 in
theorem ct_LW_was {x ou : Nat} {vs : List Value} {a0 a1 : Int32} (hx : h x = some (.inr (7, vs))) (hct : Ct g y_RC_was w_RC_was 7 2 12 [.ref x, .int a0, .int a1] h (fun v h1 => ∃ (w : Int32) (f : Nat → Int64), v = some (.int w) ∧ h1 ou = some (la g 1 f) ∧ PR (some (.int 0)) (zu h1 ou (la g 1 (vp_updL f 0 w.toInt64)))) (fun E h1 => (E = xIAE ∧ PR (some (.int 1)) h1) ∨ (E = xIOB ∧ PR (some (.int 2)) h1))) : Ct g y_LW_was w_LW_was 10 6 540 [.ref x, .int a0, .int a1, .ref ou] h PR PX := by
  refine Ct_introW (cc := c_LW_was) (nL := 5) (ret := (some FieldType.int)) (ls := [some (.ref x), some (.int a0), some (.int a1), some (.ref ou), none]) (by decide) (Nat.le_of_ble_eq_true rfl) rfl rfl ?_
  intro p e R s m args below meth c C ht
  refine z_aload_n C d_LW_was_0 rfl rfl ?_
  refine z_iconst (v := 0) C d_LW_was_1 (by decide) ?_
  refine z_aload_n C d_LW_was_2 rfl rfl ?_
  refine z_iload_n C d_LW_was_3 rfl rfl ?_
  refine z_iload_n C d_LW_was_4 rfl rfl ?_
  refine z_callV (n := 2) (As := [.int a0, .int a1]) (rest := [.int 0, .ref ou]) (r1 := 7) (mc1 := 2) (ms1 := 12) (ci := 7) (T0 := T_RC) C d_LW_was_5 k_724 k_721 k_722 k_723 k_1 (by decide +kernel) rfl rfl (hx) (by decide) (by decide) (Nat.le_of_ble_eq_true rfl) (by first | decide | omega) (by first | decide | omega) rfl ?_
  refine Ct_mono hct (fun v h1 hv => ?_) (fun E h1 hE => ?_)
  · obtain ⟨w, f, rfl, hf, k⟩ := hv
    dsimp only [zps]
    refine z_i2l C d_LW_was_8 ?_
    refine z_last C d_LW_was_9 (hf) (vp_in_nI (n := 0) (by decide) (by decide)) ?_
    refine z_goto 21 C d_LW_was_10 (by decide) ?_
    refine z_iconst (v := 0) C d_LW_was_21 (by decide) ?_
    refine z_iret C d_LW_was_22 ?_
    exact k
  · rcases hE with ⟨rfl, k⟩ | ⟨rfl, k⟩
    · refine zx_catch C [] ⟨0, 10, 13, 19⟩ [⟨0, 10, 17, 30⟩] (by rw [ht]; rfl) (fun z hz => by cases hz) (by decide) (by decide) k_248 (by decide +kernel) (fun q => ?_)
      refine z_astore C d_LW_was_13 (by decide) rfl ?_
      dsimp only [List.set]
      refine z_iconst (v := 1) C d_LW_was_15 (by decide) ?_
      refine z_iret C d_LW_was_16 ?_
      exact k
    · refine zx_catch C [⟨0, 10, 13, 19⟩] ⟨0, 10, 17, 30⟩ [] (by rw [ht]; rfl) (fun z hz => by
        rcases (show z = ⟨0, 10, 13, 19⟩ from by simpa using hz) with rfl
        · exact Or.inr ⟨by decide, _, k_248, by decide +kernel⟩) (by decide) (by decide) k_343 (by decide +kernel) (fun q => ?_)
      refine z_astore C d_LW_was_17 (by decide) rfl ?_
      dsimp only [List.set]
      refine z_iconst (v := 2) C d_LW_was_19 (by decide) ?_
      refine z_iret C d_LW_was_20 ?_
      exact k
set_option maxRecDepth 100000 in
theorem ct_LW_count {x ou : Nat} {vs : List Value} {a0 : Int32} (hx : h x = some (.inr (7, vs))) (hct : Ct g y_RC_count w_RC_count 6 1 6 [.ref x, .int a0] h (fun v h1 => ∃ (w : Int32) (f : Nat → Int64), v = some (.int w) ∧ h1 ou = some (la g 1 f) ∧ PR (some (.int 0)) (zu h1 ou (la g 1 (vp_updL f 0 w.toInt64)))) (fun E h1 => (E = xIAE ∧ PR (some (.int 1)) h1))) : Ct g y_LW_count w_LW_count 10 6 540 [.ref x, .int a0, .ref ou] h PR PX := by
  refine Ct_introW (cc := c_LW_count) (nL := 4) (ret := (some FieldType.int)) (ls := [some (.ref x), some (.int a0), some (.ref ou), none]) (by decide) (Nat.le_of_ble_eq_true rfl) rfl rfl ?_
  intro p e R s m args below meth c C ht
  refine z_aload_n C d_LW_count_0 rfl rfl ?_
  refine z_iconst (v := 0) C d_LW_count_1 (by decide) ?_
  refine z_aload_n C d_LW_count_2 rfl rfl ?_
  refine z_iload_n C d_LW_count_3 rfl rfl ?_
  refine z_callV (n := 1) (As := [.int a0]) (rest := [.int 0, .ref ou]) (r1 := 6) (mc1 := 1) (ms1 := 6) (ci := 7) (T0 := T_RC) C d_LW_count_4 k_732 k_729 k_730 k_731 k_1 (by decide +kernel) rfl rfl (hx) (by decide) (by decide) (Nat.le_of_ble_eq_true rfl) (by first | decide | omega) (by first | decide | omega) rfl ?_
  refine Ct_mono hct (fun v h1 hv => ?_) (fun E h1 hE => ?_)
  · obtain ⟨w, f, rfl, hf, k⟩ := hv
    dsimp only [zps]
    refine z_i2l C d_LW_count_7 ?_
    refine z_last C d_LW_count_8 (hf) (vp_in_nI (n := 0) (by decide) (by decide)) ?_
    refine z_goto 15 C d_LW_count_9 (by decide) ?_
    refine z_iconst (v := 0) C d_LW_count_15 (by decide) ?_
    refine z_iret C d_LW_count_16 ?_
    exact k
  · obtain ⟨rfl, k⟩ := hE
    refine zx_catch C [] ⟨0, 9, 12, 19⟩ [] (by rw [ht]; rfl) (fun z hz => by cases hz) (by decide) (by decide) k_248 (by decide +kernel) (fun q => ?_)
    refine z_astore_n C d_LW_count_12 rfl (by decide) rfl ?_
    dsimp only [List.set]
    refine z_iconst (v := 1) C d_LW_count_13 (by decide) ?_
    refine z_iret C d_LW_count_14 ?_
    exact k
end LA
