/-! the reference's calls answer as the class's did -/
theorem go1 {kk v : Int32} {rg st rm : Bool} (h : 0 + gc kk 1 = v) : goT kk false rg st rm = v := (if_pos rfl).trans h
theorem go2 {kk v : Int32} {st rm : Bool} (h : 0 + gc kk 1 + gc kk 2 = v) : goT kk true false st rm = v := (if_neg (by decide)).trans ((if_pos rfl).trans h)
theorem go3 {kk v : Int32} {rm : Bool} (h : 0 + gc kk 1 + gc kk 2 + gc kk 4 = v) : goT kk true true false rm = v := (if_neg (by decide)).trans ((if_neg (by decide)).trans ((if_pos rfl).trans h))
theorem go4 {kk v : Int32} (h : 0 + gc kk 1 + gc kk 2 + gc kk 4 + gc kk 8 = v) : goT kk true true true false = v := (if_neg (by decide)).trans ((if_neg (by decide)).trans ((if_neg (by decide)).trans ((if_pos rfl).trans h)))
theorem inS_t {b : Int32} (h1 : ¬ b < 0) (h2 : b < 10) : inN b 10 = true := decide_eq_true ⟨h1, h2⟩
theorem inS_f {b : Int32} (c : b < 0 ∨ 10 ≤ b) : inN b 10 = false := inN_ft (n := 10) c
theorem inB_t {x a b : Int32} (h1 : ¬ x < a) (h2 : x ≤ b) : inB x a b = true := by
  unfold inB
  rw [decide_eq_true (Int32.not_lt.mp h1), decide_eq_true h2]
  rfl
theorem inB_f {x a b : Int32} (h1 : x < a ∨ b < x) : inB x a b = false := by
  unfold inB
  rcases h1 with h1 | h1
  · rw [decide_eq_false (Int32.not_le.mpr h1), Bool.false_and]
  · rw [decide_eq_false (Int32.not_le.mpr h1), Bool.and_false]
theorem inT_t {t : Int32} {n : Nat} (hn : n < 1000) (c : ¬ (t.toInt < 0 ∨ (n : Int) < t.toInt)) : inN t (n + 1) = true := by
  refine decide_eq_true ⟨fun z => c (Or.inl (by have := Int32.lt_iff_toInt_lt.mp z; simpa using this)), ?_⟩
  rw [Int32.lt_iff_toInt_lt, nI_toInt (by omega)]
  omega
theorem inT_f {t : Int32} {n : Nat} (hn : n < 1000) (c : t.toInt < 0 ∨ (n : Int) < t.toInt) : inN t (n + 1) = false := by
  refine inN_ft ?_
  rcases c with c | c
  · exact Or.inl (by rw [Int32.lt_iff_toInt_lt]; simpa using c)
  · right
    rw [Int32.le_iff_toInt_le, nI_toInt (by omega)]
    omega
theorem nI_one {i j : Nat} (hi : i < 1000) (hj : j < 1000) (h : nI i = nI j) : j = i := ((nI_eq (by omega) (by omega)).mp h).symm
section MX
variable {g : zG} {T : Tg} {h : Hp} {PR : Option Value → Hp → Prop} {PX : String → Hp → Prop} {mo : Nat} {A : Nat → Nat} {th : Int32} {S : CS} {F : FT}
set_option maxRecDepth 100000 in
theorem mx_person {code ans : Int32} {S1 : CS} (hM : RepM g T h mo A th S F) (hL : Rel S F) (oc : oc_person S code ans S1) (k : ∀ (b0 : Int32) (F1 : FT) (h1 : Hp), RepM g T h1 mo A code S1 F1 → Rel S1 F1 → ExM T h h1 → (code = 0 → b0 = ans) → PR (some (.int b0)) h1) : Ct g y_MM_person w_MM_person 2 0 0 [.ref mo] h PR PX := by
  have hB := hL.1
  have hG := hL.2.1
  have hV := hL.2.2.1
  have hP := hL.2.2.2.1
  have hO := hL.2.2.2.2.1
  have hD := hL.2.2.2.2.2.2.1
  have hY := hL.2.2.2.2.2.2.2.1
  have hE := hL.2.2.2.2.2.2.2.2.1
  obtain ⟨b1, b2, b3, b4, b5, b6, b7, b8⟩ := hB
  rcases oc with ⟨rfl, hq, y0⟩ | ⟨rfl, y0, rfl, rfl⟩
  · rw [hq] at k
    exact ct_MM_person hM b1 (fun _ _ _ h1 w ex => k 0 F h1 w hL ex (fun z => absurd z (by decide))) (fun q => absurd q (by omega))
  · exact ct_MM_person hM b1 (fun rm e1 e2 => absurd (e1.symm.trans e2) (by rw [decide_eq_true y0]; decide)) (fun _ h1 w ex => k _ F h1 w (hL.person y0) ex (fun _ => rfl))
set_option maxRecDepth 100000 in
theorem mx_enter {a0 a1 code ans : Int32} {S1 : CS} (hM : RepM g T h mo A th S F) (hL : Rel S F) (oc : oc_enter S a0 a1 code ans S1) (k : ∀ (F1 : FT) (h1 : Hp), RepM g T h1 mo A code S1 F1 → Rel S1 F1 → ExM T h h1 → PR none h1) : Ct g y_MM_enter w_MM_enter 3 0 0 [.ref mo, .int a0, .int a1] h PR PX := by
  have hB := hL.1
  have hG := hL.2.1
  have hV := hL.2.2.1
  have hP := hL.2.2.2.1
  have hO := hL.2.2.2.2.1
  have hD := hL.2.2.2.2.2.2.1
  have hY := hL.2.2.2.2.2.2.2.1
  have hE := hL.2.2.2.2.2.2.2.2.1
  obtain ⟨b1, b2, b3, b4, b5, b6, b7, b8⟩ := hB
  rcases oc with ⟨rfl, hq, c⟩ | ⟨rfl, hq, i, e, rfl, he, c1, c2, c3⟩ | ⟨rfl, hq, i, e, rfl, he, c1, c2, c3, c4⟩ | ⟨rfl, i, e, rfl, he, c1, c2, c3, c4, rfl, rfl⟩
  · rw [hq] at k
    have hk : (inN a0 S.ps.length && inN a1 10) = false := by
      rcases c with c | c
      · rw [inN_ft c, Bool.false_and]
      · rw [inS_f c, Bool.and_false]
    exact ct_MM_enter hM hV.1 b1 (fun _ _ _ e1 e2 e3 hf h1 w ex => by subst e1; rw [hk, go1 (v := 1) (by decide)] at w; exact k F h1 w hL ex) (fun q1 q2 => absurd hk (by rw [q1, q2]; decide))
  · rw [hq] at k
    have hk : (inN (nI i) S.ps.length && inN a1 10) = true := by rw [inN_nI (ltl he) (by omega), inS_t c1 c2]; rfl
    have hw := (hP i e he).1.symm.trans c3
    have hs : ((inN (nI i) S.ps.length && inN a1 10) && (wasF (nI i) S.sec S.mv.reverse != a1)) = false := by rw [hw, bne_self_eq_false, Bool.and_false]
    exact ct_MM_enter hM hV.1 b1 (fun _ _ _ e1 e2 e3 hf h1 w ex => by subst e1; subst e2; rw [hs, hk, go3 (v := 2) (by decide)] at w; exact k F h1 w hL ex) (fun _ _ q => absurd hw q)
  · rw [hq] at k
    have hk : (inN (nI i) S.ps.length && inN a1 10) = true := by rw [inN_nI (ltl he) (by omega), inS_t c1 c2]; rfl
    have hw : ¬ wasF (nI i) S.sec S.mv.reverse = a1 := fun z => c3 ((hP i e he).1.trans z)
    have hs : ((inN (nI i) S.ps.length && inN a1 10) && (wasF (nI i) S.sec S.mv.reverse != a1)) = true := by rw [hk, Bool.true_and]; exact bne_iff_ne.mpr hw
    have hm : decide (S.mv.length < 300) = false := decide_eq_false (by omega)
    exact ct_MM_enter hM hV.1 b1 (fun _ _ _ e1 e2 e3 hf h1 w ex => by subst e1; subst e2; subst e3; rw [hs, hk, hm, go4 (v := 3) (by decide)] at w; exact k F h1 w hL ex) (fun _ _ _ q => absurd q (by omega))
  · have hk : (inN (nI i) S.ps.length && inN a1 10) = true := by rw [inN_nI (ltl he) (by omega), inS_t c1 c2]; rfl
    have hw : ¬ wasF (nI i) S.sec S.mv.reverse = a1 := fun z => c3 ((hP i e he).1.trans z)
    have hs : ((inN (nI i) S.ps.length && inN a1 10) && (wasF (nI i) S.sec S.mv.reverse != a1)) = true := by rw [hk, Bool.true_and]; exact bne_iff_ne.mpr hw
    have hm : decide (S.mv.length < 300) = true := decide_eq_true c4
    exact ct_MM_enter hM hV.1 b1 (fun _ _ _ e1 e2 e3 hf => by subst e1; subst e2; subst e3; rw [hs, hk, hm] at hf; exact absurd hf (by decide)) (fun _ _ _ _ h1 w ex => k _ h1 (w.cg rfl List.length_set rfl rfl rfl rfl rfl) (hL.move he c4 (Or.inl ⟨c1, c2, rfl⟩)) ex)
set_option maxRecDepth 100000 in
theorem mx_leave {a0 code ans : Int32} {S1 : CS} (hM : RepM g T h mo A th S F) (hL : Rel S F) (oc : oc_leave S a0 code ans S1) (k : ∀ (F1 : FT) (h1 : Hp), RepM g T h1 mo A code S1 F1 → Rel S1 F1 → ExM T h h1 → PR none h1) : Ct g y_MM_leave w_MM_leave 3 0 0 [.ref mo, .int a0] h PR PX := by
  have hB := hL.1
  have hG := hL.2.1
  have hV := hL.2.2.1
  have hP := hL.2.2.2.1
  have hO := hL.2.2.2.2.1
  have hD := hL.2.2.2.2.2.2.1
  have hY := hL.2.2.2.2.2.2.2.1
  have hE := hL.2.2.2.2.2.2.2.2.1
  obtain ⟨b1, b2, b3, b4, b5, b6, b7, b8⟩ := hB
  rcases oc with ⟨rfl, hq, c⟩ | ⟨rfl, hq, i, e, rfl, he, c1⟩ | ⟨rfl, hq, i, e, rfl, he, c1, c2⟩ | ⟨rfl, i, e, rfl, he, c1, c2, rfl, rfl⟩
  · rw [hq] at k
    have hk := inN_ft c
    exact ct_MM_leave hM hV.1 b1 (fun _ _ e1 e2 hf h1 w ex => by rw [hk, go1 (v := 1) (by decide)] at w; exact k F h1 w hL ex) (fun q1 => absurd (hk.symm.trans q1) (by decide))
  · rw [hq] at k
    have hk : inN (nI i) S.ps.length = true := inN_nI (ltl he) (by omega)
    have hw := (hP i e he).1.symm.trans c1
    have hs : (inN (nI i) S.ps.length && !decide (wasF (nI i) S.sec S.mv.reverse < 0)) = false := by rw [hw, show decide ((-1 : Int32) < 0) = true from by decide]; exact Bool.and_false _
    exact ct_MM_leave hM hV.1 b1 (fun _ _ e1 e2 hf h1 w ex => by subst e1; rw [hs, hk, go3 (v := 2) (by decide)] at w; exact k F h1 w hL ex) (fun _ q2 => absurd (by rw [hw]; decide) q2)
  · rw [hq] at k
    have hk : inN (nI i) S.ps.length = true := inN_nI (ltl he) (by omega)
    have hn : ¬ wasF (nI i) S.sec S.mv.reverse < 0 := by rw [← (hP i e he).1]; exact ((hP i e he).2.1.resolve_left c1).1
    have hs : (inN (nI i) S.ps.length && !decide (wasF (nI i) S.sec S.mv.reverse < 0)) = true := by rw [hk, decide_eq_false hn]; rfl
    have hm : decide (S.mv.length < 300) = false := decide_eq_false (by omega)
    exact ct_MM_leave hM hV.1 b1 (fun _ _ e1 e2 hf h1 w ex => by subst e1; subst e2; rw [hs, hk, hm, go4 (v := 3) (by decide)] at w; exact k F h1 w hL ex) (fun _ _ q => absurd q (by omega))
  · have hk : inN (nI i) S.ps.length = true := inN_nI (ltl he) (by omega)
    have hn : ¬ wasF (nI i) S.sec S.mv.reverse < 0 := by rw [← (hP i e he).1]; exact ((hP i e he).2.1.resolve_left c1).1
    have hs : (inN (nI i) S.ps.length && !decide (wasF (nI i) S.sec S.mv.reverse < 0)) = true := by rw [hk, decide_eq_false hn]; rfl
    have hm : decide (S.mv.length < 300) = true := decide_eq_true c2
    exact ct_MM_leave hM hV.1 b1 (fun _ _ e1 e2 hf => by subst e1; subst e2; rw [hs, hk, hm] at hf; exact absurd hf (by decide)) (fun _ _ _ h1 w ex => k _ h1 (w.cg rfl List.length_set rfl rfl rfl rfl rfl) (hL.move he c2 (Or.inr ⟨rfl, rfl⟩)) ex)
set_option maxRecDepth 100000 in
theorem mx_guests {a0 a1 code ans : Int32} {S1 : CS} (hM : RepM g T h mo A th S F) (hL : Rel S F) (oc : oc_guests S a0 a1 code ans S1) (k : ∀ (F1 : FT) (h1 : Hp), RepM g T h1 mo A code S1 F1 → Rel S1 F1 → ExM T h h1 → PR none h1) : Ct g y_MM_guests w_MM_guests 3 0 0 [.ref mo, .int a0, .int a1] h PR PX := by
  have hB := hL.1
  have hG := hL.2.1
  have hV := hL.2.2.1
  have hP := hL.2.2.2.1
  have hO := hL.2.2.2.2.1
  have hD := hL.2.2.2.2.2.2.1
  have hY := hL.2.2.2.2.2.2.2.1
  have hE := hL.2.2.2.2.2.2.2.2.1
  obtain ⟨b1, b2, b3, b4, b5, b6, b7, b8⟩ := hB
  rcases oc with ⟨rfl, hq, c⟩ | ⟨rfl, hq, c1, c2, c3⟩ | ⟨rfl, c1, c2, c3, c4, rfl, rfl⟩
  · rw [hq] at k
    have hk := inS_f c
    exact ct_MM_guests hM (fun hf h1 w ex => by rw [hk, go1 (v := 1) (by decide)] at w; exact k F h1 w hL ex) (fun j hj ej => absurd hk (by rw [ej, inN_nI hj (by decide)]; decide))
  · rw [hq] at k
    have hk := inS_t c1 c2
    have hg := inB_f c3
    exact ct_MM_guests hM (fun hf h1 w ex => by rw [hk, hg, go2 (v := 2) (by decide)] at w; exact k F h1 w hL ex) (fun j hj ej q => absurd (hg.symm.trans q) (by decide))
  · have hk := inS_t c1 c2
    have hg := inB_t c3 c4
    refine ct_MM_guests hM (fun hf => by rw [hk, hg] at hf; exact absurd hf (by decide)) (fun j hj ej q h1 w ex => ?_)
    subst ej
    rw [nI_clamp (by omega)] at k
    exact k _ h1 w (hL.guests c3 c4) ex
set_option maxRecDepth 100000 in
theorem mx_was {a0 a1 code ans : Int32} {S1 : CS} (hM : RepM g T h mo A th S F) (hL : Rel S F) (oc : oc_was S a0 a1 code ans S1) (k : ∀ (b0 : Int32) (F1 : FT) (h1 : Hp), RepM g T h1 mo A code S1 F1 → Rel S1 F1 → ExM T h h1 → (code = 0 → b0 = ans) → PR (some (.int b0)) h1) : Ct g y_MM_was w_MM_was 3 0 0 [.ref mo, .int a0, .int a1] h PR PX := by
  have hB := hL.1
  have hG := hL.2.1
  have hV := hL.2.2.1
  have hP := hL.2.2.2.1
  have hO := hL.2.2.2.2.1
  have hD := hL.2.2.2.2.2.2.1
  have hY := hL.2.2.2.2.2.2.2.1
  have hE := hL.2.2.2.2.2.2.2.2.1
  obtain ⟨b1, b2, b3, b4, b5, b6, b7, b8⟩ := hB
  rcases oc with ⟨rfl, hq, c⟩ | ⟨rfl, hq, i, e, rfl, he, c1⟩ | ⟨rfl, i, e, rfl, he, c1, c2, rfl, hq⟩
  · rw [hq] at k
    have hk := inN_ft c
    exact ct_MM_was hM hV.1 b1 (fun hf h1 w ex => by rw [hk, go1 (v := 1) (by decide)] at w; exact k 0 F h1 w hL ex (fun z => absurd z (by decide))) (fun q1 => absurd (hk.symm.trans q1) (by decide))
  · rw [hq] at k
    have hk : inN (nI i) S.ps.length = true := inN_nI (ltl he) (by omega)
    have hg := inB_f c1
    exact ct_MM_was hM hV.1 b1 (fun hf h1 w ex => by rw [hk, hg, go2 (v := 2) (by decide)] at w; exact k 0 F h1 w hL ex (fun z => absurd z (by decide))) (fun _ q1 => absurd (hg.symm.trans q1) (by decide))
  · rw [hq] at k
    have hk : inN (nI i) S.ps.length = true := inN_nI (ltl he) (by omega)
    have hg := inB_t c1 c2
    exact ct_MM_was hM hV.1 b1 (fun hf => by rw [hk, hg] at hf; exact absurd hf (by decide)) (fun _ _ h1 w ex => k _ F h1 w hL ex (fun _ => rfl))
set_option maxRecDepth 100000 in
theorem mx_seen {a0 a1 code ans : Int32} {S1 : CS} (hM : RepM g T h mo A th S F) (hL : Rel S F) (oc : oc_seen S a0 a1 code ans S1) (k : ∀ (b0 : Int32) (F1 : FT) (h1 : Hp), RepM g T h1 mo A code S1 F1 → Rel S1 F1 → ExM T h h1 → (code = 0 → b0 = ans) → PR (some (.int b0)) h1) : Ct g y_MM_seen w_MM_seen 3 0 0 [.ref mo, .int a0, .int a1] h PR PX := by
  have hB := hL.1
  have hG := hL.2.1
  have hV := hL.2.2.1
  have hP := hL.2.2.2.1
  have hO := hL.2.2.2.2.1
  have hD := hL.2.2.2.2.2.2.1
  have hY := hL.2.2.2.2.2.2.2.1
  have hE := hL.2.2.2.2.2.2.2.2.1
  obtain ⟨b1, b2, b3, b4, b5, b6, b7, b8⟩ := hB
  rcases oc with ⟨rfl, hq, c⟩ | ⟨rfl, hq, i, r, rfl, hr, c1⟩ | ⟨rfl, hq, i, r, rfl, hr, c1, c2, c3⟩ | ⟨rfl, hq, i, r, rfl, hr, c1, c2, c3, c4⟩ | ⟨rfl, i, r, rfl, hr, c1, c2, c3, c4, rfl, rfl⟩
  · rw [hq] at k
    have hk := inN_ft c
    exact ct_MM_seen hM b3 (fun _ _ e1 e2 hf h1 w ex => by rw [hk, go1 (v := 1) (by decide)] at w; exact k 0 F h1 w hL ex (fun z => absurd z (by decide))) (fun j hj ej => absurd hk (by rw [ej, inN_nI hj (by omega)]; decide))
  · rw [hq] at k
    have f5 : F 5 i = r.rd := (hO i r hr).1.2.2.2.1
    have hj : i < S.ro.length := ltl hr
    have hk : inN (nI i) S.ro.length = true := inN_nI hj (by omega)
    have hc : (nI i).toNatClampNeg = i := nI_clamp (by omega)
    have hg := inB_f c1
    exact ct_MM_seen hM b3 (fun _ _ e1 e2 hf h1 w ex => by rw [hk, hg, go2 (v := 2) (by decide)] at w; exact k 0 F h1 w hL ex (fun z => absurd z (by decide))) (fun j hj ej q => absurd (hg.symm.trans q) (by decide))
  · rw [hq] at k
    have f5 : F 5 i = r.rd := (hO i r hr).1.2.2.2.1
    have hj : i < S.ro.length := ltl hr
    have hk : inN (nI i) S.ro.length = true := inN_nI hj (by omega)
    have hc : (nI i).toNatClampNeg = i := nI_clamp (by omega)
    have hg := inB_t c1 c2
    have hs : (inN (nI i) S.ro.length && decide (F 5 (nI i).toNatClampNeg < 3)) = false := by rw [hc, f5, decide_eq_false c3, Bool.and_false]
    exact ct_MM_seen hM b3 (fun _ _ e1 e2 hf h1 w ex => by subst e1; rw [hs, hk, hg, go3 (v := 3) (by decide)] at w; exact k 0 F h1 w hL ex (fun z => absurd z (by decide))) (fun j hj ej _ q => absurd q (by rw [nI_one (by omega) (by omega) ej, f5]; exact c3))
  · rw [hq] at k
    have f5 : F 5 i = r.rd := (hO i r hr).1.2.2.2.1
    have hj : i < S.ro.length := ltl hr
    have hk : inN (nI i) S.ro.length = true := inN_nI hj (by omega)
    have hc : (nI i).toNatClampNeg = i := nI_clamp (by omega)
    have f8 : F 8 i = r.2.2.2.2.2.2.1 := (hO i r hr).2.1.2.1
    have hg := inB_t c1 c2
    have hs : (inN (nI i) S.ro.length && decide (F 5 (nI i).toNatClampNeg < 3)) = true := by rw [hc, f5, decide_eq_true c3, hk]; rfl
    have hm : (inN (nI i) S.ro.length && decide (F 8 (nI i).toNatClampNeg + a1 ≤ 9999)) = false := by rw [hc, f8, decide_eq_false (Int32.not_le.mpr c4), Bool.and_false]
    exact ct_MM_seen hM b3 (fun _ _ e1 e2 hf h1 w ex => by subst e1; subst e2; rw [hs, hm, hk, hg, go4 (v := 4) (by decide)] at w; exact k 0 F h1 w hL ex (fun z => absurd z (by decide))) (fun j hj ej _ _ q => absurd q (by rw [nI_one (by omega) (by omega) ej, f8]; exact Int32.not_le.mpr c4))
  · have f5 : F 5 i = r.rd := (hO i r hr).1.2.2.2.1
    have hj : i < S.ro.length := ltl hr
    have hk : inN (nI i) S.ro.length = true := inN_nI hj (by omega)
    have hc : (nI i).toNatClampNeg = i := nI_clamp (by omega)
    have f8 : F 8 i = r.2.2.2.2.2.2.1 := (hO i r hr).2.1.2.1
    have hg := inB_t c1 c2
    have hs : (inN (nI i) S.ro.length && decide (F 5 (nI i).toNatClampNeg < 3)) = true := by rw [hc, f5, decide_eq_true c3, hk]; rfl
    have hm : (inN (nI i) S.ro.length && decide (F 8 (nI i).toNatClampNeg + a1 ≤ 9999)) = true := by rw [hc, f8, decide_eq_true c4, hk]; rfl
    refine ct_MM_seen hM b3 (fun _ _ e1 e2 hf => by subst e1; subst e2; rw [hs, hm, hk, hg] at hf; exact absurd hf (by decide)) (fun j hj1 ej _ _ _ h1 w ex => ?_)
    obtain rfl := nI_one (by omega) (by omega) ej
    rw [f8] at w ⊢
    exact k _ _ h1 (w.cg rfl rfl rfl List.length_set rfl rfl rfl) (hL.seen hr) ex (fun _ => rfl)
set_option maxRecDepth 100000 in
theorem mx_count {a0 code ans : Int32} {S1 : CS} (hM : RepM g T h mo A th S F) (hL : Rel S F) (oc : oc_count S a0 code ans S1) (k : ∀ (b0 : Int32) (F1 : FT) (h1 : Hp), RepM g T h1 mo A code S1 F1 → Rel S1 F1 → ExM T h h1 → (code = 0 → b0 = ans) → PR (some (.int b0)) h1) : Ct g y_MM_count w_MM_count 3 0 0 [.ref mo, .int a0] h PR PX := by
  have hB := hL.1
  have hG := hL.2.1
  have hV := hL.2.2.1
  have hP := hL.2.2.2.1
  have hO := hL.2.2.2.2.1
  have hD := hL.2.2.2.2.2.2.1
  have hY := hL.2.2.2.2.2.2.2.1
  have hE := hL.2.2.2.2.2.2.2.2.1
  obtain ⟨b1, b2, b3, b4, b5, b6, b7, b8⟩ := hB
  have hh : ∀ (i : Nat) (e : PeT), S.ps[i]? = some e → e.1 = wasF (nI i) S.sec S.mv.reverse ∧ (e.1 = -1 ∨ ¬ e.1 < 0) := fun i e he => ⟨(hP i e he).1, (hP i e he).2.1.imp_right And.left⟩
  rcases oc with ⟨rfl, hq, c⟩ | ⟨rfl, c, rfl, hq⟩
  · rw [hq] at k
    have hk := inT_f (n := 5) (by decide) c
    exact ct_MM_count hM hV.1 b1 b3 b5 hh (fun i r hr => (hO i r hr).1.2.2.2.1) (fun i e he => (hY.1 i e he).1.1) (fun _ h1 w ex => k 0 F h1 w hL ex (fun z => absurd z (by decide))) (fun q => absurd (hk.symm.trans q) (by decide))
  · rw [hq] at k
    have hk := inT_t (n := 5) (by decide) c
    exact ct_MM_count hM hV.1 b1 b3 b5 hh (fun i r hr => (hO i r hr).1.2.2.2.1) (fun i e he => (hY.1 i e he).1.1) (fun q => absurd (hk.symm.trans q) (by decide)) (fun _ h1 w ex => k _ F h1 w hL ex (fun _ => rfl))
set_option maxRecDepth 100000 in
theorem mx_missing {a0 a1 code ans : Int32} {S1 : CS} (hM : RepM g T h mo A th S F) (hL : Rel S F) (oc : oc_missing S a0 a1 code ans S1) (k : ∀ (b0 : Int32) (F1 : FT) (h1 : Hp), RepM g T h1 mo A code S1 F1 → Rel S1 F1 → ExM T h h1 → (code = 0 → b0 = ans) → PR (some (.int b0)) h1) : Ct g y_MM_missing w_MM_missing 3 0 0 [.ref mo, .int a0, .int a1] h PR PX := by
  have hB := hL.1
  have hG := hL.2.1
  have hV := hL.2.2.1
  have hP := hL.2.2.2.1
  have hO := hL.2.2.2.2.1
  have hD := hL.2.2.2.2.2.2.1
  have hY := hL.2.2.2.2.2.2.2.1
  have hE := hL.2.2.2.2.2.2.2.2.1
  obtain ⟨b1, b2, b3, b4, b5, b6, b7, b8⟩ := hB
  have hfm : ∀ o, o < S.ro.length → ∃ fm, fm ≤ S.mv.length ∧ F 6 o = nI fm := fun o ho => by
    obtain ⟨fm, f1, f2, -⟩ := (hO o S.ro[o] (List.getElem?_eq_getElem ho)).2.2.2.2.1
    exact ⟨fm, f1, f2⟩
  rcases oc with ⟨rfl, hq, c⟩ | ⟨rfl, hq, i, r, rfl, hr, c1⟩ | ⟨rfl, hq, i, r, rfl, hr, c1, c2⟩ | ⟨rfl, i, r, rfl, hr, c1, c2, rfl, hq⟩
  · rw [hq] at k
    have hk := inN_ft c
    exact ct_MM_missing hM hV.1 b1 b3 hfm (fun _ e1 hf h1 w ex => by rw [hk, go1 (v := 1) (by decide)] at w; exact k 0 F h1 w hL ex (fun z => absurd z (by decide))) (fun j fm hj ej => absurd hk (by rw [ej, inN_nI hj (by omega)]; decide))
  · rw [hq] at k
    have f5 : F 5 i = r.rd := (hO i r hr).1.2.2.2.1
    have hj : i < S.ro.length := ltl hr
    have hk : inN (nI i) S.ro.length = true := inN_nI hj (by omega)
    have hc : (nI i).toNatClampNeg = i := nI_clamp (by omega)
    have hg : (!decide (a1 < 0)) = false := by rw [decide_eq_true c1]; rfl
    exact ct_MM_missing hM hV.1 b1 b3 hfm (fun _ e1 hf h1 w ex => by rw [hk, hg, go2 (v := 2) (by decide)] at w; exact k 0 F h1 w hL ex (fun z => absurd z (by decide))) (fun j fm hj ej q => absurd c1 q)
  · rw [hq] at k
    have f5 : F 5 i = r.rd := (hO i r hr).1.2.2.2.1
    have hj : i < S.ro.length := ltl hr
    have hk : inN (nI i) S.ro.length = true := inN_nI hj (by omega)
    have hc : (nI i).toNatClampNeg = i := nI_clamp (by omega)
    have hg : (!decide (a1 < 0)) = true := by rw [decide_eq_false c1]; rfl
    have h3 : ¬ r.rd = 3 := fun z => absurd c2 (by rw [z]; decide)
    have hs : (inN (nI i) S.ro.length && decide (F 5 (nI i).toNatClampNeg = 3)) = false := by rw [hc, f5, decide_eq_false h3, Bool.and_false]
    exact ct_MM_missing hM hV.1 b1 b3 hfm (fun _ e1 hf h1 w ex => by subst e1; rw [hs, hk, hg, go3 (v := 3) (by decide)] at w; exact k 0 F h1 w hL ex (fun z => absurd z (by decide))) (fun j fm hj ej _ q => absurd q (by rw [nI_one (by omega) (by omega) ej, f5]; exact h3))
  · rw [hq] at k
    have f5 : F 5 i = r.rd := (hO i r hr).1.2.2.2.1
    have hj : i < S.ro.length := ltl hr
    have hk : inN (nI i) S.ro.length = true := inN_nI hj (by omega)
    have hc : (nI i).toNatClampNeg = i := nI_clamp (by omega)
    have hg : (!decide (a1 < 0)) = true := by rw [decide_eq_false c1]; rfl
    have h3 : r.rd = 3 := by
      rcases (hO i r hr).1.2.2.2.2 with z | z | z
      · exact absurd (by rw [z]; decide) c2
      · exact absurd (by rw [z]; decide) c2
      · exact z
    have hs : (inN (nI i) S.ro.length && decide (F 5 (nI i).toNatClampNeg = 3)) = true := by rw [hc, f5, decide_eq_true h3, hk]; rfl
    refine ct_MM_missing hM hV.1 b1 b3 hfm (fun _ e1 hf => by subst e1; rw [hs, hk, hg] at hf; exact absurd hf (by decide)) (fun j fm hj1 ej _ _ f1 f2 h1 w ex => ?_)
    obtain rfl := nI_one (by omega) (by omega) ej
    exact k _ F h1 w hL ex (fun _ => (miss_eq hL hr c2 f1 f2).symm)
set_option maxRecDepth 100000 in
theorem mx_rollAt {a0 a1 code ans : Int32} {S1 : CS} (hM : RepM g T h mo A th S F) (hL : Rel S F) (oc : oc_rollAt S a0 a1 code ans S1) (k : ∀ (b0 : Int32) (F1 : FT) (h1 : Hp), RepM g T h1 mo A code S1 F1 → Rel S1 F1 → ExM T h h1 → (code = 0 → b0 = ans) → PR (some (.int b0)) h1) : Ct g y_MM_rollAt w_MM_rollAt 4 0 0 [.ref mo, .int a0, .int a1] h PR PX := by
  have hB := hL.1
  have hG := hL.2.1
  have hV := hL.2.2.1
  have hP := hL.2.2.2.1
  have hO := hL.2.2.2.2.1
  have hD := hL.2.2.2.2.2.2.1
  have hY := hL.2.2.2.2.2.2.2.1
  have hE := hL.2.2.2.2.2.2.2.2.1
  obtain ⟨b1, b2, b3, b4, b5, b6, b7, b8⟩ := hB
  have hfm : ∀ o, o < S.ro.length → ∃ fm, fm ≤ S.mv.length ∧ F 6 o = nI fm := fun o ho => by
    obtain ⟨fm, f1, f2, -⟩ := (hO o S.ro[o] (List.getElem?_eq_getElem ho)).2.2.2.2.1
    exact ⟨fm, f1, f2⟩
  rcases oc with ⟨rfl, hq, c⟩ | ⟨rfl, hq, c⟩ | ⟨rfl, i, r, rfl, hr, c1, rfl, hq⟩
  · rw [hq] at k
    have hk := inN_ft c
    exact ct_MM_rollAt hM hV.1 b1 b3 hfm (fun _ h1 w ex => k 0 F h1 w hL ex (fun z => absurd z (by decide))) (fun j fm hj ej => absurd hk (by rw [ej, inN_nI hj (by omega)]; decide))
  · rw [hq] at k
    have hk := inT_f (n := 6) (by decide) c
    exact ct_MM_rollAt hM hV.1 b1 b3 hfm (fun _ h1 w ex => k 0 F h1 w hL ex (fun z => absurd z (by decide))) (fun j fm hj ej q => absurd (hk.symm.trans q) (by decide))
  · rw [hq] at k
    have f5 : F 5 i = r.rd := (hO i r hr).1.2.2.2.1
    have hj : i < S.ro.length := ltl hr
    have hk : inN (nI i) S.ro.length = true := inN_nI hj (by omega)
    have hc : (nI i).toNatClampNeg = i := nI_clamp (by omega)
    have hg := inT_t (n := 6) (by decide) c1
    refine ct_MM_rollAt hM hV.1 b1 b3 hfm (fun hf => by rw [hk, hg] at hf; exact absurd hf (by decide)) (fun j fm hj1 ej _ f1 f2 h1 w ex => ?_)
    obtain rfl := nI_one (by omega) (by omega) ej
    exact k _ F h1 w hL ex (fun _ => (rollAt_eq hL hr f1 f2).symm)
set_option maxRecDepth 100000 in
theorem mx_twice {a0 a1 code ans : Int32} {S1 : CS} (hM : RepM g T h mo A th S F) (hL : Rel S F) (oc : oc_twice S a0 a1 code ans S1) (k : ∀ (b0 : Int32) (F1 : FT) (h1 : Hp), RepM g T h1 mo A code S1 F1 → Rel S1 F1 → ExM T h h1 → (code = 0 → b0 = ans) → PR (some (.int b0)) h1) : Ct g y_MM_twice w_MM_twice 2 0 0 [.ref mo, .int a0, .int a1] h PR PX := by
  have hB := hL.1
  have hG := hL.2.1
  have hV := hL.2.2.1
  have hP := hL.2.2.2.1
  have hO := hL.2.2.2.2.1
  have hD := hL.2.2.2.2.2.2.1
  have hY := hL.2.2.2.2.2.2.2.1
  have hE := hL.2.2.2.2.2.2.2.2.1
  obtain ⟨b1, b2, b3, b4, b5, b6, b7, b8⟩ := hB
  rcases oc with ⟨rfl, hq, c⟩ | ⟨rfl, hq, c⟩ | ⟨rfl, i, d, rfl, hd, c1, rfl, hq⟩
  · rw [hq] at k
    have hk := inN_ft c
    exact ct_MM_twice hM b4 (fun _ h1 w ex => k 0 F h1 w hL ex (fun z => absurd z (by decide))) (fun j fm hj ej => absurd hk (by rw [ej, inN_nI hj (by omega)]; decide))
  · rw [hq] at k
    have hk := inT_f (n := 3) (by decide) c
    exact ct_MM_twice hM b4 (fun _ h1 w ex => k 0 F h1 w hL ex (fun z => absurd z (by decide))) (fun j fm hj ej q q2 => absurd hk (by rw [q2, inN_nI q (by decide)]; decide))
  · rw [hq] at k
    have hi := ltl hd
    have hk : inN (nI i) S.db.length = true := inN_nI hi (by omega)
    have hg := inT_t (n := 3) (by decide) c1
    refine ct_MM_twice hM b4 (fun hf => by rw [hk, hg] at hf; exact absurd hf (by decide)) (fun j w0 hj ej hw ew h1 w ex => ?_)
    obtain rfl := nI_one (by omega) (by omega) ej
    refine k _ F h1 w hL ex (fun _ => ?_)
    obtain ⟨d0, d1, d2, d3⟩ := hD j d hd
    subst ew
    rcases (show w0 = 0 ∨ w0 = 1 ∨ w0 = 2 ∨ w0 = 3 by omega) with rfl | rfl | rfl | rfl
    · exact d0
    · exact d1
    · exact d2
    · exact d3
set_option maxRecDepth 100000 in
theorem mx_maydayAt {a0 a1 code ans : Int32} {S1 : CS} (hM : RepM g T h mo A th S F) (hL : Rel S F) (oc : oc_maydayAt S a0 a1 code ans S1) (k : ∀ (b0 : Int32) (F1 : FT) (h1 : Hp), RepM g T h1 mo A code S1 F1 → Rel S1 F1 → ExM T h h1 → (code = 0 → b0 = ans) → PR (some (.int b0)) h1) : Ct g y_MM_maydayAt w_MM_maydayAt 2 0 0 [.ref mo, .int a0, .int a1] h PR PX := by
  have hB := hL.1
  have hG := hL.2.1
  have hV := hL.2.2.1
  have hP := hL.2.2.2.1
  have hO := hL.2.2.2.2.1
  have hD := hL.2.2.2.2.2.2.1
  have hY := hL.2.2.2.2.2.2.2.1
  have hE := hL.2.2.2.2.2.2.2.2.1
  obtain ⟨b1, b2, b3, b4, b5, b6, b7, b8⟩ := hB
  rcases oc with ⟨rfl, hq, c⟩ | ⟨rfl, hq, c⟩ | ⟨rfl, i, d, rfl, hd, c1, rfl, hq⟩
  · rw [hq] at k
    have hk := inN_ft c
    exact ct_MM_maydayAt hM b5 (fun _ h1 w ex => k 0 F h1 w hL ex (fun z => absurd z (by decide))) (fun j hj ej => absurd hk (by rw [ej, inN_nI hj (by omega)]; decide))
  · rw [hq] at k
    have hk := inT_f (n := 4) (by decide) c
    exact ct_MM_maydayAt hM b5 (fun _ h1 w ex => k 0 F h1 w hL ex (fun z => absurd z (by decide))) (fun j hj ej q => absurd (hk.symm.trans q) (by decide))
  · rw [hq] at k
    have hi := ltl hd
    have hk : inN (nI i) S.md.length = true := inN_nI hi (by omega)
    have hg := inT_t (n := 4) (by decide) c1
    refine ct_MM_maydayAt hM b5 (fun hf => by rw [hk, hg] at hf; exact absurd hf (by decide)) (fun j hj ej _ h1 w ex => ?_)
    obtain rfl := nI_one (by omega) (by omega) ej
    refine k _ F h1 w hL ex (fun _ => ?_)
    obtain ⟨d0, d1, d2, d3, d4⟩ := (hY.1 j d hd).1
    unfold maM maF
    rw [d0, d1, d2, d3, d4]
set_option maxRecDepth 100000 in
theorem mx_late {a0 a1 code ans : Int32} {S1 : CS} (hM : RepM g T h mo A th S F) (hL : Rel S F) (oc : oc_late S a0 a1 code ans S1) (k : ∀ (b0 : Int32) (F1 : FT) (h1 : Hp), RepM g T h1 mo A code S1 F1 → Rel S1 F1 → ExM T h h1 → (code = 0 → b0 = ans) → PR (some (.int b0)) h1) : Ct g y_MM_late w_MM_late 2 0 0 [.ref mo, .int a0, .int a1] h PR PX := by
  have hB := hL.1
  have hG := hL.2.1
  have hV := hL.2.2.1
  have hP := hL.2.2.2.1
  have hO := hL.2.2.2.2.1
  have hD := hL.2.2.2.2.2.2.1
  have hY := hL.2.2.2.2.2.2.2.1
  have hE := hL.2.2.2.2.2.2.2.2.1
  obtain ⟨b1, b2, b3, b4, b5, b6, b7, b8⟩ := hB
  rcases oc with ⟨rfl, hq, c⟩ | ⟨rfl, hq, i, v, rfl, hv, c1⟩ | ⟨rfl, i, v, rfl, hv, c1, rfl, hq⟩
  · rw [hq] at k
    have hk := inN_ft c
    exact ct_MM_late hM b6 (fun hf h1 w ex => by rw [hk, go1 (v := 1) (by decide)] at w; exact k 0 F h1 w hL ex (fun z => absurd z (by decide))) (fun j hj ej => absurd hk (by rw [ej, inN_nI hj (by omega)]; decide))
  · rw [hq] at k
    have hi := ltl hv
    have hk : inN (nI i) S.ev.length = true := inN_nI hi (by omega)
    have hg : (!decide (a1 < 0)) = false := by rw [decide_eq_true c1]; rfl
    exact ct_MM_late hM b6 (fun hf h1 w ex => by rw [hk, hg, go2 (v := 2) (by decide)] at w; exact k 0 F h1 w hL ex (fun z => absurd z (by decide))) (fun j hj ej q => absurd c1 q)
  · rw [hq] at k
    have hi := ltl hv
    have hk : inN (nI i) S.ev.length = true := inN_nI hi (by omega)
    have hg : (!decide (a1 < 0)) = true := by rw [decide_eq_false c1]; rfl
    refine ct_MM_late hM b6 (fun hf => by rw [hk, hg] at hf; exact absurd hf (by decide)) (fun j hj ej _ h1 w ex => ?_)
    obtain rfl := nI_one (by omega) (by omega) ej
    exact k _ F h1 w hL ex (fun _ => (late_eq hL hv).symm)
end MX
