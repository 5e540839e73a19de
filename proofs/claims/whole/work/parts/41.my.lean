/-! the reference, second half -/
section MY
variable {g : zG} {T : Tg} {h : Hp} {PR : Option Value → Hp → Prop} {PX : String → Hp → Prop} {mo : Nat} {A : Nat → Nat} {th : Int32} {S : CS} {F : FT}
set_option maxRecDepth 100000 in
theorem mx_tick {a0 code ans : Int32} {S1 : CS} (hM : RepM g T h mo A th S F) (hL : Rel S F) (oc : oc_tick S a0 code ans S1) (k : ∀ (b0 : Int32) (F1 : FT) (h1 : Hp), RepM g T h1 mo A code S1 F1 → Rel S1 F1 → ExM T h h1 → (code = 0 → b0 = ans) → PR (some (.int b0)) h1) : Ct g y_MM_tick w_MM_tick 2 0 0 [.ref mo, .int a0] h PR PX := by
  have hB := hL.1
  have hG := hL.2.1
  have hV := hL.2.2.1
  have hP := hL.2.2.2.1
  have hO := hL.2.2.2.2.1
  have hD := hL.2.2.2.2.2.2.1
  have hY := hL.2.2.2.2.2.2.2.1
  have hE := hL.2.2.2.2.2.2.2.2.1
  obtain ⟨b1, b2, b3, b4, b5, b6, b7, b8⟩ := hB
  rcases oc with ⟨rfl, hq, c⟩ | ⟨rfl, c1, c2, c3, c4, rfl, rfl⟩ | ⟨rfl, c1, c2, c3, c4, ⟨i, v, hi, hv, c5⟩, rfl, rfl⟩ | ⟨rfl, i, v, c1, c2, c3, c4, hi, hv, c5, c6, rfl, rfl⟩
  · rw [hq] at k
    refine ct_MM_tick hM b6 (fun _ _ _ h1 w ex => k 0 F h1 w hL ex (fun z => absurd z (by decide))) (fun q1 q2 => ?_)
    rcases c with c | c | c
    · exact absurd (inB_f (b := 5000) (Or.inl c)) (by rw [q1]; decide)
    · exact absurd (inB_f (a := 1) (Or.inr c)) (by rw [q1]; decide)
    · exact absurd q2 (Int32.not_le.mpr c)
  · refine ct_MM_tick hM b6 (fun rg e1 e2 => absurd (e1.symm.trans e2) (by rw [inB_t c1 c2, decide_eq_true c3]; decide)) (fun _ _ h1 w ex => k _ F h1 w (hL.tick1 c1 c2 c3 (Or.inl c4)) ex (fun _ => ?_))
    split
    · rename_i hc
      have hlt : S.ev.length - 1 < S.ev.length := by omega
      have hr := hE _ _ (List.getElem?_eq_getElem hlt)
      have ho := off_row hE c4 (List.getElem?_eq_getElem hlt)
      rw [hr.2.2.1] at ho
      have hz : cnt (fun q => F 20 ((S.ev.length - 1) * 10 + q) == -1) 0 10 = 0 := by
        have hle := cnt_le (fun q => F 20 ((S.ev.length - 1) * 10 + q) == -1) 10 0
        rcases Nat.eq_zero_or_pos (cnt (fun q => F 20 ((S.ev.length - 1) * 10 + q) == -1) 0 10) with z | z
        · exact z
        · exact absurd (show (0 : Int32) < nI (cnt (fun q => F 20 ((S.ev.length - 1) * 10 + q) == -1) 0 10) from by rw [← nI_0]; exact nI_lt z (by omega)) ho
      rw [hz]
      rfl
    · rfl
  · refine ct_MM_tick hM b6 (fun rg e1 e2 => absurd (e1.symm.trans e2) (by rw [inB_t c1 c2, decide_eq_true c3]; decide)) (fun _ _ h1 w ex => k _ F h1 w (hL.tick1 c1 c2 c3 (Or.inr ⟨i, v, hi, hv, c5⟩)) ex (fun _ => ?_))
    refine if_neg (fun z => ?_)
    rw [show S.ev.length - 1 = i from by omega] at z
    have hr := hE i v hv
    rw [hr.1.1] at z
    obtain ⟨i2, v2, hi2, hv2, hp⟩ := isOnE_last c4
    obtain rfl : i2 = i := by omega
    obtain rfl := Option.some.inj (hv.symm.trans hv2)
    rcases c5 with c5 | c5
    · exact z.2.1 ((hr.2.2.2 hp).1.mp c5)
    · exact absurd z.2.2 (Int32.not_lt.mpr c5)
  · refine ct_MM_tick hM b6 (fun rg e1 e2 => absurd (e1.symm.trans e2) (by rw [inB_t c1 c2, decide_eq_true c3]; decide)) (fun _ _ h1 w ex => k _ F h1 (w.cg rfl rfl rfl rfl rfl rfl List.length_set) (hL.tick3 c1 c2 c3 c4 hi hv c5 c6) ex (fun _ => ?_))
    have hr := hE i v hv
    obtain ⟨i2, v2, hi2, hv2, hp⟩ := isOnE_last c4
    obtain rfl : i2 = i := by omega
    obtain rfl := Option.some.inj (hv.symm.trans hv2)
    rw [show S.ev.length - 1 = i2 from by omega, hr.1.1, if_pos ⟨by omega, fun z => absurd c5 ((hr.2.2.2 hp).1.mpr z), c6⟩]
    exact hr.2.2.1.symm
set_option maxRecDepth 100000 in
theorem mx_confirm {a0 code ans : Int32} {S1 : CS} (hM : RepM g T h mo A th S F) (hL : Rel S F) (oc : oc_confirm S a0 code ans S1) (k : ∀ (b0 : Int32) (F1 : FT) (h1 : Hp), RepM g T h1 mo A code S1 F1 → Rel S1 F1 → ExM T h h1 → (code = 0 → b0 = ans) → PR (some (.int b0)) h1) : Ct g y_MM_confirm w_MM_confirm 3 0 0 [.ref mo, .int a0] h PR PX := by
  have hB := hL.1
  have hG := hL.2.1
  have hV := hL.2.2.1
  have hP := hL.2.2.2.1
  have hO := hL.2.2.2.2.1
  have hD := hL.2.2.2.2.2.2.1
  have hY := hL.2.2.2.2.2.2.2.1
  have hE := hL.2.2.2.2.2.2.2.2.1
  obtain ⟨b1, b2, b3, b4, b5, b6, b7, b8⟩ := hB
  rcases oc with ⟨rfl, hq, c⟩ | ⟨rfl, hq, c1, c2, c3⟩ | ⟨rfl, hq, j, i, v, rfl, hj, c1, hi, hv, c2⟩ | ⟨rfl, j, i, v, rfl, hj, c1, hi, hv, c2, rfl, rfl⟩
  · rw [hq] at k
    have hk := inS_f c
    exact ct_MM_confirm hM b6 (fun _ e1 hf h1 w ex => by rw [hk, go1 (v := 1) (by decide)] at w; exact k 0 F h1 w hL ex (fun z => absurd z (by decide))) (fun j hj ej => absurd hk (by rw [ej, inN_nI hj (by decide)]; decide))
  · rw [hq] at k
    have hk := inS_t c1 c2
    have hs : (inN a0 10 && onM S F && (F 20 ((S.ev.length - 1) * 10 + a0.toNatClampNeg) == -1)) = false := by rw [onM_eq hL, c3, Bool.and_false, Bool.false_and]
    exact ct_MM_confirm hM b6 (fun _ e1 hf h1 w ex => by subst e1; rw [hs, hk, go3 (v := 2) (by decide)] at w; exact k 0 F h1 w hL ex (fun z => absurd z (by decide))) (fun j hj ej q => absurd ((onM_eq hL).symm.trans q) (by rw [c3]; decide))
  · rw [hq] at k
    have hk : inN (nI j) 10 = true := inN_nI hj (by decide)
    have hl : S.ev.length - 1 = i := by omega
    have hn : ¬ F 20 (i * 10 + j) = -1 := fun z => absurd c2 (((hE i v hv).2.1 j hj).1.mpr z)
    have hs : (inN (nI j) 10 && onM S F && (F 20 ((S.ev.length - 1) * 10 + (nI j).toNatClampNeg) == -1)) = false := by rw [hl, nI_clamp (by omega), beq_eq_false_iff_ne.mpr hn, Bool.and_false]
    exact ct_MM_confirm hM b6 (fun _ e1 hf h1 w ex => by subst e1; rw [hs, hk, go3 (v := 2) (by decide)] at w; exact k 0 F h1 w hL ex (fun z => absurd z (by decide))) (fun j1 hj1 ej _ q => by
      obtain rfl := nI_one (by omega) (by omega) ej
      rw [hl] at q
      exact absurd q hn)
  · have hk : inN (nI j) 10 = true := inN_nI hj (by decide)
    have hl : S.ev.length - 1 = i := by omega
    have hy : F 20 (i * 10 + j) = -1 := ((hE i v hv).2.1 j hj).1.mp c2
    have hs : (inN (nI j) 10 && onM S F && (F 20 ((S.ev.length - 1) * 10 + (nI j).toNatClampNeg) == -1)) = true := by rw [hl, nI_clamp (by omega), hy, hk, onM_eq hL, c1]; rfl
    refine ct_MM_confirm hM b6 (fun _ e1 hf => by subst e1; rw [hs, hk] at hf; exact absurd hf (by decide)) (fun j1 hj1 ej _ q h1 w ex => ?_)
    obtain rfl := nI_one (by omega) (by omega) ej
    rw [hl] at w ⊢
    exact k _ _ h1 (w.cg rfl rfl rfl rfl rfl rfl List.length_set) (hL.confirm hv hj c2) ex (fun _ => (confirm_cnt hL hv hj c2).1.symm)
set_option maxRecDepth 100000 in
theorem mx_evacuate {a0 code ans : Int32} {S1 : CS} (hM : RepM g T h mo A th S F) (hL : Rel S F) (oc : oc_evacuate S a0 code ans S1) (k : ∀ (b0 : Int32) (F1 : FT) (h1 : Hp), RepM g T h1 mo A code S1 F1 → Rel S1 F1 → ExM T h h1 → (code = 0 → b0 = ans) → PR (some (.int b0)) h1) : Ct g y_MM_evacuate w_MM_evacuate 4 0 0 [.ref mo, .int a0] h PR PX := by
  have hB := hL.1
  have hG := hL.2.1
  have hV := hL.2.2.1
  have hP := hL.2.2.2.1
  have hO := hL.2.2.2.2.1
  have hD := hL.2.2.2.2.2.2.1
  have hY := hL.2.2.2.2.2.2.2.1
  have hE := hL.2.2.2.2.2.2.2.2.1
  obtain ⟨b1, b2, b3, b4, b5, b6, b7, b8⟩ := hB
  have hz : dmN S.gf S.ps 0 10 0 = 0 ↔ anyN (dmB S.gf S.ps) 0 10 = false := by
    rw [dmN0]
    have hle := cnt_le (dmB S.gf S.ps) 10 0
    constructor
    · intro z
      rw [← nI_0, nI_eq (by omega) (by omega)] at z
      cases hb : anyN (dmB S.gf S.ps) 0 10 with
      | false => rfl
      | true => exact absurd (cnt_pos.mpr hb) (by omega)
    · intro z
      have : ¬ 0 < cnt (dmB S.gf S.ps) 0 10 := fun q => absurd (cnt_pos.mp q) (by rw [z]; decide)
      rw [show cnt (dmB S.gf S.ps) 0 10 = 0 from by omega]
      rfl
  rcases oc with ⟨rfl, hq, c⟩ | ⟨rfl, hq, c1, c2, c3⟩ | ⟨rfl, hq, c1, c2, c3, c4, c5⟩ | ⟨rfl, mu, lt, c1, c2, c3, c4, c5, rfl, rfl⟩
  · rw [hq] at k
    have hg := inB_f c
    exact ct_MM_evacuate hM hV.1 b6 b1 (fun i e he => (hP i e he).1) (fun j hj => (hG j hj).1) (fun _ _ e1 e2 hf h1 w ex => by rw [hg, go2 (v := 1) (by decide)] at w; exact k 0 F h1 w hL ex (fun z => absurd z (by decide))) (fun q => absurd (hg.symm.trans q) (by decide)) (0, (0, 0, (fun _ => 0), (fun _ => 0)), 0, 0)
  · rw [hq] at k
    have hg := inB_t c1 c2
    have hs : (anyN (dmB S.gf S.ps) 0 10 && !onM S F) = false := by
      rcases c3 with c3 | c3
      · rw [onM_eq hL, c3]; exact Bool.and_false _
      · rw [hz.mp c3, Bool.false_and]
    exact ct_MM_evacuate hM hV.1 b6 b1 (fun i e he => (hP i e he).1) (fun j hj => (hG j hj).1) (fun _ _ e1 e2 hf h1 w ex => by subst e1; rw [hs, hg, go3 (v := 2) (by decide)] at w; exact k 0 F h1 w hL ex (fun z => absurd z (by decide))) (fun _ q1 q2 => absurd hs (by rw [q1, q2]; decide)) (0, (0, 0, (fun _ => 0), (fun _ => 0)), 0, 0)
  · rw [hq] at k
    have hg := inB_t c1 c2
    have hs : (anyN (dmB S.gf S.ps) 0 10 && !onM S F) = true := by rw [onM_eq hL, c3, eq_true_of_ne_false (fun z => c4 (hz.mpr z))]; rfl
    have hm : decide (S.ev.length < 20) = false := decide_eq_false (by omega)
    exact ct_MM_evacuate hM hV.1 b6 b1 (fun i e he => (hP i e he).1) (fun j hj => (hG j hj).1) (fun _ _ e1 e2 hf h1 w ex => by subst e1; subst e2; rw [hs, hg, hm, go4 (v := 3) (by decide)] at w; exact k 0 F h1 w hL ex (fun z => absurd z (by decide))) (fun _ q1 q2 q3 => absurd q3 (by omega)) (0, (0, 0, (fun _ => 0), (fun _ => 0)), 0, 0)
  · have hg := inB_t c1 c2
    have hs : (anyN (dmB S.gf S.ps) 0 10 && !onM S F) = true := by rw [onM_eq hL, c3, eq_true_of_ne_false (fun z => c4 (hz.mpr z))]; rfl
    have hm : decide (S.ev.length < 20) = true := decide_eq_true c5
    exact ct_MM_evacuate hM hV.1 b6 b1 (fun i e he => (hP i e he).1) (fun j hj => (hG j hj).1) (fun _ _ e1 e2 hf => by subst e1; subst e2; rw [hs, hg, hm] at hf; exact absurd hf (by decide)) (fun _ _ _ _ v h1 w ex => k _ _ h1 (w.cg rfl rfl rfl rfl rfl rfl (by show (S.2.2.2.2.2.2.2 ++ [evN S a0 mu lt]).length = (S.2.2.2.2.2.2.2 ++ [v]).length; rw [List.length_append, List.length_append]; rfl)) (hL.evacuate c5 c3 c1 c2) ex (fun _ => rfl)) (0, (0, 0, (fun _ => 0), (fun _ => 0)), 0, 0)
set_option maxRecDepth 100000 in
theorem mx_mayday {a0 a1 code ans : Int32} {S1 : CS} (hM : RepM g T h mo A th S F) (hL : Rel S F) (oc : oc_mayday S a0 a1 code ans S1) (k : ∀ (b0 : Int32) (F1 : FT) (h1 : Hp), RepM g T h1 mo A code S1 F1 → Rel S1 F1 → ExM T h h1 → (code = 0 → b0 = ans) → PR (some (.int b0)) h1) : Ct g y_MM_mayday w_MM_mayday 3 0 0 [.ref mo, .int a0, .int a1] h PR PX := by
  have hB := hL.1
  have hG := hL.2.1
  have hV := hL.2.2.1
  have hP := hL.2.2.2.1
  have hO := hL.2.2.2.2.1
  have hD := hL.2.2.2.2.2.2.1
  have hY := hL.2.2.2.2.2.2.2.1
  have hE := hL.2.2.2.2.2.2.2.2.1
  obtain ⟨b1, b2, b3, b4, b5, b6, b7, b8⟩ := hB
  rcases oc with ⟨rfl, hq, c⟩ | ⟨rfl, hq, i, e, rfl, he, c1⟩ | ⟨rfl, hq, i, e, rfl, he, c1, c2, c3⟩ | ⟨rfl, hq, i, e, rfl, he, c1, c2, c3, c4, c5⟩ | ⟨rfl, i, e, rfl, he, c1, c2, c3, c4, c5, rfl, rfl⟩
  · rw [hq] at k
    have hk := inN_ft c
    exact ct_MM_mayday hM hV.1 b1 b5 (fun i e he => ⟨(hY.1 i e he).1.1, (hY.1 i e he).1.2.2.1⟩) (fun _ _ e1 e2 hf h1 w ex => by rw [hk, go1 (v := 1) (by decide)] at w; exact k 0 F h1 w hL ex (fun z => absurd z (by decide))) (fun q => absurd (hk.symm.trans q) (by decide)) (0, 0, 0, 0, 0)
  · rw [hq] at k
    have hk : inN (nI i) S.ps.length = true := inN_nI (ltl he) (by omega)
    have hg := inB_f c1
    exact ct_MM_mayday hM hV.1 b1 b5 (fun i e he => ⟨(hY.1 i e he).1.1, (hY.1 i e he).1.2.2.1⟩) (fun _ _ e1 e2 hf h1 w ex => by rw [hk, hg, go2 (v := 2) (by decide)] at w; exact k 0 F h1 w hL ex (fun z => absurd z (by decide))) (fun _ q => absurd (hg.symm.trans q) (by decide)) (0, 0, 0, 0, 0)
  · rw [hq] at k
    have hk : inN (nI i) S.ps.length = true := inN_nI (ltl he) (by omega)
    have hg := inB_t c1 c2
    have hs : ((inN (nI i) S.ps.length && !decide (wasF (nI i) S.sec S.mv.reverse < 0)) && !S.md.any (fun e => e.op != 0 && e.1 == nI i)) = false := by
      rcases c3 with c3 | c3
      · rw [(hP i e he).1.symm.trans c3, show decide ((-1 : Int32) < 0) = true from by decide, show (!true) = false from rfl, Bool.and_false, Bool.false_and]
      · rw [c3]; exact Bool.and_false _
    exact ct_MM_mayday hM hV.1 b1 b5 (fun i e he => ⟨(hY.1 i e he).1.1, (hY.1 i e he).1.2.2.1⟩) (fun _ _ e1 e2 hf h1 w ex => by subst e1; rw [hs, hk, hg, go3 (v := 3) (by decide)] at w; exact k 0 F h1 w hL ex (fun z => absurd z (by decide))) (fun q0 _ q1 q2 => absurd hs (by rw [q0, decide_eq_false q1, q2]; decide)) (0, 0, 0, 0, 0)
  · rw [hq] at k
    have hk : inN (nI i) S.ps.length = true := inN_nI (ltl he) (by omega)
    have hg := inB_t c1 c2
    have hn : ¬ wasF (nI i) S.sec S.mv.reverse < 0 := by rw [← (hP i e he).1]; exact ((hP i e he).2.1.resolve_left c3).1
    have hs : ((inN (nI i) S.ps.length && !decide (wasF (nI i) S.sec S.mv.reverse < 0)) && !S.md.any (fun e => e.op != 0 && e.1 == nI i)) = true := by rw [hk, decide_eq_false hn, c4]; rfl
    have hm : decide (S.md.length < 30) = false := decide_eq_false (by omega)
    exact ct_MM_mayday hM hV.1 b1 b5 (fun i e he => ⟨(hY.1 i e he).1.1, (hY.1 i e he).1.2.2.1⟩) (fun _ _ e1 e2 hf h1 w ex => by subst e1; subst e2; rw [hs, hk, hg, hm, go4 (v := 4) (by decide)] at w; exact k 0 F h1 w hL ex (fun z => absurd z (by decide))) (fun _ _ _ _ q => absurd q (by omega)) (0, 0, 0, 0, 0)
  · have hk : inN (nI i) S.ps.length = true := inN_nI (ltl he) (by omega)
    have hg := inB_t c1 c2
    have hn : ¬ wasF (nI i) S.sec S.mv.reverse < 0 := by rw [← (hP i e he).1]; exact ((hP i e he).2.1.resolve_left c3).1
    have hs : ((inN (nI i) S.ps.length && !decide (wasF (nI i) S.sec S.mv.reverse < 0)) && !S.md.any (fun e => e.op != 0 && e.1 == nI i)) = true := by rw [hk, decide_eq_false hn, c4]; rfl
    have hm : decide (S.md.length < 30) = true := decide_eq_true c5
    exact ct_MM_mayday hM hV.1 b1 b5 (fun i e he => ⟨(hY.1 i e he).1.1, (hY.1 i e he).1.2.2.1⟩) (fun _ _ e1 e2 hf => by subst e1; subst e2; rw [hs, hk, hg, hm] at hf; exact absurd hf (by decide)) (fun _ _ _ _ _ v h1 w ex => k _ _ h1 (w.cg rfl rfl rfl rfl rfl (by show (S.2.2.2.2.2.2.1 ++ [(nI i, a1, S.1, 1, lft S.md)]).length = (S.2.2.2.2.2.2.1 ++ [v]).length; rw [List.length_append, List.length_append]; rfl) rfl) (hL.mayday c5) ex (fun _ => rfl)) (0, 0, 0, 0, 0)
set_option maxRecDepth 100000 in
theorem mx_answered {a0 code ans : Int32} {S1 : CS} (hM : RepM g T h mo A th S F) (hL : Rel S F) (oc : oc_answered S a0 code ans S1) (k : ∀ (F1 : FT) (h1 : Hp), RepM g T h1 mo A code S1 F1 → Rel S1 F1 → ExM T h h1 → PR none h1) : Ct g y_MM_answered w_MM_answered 3 0 0 [.ref mo, .int a0] h PR PX := by
  have hB := hL.1
  have hG := hL.2.1
  have hV := hL.2.2.1
  have hP := hL.2.2.2.1
  have hO := hL.2.2.2.2.1
  have hD := hL.2.2.2.2.2.2.1
  have hY := hL.2.2.2.2.2.2.2.1
  have hE := hL.2.2.2.2.2.2.2.2.1
  obtain ⟨b1, b2, b3, b4, b5, b6, b7, b8⟩ := hB
  rcases oc with ⟨rfl, hq, c⟩ | ⟨rfl, hq, i, e, rfl, he, c1⟩ | ⟨rfl, i, e, rfl, he, c1, rfl, rfl⟩
  · rw [hq] at k
    have hk := inN_ft c
    exact ct_MM_answered hM b5 (fun _ e1 hf h1 w ex => by rw [hk, go1 (v := 1) (by decide)] at w; exact k F h1 w hL ex) (fun j hj ej => absurd hk (by rw [ej, inN_nI hj (by omega)]; decide))
  · rw [hq] at k
    have hi := ltl he
    have hk : inN (nI i) S.md.length = true := inN_nI hi (by omega)
    have f14 : F 14 i = e.op := (hY.1 i e he).1.1
    have hs : (inN (nI i) S.md.length && (F 14 (nI i).toNatClampNeg != 0)) = false := by rw [nI_clamp (by omega), f14, c1]; exact Bool.and_false _
    exact ct_MM_answered hM b5 (fun _ e1 hf h1 w ex => by subst e1; rw [hs, hk, go3 (v := 2) (by decide)] at w; exact k F h1 w hL ex) (fun j hj ej q => absurd (f14.trans c1) (by rw [← nI_one (by omega) (by omega) ej]; exact q))
  · have hi := ltl he
    have hk : inN (nI i) S.md.length = true := inN_nI hi (by omega)
    have f14 : F 14 i = e.op := (hY.1 i e he).1.1
    have hs : (inN (nI i) S.md.length && (F 14 (nI i).toNatClampNeg != 0)) = true := by rw [nI_clamp (by omega), f14, hk, Bool.true_and]; exact bne_iff_ne.mpr c1
    refine ct_MM_answered hM b5 (fun _ e1 hf => by subst e1; rw [hs, hk] at hf; exact absurd hf (by decide)) (fun j hj ej _ h1 w ex => ?_)
    obtain rfl := nI_one (by omega) (by omega) ej
    refine k _ h1 (w.cg rfl rfl rfl rfl rfl ?_ rfl) (hL.answered he c1) ex
    show (if e.tm = -1 then S.2.2.2.2.2.2.1.set j (e.1, e.2.1, e.2.2.1, 0, -1) else sendL e.tm (S.2.2.2.2.2.2.1.set j (e.1, e.2.1, e.2.2.1, 0, -1))).length = S.2.2.2.2.2.2.1.length
    split
    · exact List.length_set
    · rw [sendL_len]; exact List.length_set
set_option maxRecDepth 100000 in
theorem mx_answer {a0 a1 a2 code ans : Int32} {S1 : CS} (hM : RepM g T h mo A th S F) (hL : Rel S F) (oc : oc_answer S a0 a1 a2 code ans S1) (k : ∀ (b0 : Int32) (F1 : FT) (h1 : Hp), RepM g T h1 mo A code S1 F1 → Rel S1 F1 → ExM T h h1 → (code = 0 → b0 = ans) → PR (some (.int b0)) h1) : Ct g y_MM_answer w_MM_answer 3 0 0 [.ref mo, .int a0, .int a1, .int a2] h PR PX := by
  have hB := hL.1
  have hG := hL.2.1
  have hV := hL.2.2.1
  have hP := hL.2.2.2.1
  have hO := hL.2.2.2.2.1
  have hD := hL.2.2.2.2.2.2.1
  have hY := hL.2.2.2.2.2.2.2.1
  have hE := hL.2.2.2.2.2.2.2.2.1
  obtain ⟨b1, b2, b3, b4, b5, b6, b7, b8⟩ := hB
  rcases oc with ⟨rfl, hq, c⟩ | ⟨rfl, hq, i, r, j, e, rfl, hr, c1, c2, rfl, he, c3⟩ | ⟨rfl, hq, i, r, j, e, rfl, hr, c1, c2, rfl, he, c3, c4, c5, c6, c7⟩ | ⟨rfl, i, r, j, e, rfl, hr, c1, c2, rfl, he, c3, c4, rfl, rfl⟩ | ⟨rfl, i, r, j, e, rfl, hr, c1, c2, rfl, he, c3, c4, c5, rfl, rfl⟩ | ⟨rfl, i, r, j, e, rfl, hr, c1, c2, rfl, he, c3, c4, c5, c6, rfl, hq⟩ | ⟨rfl, i, r, j, e, rfl, hr, c1, c2, rfl, he, c3, c4, c5, c6, c7, rfl, rfl⟩
  · rw [hq] at k
    have hk : (inN a0 S.ro.length && (inN a1 10 && inN a2 S.ps.length)) = false := by
      rcases c with c | c | c
      · rw [inN_ft c, Bool.false_and]
      · rw [inS_f c, Bool.false_and, Bool.and_false]
      · rw [inN_ft c, Bool.and_false, Bool.and_false]
    have no : ∀ (r i : Nat), r < S.ro.length → i < S.ps.length → a0 = nI r → a2 = nI i → inN a1 10 = true → False := fun r i hr hi er ei hb => absurd hk (by rw [er, ei, hb, inN_nI hr (by omega), inN_nI hi (by omega)]; decide)
    exact ct_MM_answer hM b1 b3 b4 (fun _ _ _ e1 e2 e3 hf h1 w ex => by subst e1; rw [hk, go1 (v := 1) (by decide)] at w; exact k 0 F h1 w hL ex (fun z => absurd z (by decide))) (fun r i q1 q2 q3 q4 q5 => (no r i q1 q2 q3 q4 q5).elim) (fun r i q1 q2 q3 q4 q5 => (no r i q1 q2 q3 q4 q5).elim) (fun r i q1 q2 q3 q4 q5 => (no r i q1 q2 q3 q4 q5).elim) (fun r i q1 q2 q3 q4 q5 => (no r i q1 q2 q3 q4 q5).elim) (0, 0, 0, 0)
  · rw [hq] at k
    have hi := ltl hr
    have hj := ltl he
    have f5 : F 5 i = r.rd := (hO i r hr).1.2.2.2.1
    have hci : (nI i).toNatClampNeg = i := nI_clamp (by omega)
    have hcj : (nI j).toNatClampNeg = j := nI_clamp (by omega)
    have hk : (inN (nI i) S.ro.length && (inN a1 10 && inN (nI j) S.ps.length)) = true := by rw [inN_nI hi (by omega), inS_t c1 c2, inN_nI hj (by omega)]; rfl
    have hcc := cofN_cases (hO i r hr) (i := j) (by omega)
    have hs : ((inN (nI i) S.ro.length && (inN a1 10 && inN (nI j) S.ps.length)) && decide (F 5 (nI i).toNatClampNeg < 3)) = false := by rw [hci, f5, decide_eq_false c3, Bool.and_false]
    have no : ∀ (r2 : Nat), r2 < S.ro.length → nI i = nI r2 → F 5 r2 < 3 → False := fun r2 hr2 er q => by
      rw [nI_one (by omega) (by omega) er, f5] at q
      exact c3 q
    exact ct_MM_answer hM b1 b3 b4 (fun _ _ _ e1 e2 e3 hf h1 w ex => by subst e1; subst e2; rw [hs, hk, go3 (v := 2) (by decide)] at w; exact k 0 F h1 w hL ex (fun z => absurd z (by decide))) (fun r i q1 q2 q3 q4 q5 q6 => (no r q1 q3 q6).elim) (fun r i q1 q2 q3 q4 q5 q6 => (no r q1 q3 q6).elim) (fun r i q1 q2 q3 q4 q5 q6 => (no r q1 q3 q6).elim) (fun r i q1 q2 q3 q4 q5 q6 => (no r q1 q3 q6).elim) (0, 0, 0, 0)
  · rw [hq] at k
    have hi := ltl hr
    have hj := ltl he
    have f5 : F 5 i = r.rd := (hO i r hr).1.2.2.2.1
    have hci : (nI i).toNatClampNeg = i := nI_clamp (by omega)
    have hcj : (nI j).toNatClampNeg = j := nI_clamp (by omega)
    have hk : (inN (nI i) S.ro.length && (inN a1 10 && inN (nI j) S.ps.length)) = true := by rw [inN_nI hi (by omega), inS_t c1 c2, inN_nI hj (by omega)]; rfl
    have hcc := cofN_cases (hO i r hr) (i := j) (by omega)
    have hs : ((inN (nI i) S.ro.length && (inN a1 10 && inN (nI j) S.ps.length)) && decide (F 5 (nI i).toNatClampNeg < 3)) = true := by rw [hk, hci, f5, decide_eq_true c3]; rfl
    obtain ⟨z1, z2, z3, f10, f11⟩ := (hcc.resolve_left (fun z => c4 z.1)).resolve_left (fun z => c5 z.1)
    have hm : (!((inN (nI i) S.ro.length && (inN a1 10 && inN (nI j) S.ps.length)) && dbB F ((nI i).toNatClampNeg * 60 + (nI j).toNatClampNeg) a1) || decide (S.db.length < 100)) = false := by
      rw [hk, hci, hcj, decide_eq_false (show ¬ S.db.length < 100 by omega), dbB, f10, f11, decide_eq_false z1, bne_iff_ne.mpr c6]
      rfl
    exact ct_MM_answer hM b1 b3 b4 (fun _ _ _ e1 e2 e3 hf h1 w ex => by subst e1; subst e2; subst e3; rw [hs, hm, hk, go4 (v := 3) (by decide)] at w; exact k 0 F h1 w hL ex (fun z => absurd z (by decide)))
      (fun r2 i2 _ _ er ed _ _ q => by
      obtain rfl := nI_one (by omega) (by omega) er
      obtain rfl := nI_one (by omega) (by omega) ed
      exact absurd q (by rw [f10]; decide))
      (fun r2 i2 _ _ er ed _ _ _ q => by
      obtain rfl := nI_one (by omega) (by omega) er
      obtain rfl := nI_one (by omega) (by omega) ed
      exact absurd q (by rw [f11]; exact z1))
      (fun r2 i2 _ _ er ed _ _ _ _ q => by
      obtain rfl := nI_one (by omega) (by omega) er
      obtain rfl := nI_one (by omega) (by omega) ed
      exact absurd (f11.symm.trans q) c6)
      (fun r2 i2 _ _ _ _ _ _ _ _ _ q => absurd q (by omega)) (0, 0, 0, 0)
  · have hi := ltl hr
    have hj := ltl he
    have f5 : F 5 i = r.rd := (hO i r hr).1.2.2.2.1
    have hci : (nI i).toNatClampNeg = i := nI_clamp (by omega)
    have hcj : (nI j).toNatClampNeg = j := nI_clamp (by omega)
    have hk : (inN (nI i) S.ro.length && (inN a1 10 && inN (nI j) S.ps.length)) = true := by rw [inN_nI hi (by omega), inS_t c1 c2, inN_nI hj (by omega)]; rfl
    have hcc := cofN_cases (hO i r hr) (i := j) (by omega)
    have hs : ((inN (nI i) S.ro.length && (inN a1 10 && inN (nI j) S.ps.length)) && decide (F 5 (nI i).toNatClampNeg < 3)) = true := by rw [hk, hci, f5, decide_eq_true c3]; rfl
    obtain ⟨z1, f10, f11⟩ : cofN r j = -2 ∧ F 10 (i * 60 + j) = 0 ∧ F 11 (i * 60 + j) = -1 := by
      rcases hcc with z | z | z
      · exact z
      · exact absurd (c4.symm.trans z.1) (by decide)
      · exact absurd c4 z.2.1
    have hm : (!((inN (nI i) S.ro.length && (inN a1 10 && inN (nI j) S.ps.length)) && dbB F ((nI i).toNatClampNeg * 60 + (nI j).toNatClampNeg) a1) || decide (S.db.length < 100)) = true := by
      rw [hk, hci, hcj, dbB, f10]
      rfl
    refine ct_MM_answer hM b1 b3 b4 (fun _ _ _ e1 e2 e3 hf => by subst e1; subst e2; subst e3; rw [hs, hm, hk] at hf; exact absurd hf (by decide))
      (fun r2 i2 _ _ er ed _ _ _ h1 w ex => ?_)
      (fun r2 i2 _ _ er ed _ _ q => by
      obtain rfl := nI_one (by omega) (by omega) er
      obtain rfl := nI_one (by omega) (by omega) ed
      exact absurd f10 q)
      (fun r2 i2 _ _ er ed _ _ q => by
      obtain rfl := nI_one (by omega) (by omega) er
      obtain rfl := nI_one (by omega) (by omega) ed
      exact absurd f10 q)
      (fun r2 i2 _ _ er ed _ _ q => by
      obtain rfl := nI_one (by omega) (by omega) er
      obtain rfl := nI_one (by omega) (by omega) ed
      exact absurd f10 q) (0, 0, 0, 0)
    obtain rfl := nI_one (by omega) (by omega) er
    exact k _ _ h1 (w.cg rfl rfl rfl List.length_set rfl rfl rfl) (hL.stranger hr) ex (fun _ => rfl)
  · have hi := ltl hr
    have hj := ltl he
    have f5 : F 5 i = r.rd := (hO i r hr).1.2.2.2.1
    have hci : (nI i).toNatClampNeg = i := nI_clamp (by omega)
    have hcj : (nI j).toNatClampNeg = j := nI_clamp (by omega)
    have hk : (inN (nI i) S.ro.length && (inN a1 10 && inN (nI j) S.ps.length)) = true := by rw [inN_nI hi (by omega), inS_t c1 c2, inN_nI hj (by omega)]; rfl
    have hcc := cofN_cases (hO i r hr) (i := j) (by omega)
    have hs : ((inN (nI i) S.ro.length && (inN a1 10 && inN (nI j) S.ps.length)) && decide (F 5 (nI i).toNatClampNeg < 3)) = true := by rw [hk, hci, f5, decide_eq_true c3]; rfl
    have hcf : cofN r j = -1 := by
      have := (hO i r hr).1.2.1
      rw [cofN, cof_in c4 (by omega)]
      exact c5
    obtain ⟨z1, f10, f11⟩ : cofN r j = -1 ∧ F 10 (i * 60 + j) = 1 ∧ F 11 (i * 60 + j) = -1 := by
      rcases hcc with z | z | z
      · exact absurd (hcf.symm.trans z.1) (by decide)
      · exact z
      · exact absurd hcf z.2.2.1
    have hm : (!((inN (nI i) S.ro.length && (inN a1 10 && inN (nI j) S.ps.length)) && dbB F ((nI i).toNatClampNeg * 60 + (nI j).toNatClampNeg) a1) || decide (S.db.length < 100)) = true := by
      rw [hk, hci, hcj, dbB, f10, f11]
      rfl
    refine ct_MM_answer hM b1 b3 b4 (fun _ _ _ e1 e2 e3 hf => by subst e1; subst e2; subst e3; rw [hs, hm, hk] at hf; exact absurd hf (by decide))
      (fun r2 i2 _ _ er ed _ _ q => by
      obtain rfl := nI_one (by omega) (by omega) er
      obtain rfl := nI_one (by omega) (by omega) ed
      exact absurd (f10.symm.trans q) (by decide))
      (fun r2 i2 _ _ er ed _ _ _ _ h1 w ex => ?_)
      (fun r2 i2 _ _ er ed _ _ _ q => by
      obtain rfl := nI_one (by omega) (by omega) er
      obtain rfl := nI_one (by omega) (by omega) ed
      exact absurd (by rw [f11]; decide) q)
      (fun r2 i2 _ _ er ed _ _ _ q => by
      obtain rfl := nI_one (by omega) (by omega) er
      obtain rfl := nI_one (by omega) (by omega) ed
      exact absurd (by rw [f11]; decide) q) (0, 0, 0, 0)
    obtain rfl := nI_one (by omega) (by omega) er
    obtain rfl := nI_one (by omega) (by omega) ed
    exact k _ _ h1 (w.cg rfl List.length_set rfl List.length_set rfl rfl rfl) (hL.counted hr he c3 c4 c5 c1) ex (fun _ => rfl)
  · rw [hq] at k
    have hi := ltl hr
    have hj := ltl he
    have f5 : F 5 i = r.rd := (hO i r hr).1.2.2.2.1
    have hci : (nI i).toNatClampNeg = i := nI_clamp (by omega)
    have hcj : (nI j).toNatClampNeg = j := nI_clamp (by omega)
    have hk : (inN (nI i) S.ro.length && (inN a1 10 && inN (nI j) S.ps.length)) = true := by rw [inN_nI hi (by omega), inS_t c1 c2, inN_nI hj (by omega)]; rfl
    have hcc := cofN_cases (hO i r hr) (i := j) (by omega)
    have hs : ((inN (nI i) S.ro.length && (inN a1 10 && inN (nI j) S.ps.length)) && decide (F 5 (nI i).toNatClampNeg < 3)) = true := by rw [hk, hci, f5, decide_eq_true c3]; rfl
    obtain ⟨z1, z2, z3, f10, f11⟩ := (hcc.resolve_left (fun z => c4 z.1)).resolve_left (fun z => c5 z.1)
    have f11b : F 11 (i * 60 + j) = a1 := f11.trans c6
    have hm : (!((inN (nI i) S.ro.length && (inN a1 10 && inN (nI j) S.ps.length)) && dbB F ((nI i).toNatClampNeg * 60 + (nI j).toNatClampNeg) a1) || decide (S.db.length < 100)) = true := by
      rw [hk, hci, hcj, dbB, f11b, bne_self_eq_false, Bool.and_false]
      rfl
    refine ct_MM_answer hM b1 b3 b4 (fun _ _ _ e1 e2 e3 hf => by subst e1; subst e2; subst e3; rw [hs, hm, hk] at hf; exact absurd hf (by decide))
      (fun r2 i2 _ _ er ed _ _ q => by
      obtain rfl := nI_one (by omega) (by omega) er
      obtain rfl := nI_one (by omega) (by omega) ed
      exact absurd (f10.symm.trans q) (by decide))
      (fun r2 i2 _ _ er ed _ _ _ q => by
      obtain rfl := nI_one (by omega) (by omega) er
      obtain rfl := nI_one (by omega) (by omega) ed
      exact absurd q (by rw [f11]; exact z1))
      (fun r2 i2 _ _ er ed _ _ _ _ _ h1 w ex => k _ _ h1 w hL ex (fun _ => rfl))
      (fun r2 i2 _ _ er ed _ _ _ _ q => by
      obtain rfl := nI_one (by omega) (by omega) er
      obtain rfl := nI_one (by omega) (by omega) ed
      exact absurd f11b q) (0, 0, 0, 0)
  · have hi := ltl hr
    have hj := ltl he
    have f5 : F 5 i = r.rd := (hO i r hr).1.2.2.2.1
    have hci : (nI i).toNatClampNeg = i := nI_clamp (by omega)
    have hcj : (nI j).toNatClampNeg = j := nI_clamp (by omega)
    have hk : (inN (nI i) S.ro.length && (inN a1 10 && inN (nI j) S.ps.length)) = true := by rw [inN_nI hi (by omega), inS_t c1 c2, inN_nI hj (by omega)]; rfl
    have hcc := cofN_cases (hO i r hr) (i := j) (by omega)
    have hs : ((inN (nI i) S.ro.length && (inN a1 10 && inN (nI j) S.ps.length)) && decide (F 5 (nI i).toNatClampNeg < 3)) = true := by rw [hk, hci, f5, decide_eq_true c3]; rfl
    obtain ⟨z1, z2, z3, f10, f11⟩ := (hcc.resolve_left (fun z => c4 z.1)).resolve_left (fun z => c5 z.1)
    have hm : (!((inN (nI i) S.ro.length && (inN a1 10 && inN (nI j) S.ps.length)) && dbB F ((nI i).toNatClampNeg * 60 + (nI j).toNatClampNeg) a1) || decide (S.db.length < 100)) = true := by
      rw [decide_eq_true c7, Bool.or_true]
    refine ct_MM_answer hM b1 b3 b4 (fun _ _ _ e1 e2 e3 hf => by subst e1; subst e2; subst e3; rw [hs, hm, hk] at hf; exact absurd hf (by decide))
      (fun r2 i2 _ _ er ed _ _ q => by
      obtain rfl := nI_one (by omega) (by omega) er
      obtain rfl := nI_one (by omega) (by omega) ed
      exact absurd (f10.symm.trans q) (by decide))
      (fun r2 i2 _ _ er ed _ _ _ q => by
      obtain rfl := nI_one (by omega) (by omega) er
      obtain rfl := nI_one (by omega) (by omega) ed
      exact absurd q (by rw [f11]; exact z1))
      (fun r2 i2 _ _ er ed _ _ _ _ q => by
      obtain rfl := nI_one (by omega) (by omega) er
      obtain rfl := nI_one (by omega) (by omega) ed
      exact absurd (f11.symm.trans q) c6)
      (fun r2 i2 _ _ er ed _ _ _ _ _ _ v h1 w ex => ?_) (0, 0, 0, 0)
    obtain rfl := nI_one (by omega) (by omega) er
    obtain rfl := nI_one (by omega) (by omega) ed
    rw [f11] at w
    exact k _ _ h1 (w.cg rfl rfl rfl rfl (by show (S.2.2.2.2.2.1 ++ [(nI i2, cof r.n r.f (nI i2), a1, nI r2)]).length = (S.2.2.2.2.2.1 ++ [v]).length; rw [List.length_append, List.length_append]; rfl) rfl rfl) (hL.double c7) ex (fun _ => rfl)
set_option maxRecDepth 100000 in
theorem mx_round {a0 code ans : Int32} {S1 : CS} (hM : RepM g T h mo A th S F) (hL : Rel S F) (oc : oc_round S a0 code ans S1) (k : ∀ (b0 : Int32) (F1 : FT) (h1 : Hp), RepM g T h1 mo A code S1 F1 → Rel S1 F1 → ExM T h h1 → (code = 0 → b0 = ans) → PR (some (.int b0)) h1) : Ct g y_MM_round w_MM_round 4 0 0 [.ref mo, .int a0] h PR PX := by
  have hB := hL.1
  have hG := hL.2.1
  have hV := hL.2.2.1
  have hP := hL.2.2.2.1
  have hO := hL.2.2.2.2.1
  have hD := hL.2.2.2.2.2.2.1
  have hY := hL.2.2.2.2.2.2.2.1
  have hE := hL.2.2.2.2.2.2.2.2.1
  obtain ⟨b1, b2, b3, b4, b5, b6, b7, b8⟩ := hB
  have hfm : ∀ o, o < S.ro.length → ∃ fm, fm ≤ S.mv.length ∧ F 6 o = nI fm := fun o ho => by
    obtain ⟨fm, f1, f2, -⟩ := (hO o S.ro[o] (List.getElem?_eq_getElem ho)).2.2.2.2.1
    exact ⟨fm, f1, f2⟩
  rcases oc with ⟨rfl, hq, c⟩ | ⟨rfl, hq, i, r, rfl, hr, c1⟩ | ⟨rfl, i, r, rfl, hr, c1, c2, rfl, rfl⟩
  · rw [hq] at k
    have hk := inN_ft c
    exact ct_MM_round hM hV.1 b1 b3 b5 (fun i e he => (hY.1 i e he).1.1) hfm (fun _ e1 hf h1 w ex => by rw [hk, go1 (v := 1) (by decide)] at w; exact k 0 F h1 w hL ex (fun z => absurd z (by decide))) (fun j fm hj ej => absurd hk (by rw [ej, inN_nI hj (by omega)]; decide)) (fun j fm hj ej => absurd hk (by rw [ej, inN_nI hj (by omega)]; decide))
  · rw [hq] at k
    have f5 : F 5 i = r.rd := (hO i r hr).1.2.2.2.1
    have hj : i < S.ro.length := ltl hr
    have hk : inN (nI i) S.ro.length = true := inN_nI hj (by omega)
    have hc : (nI i).toNatClampNeg = i := nI_clamp (by omega)
    have hs : (inN (nI i) S.ro.length && (decide (F 5 (nI i).toNatClampNeg < 3) && decide (S.md.countP (fun e => e.op ≠ 0) = 0))) = false := by
      rw [hc, f5]
      rcases c1 with c1 | c1
      · rw [decide_eq_false c1, Bool.false_and, Bool.and_false]
      · rw [decide_eq_false c1, Bool.and_false, Bool.and_false]
    have no : ∀ (r2 : Nat), r2 < S.ro.length → nI i = nI r2 → F 5 r2 < 3 → S.md.countP (fun e => e.op ≠ 0) = 0 → False := fun r2 hr2 er q q2 => by
      rw [nI_one (by omega) (by omega) er, f5] at q
      rcases c1 with c1 | c1
      · exact c1 q
      · exact c1 q2
    exact ct_MM_round hM hV.1 b1 b3 b5 (fun i e he => (hY.1 i e he).1.1) hfm (fun _ e1 hf h1 w ex => by subst e1; rw [hs, hk, go3 (v := 2) (by decide)] at w; exact k 0 F h1 w hL ex (fun z => absurd z (by decide))) (fun j fm hj ej q1 q2 => (no j hj ej q1 q2).elim) (fun j fm hj ej q1 q2 => (no j hj ej q1 q2).elim)
  · have f5 : F 5 i = r.rd := (hO i r hr).1.2.2.2.1
    have hj : i < S.ro.length := ltl hr
    have hk : inN (nI i) S.ro.length = true := inN_nI hj (by omega)
    have hc : (nI i).toNatClampNeg = i := nI_clamp (by omega)
    have hs : (inN (nI i) S.ro.length && (decide (F 5 (nI i).toNatClampNeg < 3) && decide (S.md.countP (fun e => e.op ≠ 0) = 0))) = true := by rw [hc, f5, hk, decide_eq_true c1, decide_eq_true c2]; rfl
    refine ct_MM_round hM hV.1 b1 b3 b5 (fun i e he => (hY.1 i e he).1.1) hfm (fun _ e1 hf => by subst e1; rw [hs, hk] at hf; exact absurd hf (by decide)) (fun j fm hj1 ej _ _ f1 f2 q h1 w ex => ?_) (fun j fm hj1 ej _ _ f1 f2 q h1 w ex => ?_)
    · obtain rfl := nI_one (by omega) (by omega) ej
      rw [f5] at q
      rw [if_pos q] at k
      exact k _ _ h1 (w.cg rfl rfl rfl List.length_set rfl rfl rfl) (hL.round1 hr c1 q) ex (fun _ => congrArg nI (open_on (hO j r hr) b1 c1 (fm_eq (hO j r hr) b2 f1 f2)).symm)
    · obtain rfl := nI_one (by omega) (by omega) ej
      rw [f5] at q
      rw [if_neg q] at k
      exact k _ _ h1 (w.cg rfl rfl rfl List.length_set rfl rfl rfl) (hL.round2 hr c1 q f1 f2) ex (fun _ => congrArg nI (open_on (hO j r hr) b1 c1 (fm_eq (hO j r hr) b2 f1 f2)).symm)
set_option maxRecDepth 100000 in
theorem mx_roll {a0 code ans : Int32} {S1 : CS} (hM : RepM g T h mo A th S F) (hL : Rel S F) (oc : oc_roll S a0 code ans S1) (k : ∀ (b0 : Int32) (F1 : FT) (h1 : Hp), RepM g T h1 mo A code S1 F1 → Rel S1 F1 → ExM T h h1 → (code = 0 → b0 = ans) → PR (some (.int b0)) h1) : Ct g y_MM_roll w_MM_roll 3 0 0 [.ref mo, .int a0] h PR PX := by
  have hB := hL.1
  have hG := hL.2.1
  have hV := hL.2.2.1
  have hP := hL.2.2.2.1
  have hO := hL.2.2.2.2.1
  have hD := hL.2.2.2.2.2.2.1
  have hY := hL.2.2.2.2.2.2.2.1
  have hE := hL.2.2.2.2.2.2.2.2.1
  obtain ⟨b1, b2, b3, b4, b5, b6, b7, b8⟩ := hB
  rcases oc with ⟨rfl, hq, c1, c2⟩ | ⟨rfl, hq, c1, c2⟩ | ⟨rfl, hq, c1, c2, c3, c4⟩ | ⟨rfl, ct, c1, c2, c3, c4, rfl, rfl⟩
  · rw [hq] at k
    have hk : (a0 == -1 || inN a0 10) = false := by rw [inS_f c2, beq_eq_false_iff_ne.mpr c1]; rfl
    exact ct_MM_roll hM hV.1 b1 b3 b5 (fun i e he => (hY.1 i e he).1.1) (fun i r hr => ⟨(hO i r hr).1.2.2.2.1, (hO i r hr).1.2.2.1⟩) (fun i e he => (hP i e he).1) (fun j hj => (hG j hj).1) (fun _ _ _ e1 e2 e3 hf h1 w ex => by subst e1; rw [hk, go1 (v := 1) (by decide)] at w; exact k 0 F h1 w hL ex (fun z => absurd z (by decide))) (fun q => absurd (hk.symm.trans q) (by decide)) ((0, 0), (0, 0, (fun _ => 0)), 0, 0, 0, 0, 0, 0, 0)
  · rw [hq] at k
    have hk : (a0 == -1 || inN a0 10) = true := by
      rcases c1 with c1 | c1
      · rw [c1]; rfl
      · rw [inS_t c1.1 c1.2, Bool.or_true]
    have hs : (decide (S.md.countP (fun e => e.op ≠ 0) = 0) && !S.ro.any (roC1 a0)) = false := by
      rcases c2 with c2 | c2
      · rw [show S.ro.any (roC1 a0) = true from c2]; exact Bool.and_false _
      · rw [decide_eq_false c2, Bool.false_and]
    exact ct_MM_roll hM hV.1 b1 b3 b5 (fun i e he => (hY.1 i e he).1.1) (fun i r hr => ⟨(hO i r hr).1.2.2.2.1, (hO i r hr).1.2.2.1⟩) (fun i e he => (hP i e he).1) (fun j hj => (hG j hj).1) (fun _ _ _ e1 e2 e3 hf h1 w ex => by subst e1; subst e2; rw [hk, hs, go3 (v := 2) (by decide)] at w; exact k 0 F h1 w hL ex (fun z => absurd z (by decide))) (fun _ q1 q2 => absurd hs (by rw [decide_eq_true q1, q2]; decide)) ((0, 0), (0, 0, (fun _ => 0)), 0, 0, 0, 0, 0, 0, 0)
  · rw [hq] at k
    have hk : (a0 == -1 || inN a0 10) = true := by
      rcases c1 with c1 | c1
      · rw [c1]; rfl
      · rw [inS_t c1.1 c1.2, Bool.or_true]
    have hs : (decide (S.md.countP (fun e => e.op ≠ 0) = 0) && !S.ro.any (roC1 a0)) = true := by rw [show S.ro.any (roC1 a0) = false from c2, decide_eq_true c3]; rfl
    have hm : decide (S.ro.length < 40) = false := decide_eq_false (by omega)
    exact ct_MM_roll hM hV.1 b1 b3 b5 (fun i e he => (hY.1 i e he).1.1) (fun i r hr => ⟨(hO i r hr).1.2.2.2.1, (hO i r hr).1.2.2.1⟩) (fun i e he => (hP i e he).1) (fun j hj => (hG j hj).1) (fun _ _ _ e1 e2 e3 hf h1 w ex => by subst e1; subst e2; subst e3; rw [hk, hs, hm, go4 (v := 3) (by decide)] at w; exact k 0 F h1 w hL ex (fun z => absurd z (by decide))) (fun _ _ _ q => absurd q (by omega)) ((0, 0), (0, 0, (fun _ => 0)), 0, 0, 0, 0, 0, 0, 0)
  · have hk : (a0 == -1 || inN a0 10) = true := by
      rcases c1 with c1 | c1
      · rw [c1]; rfl
      · rw [inS_t c1.1 c1.2, Bool.or_true]
    have hs : (decide (S.md.countP (fun e => e.op ≠ 0) = 0) && !S.ro.any (roC1 a0)) = true := by rw [show S.ro.any (roC1 a0) = false from c2, decide_eq_true c3]; rfl
    have hm : decide (S.ro.length < 40) = true := decide_eq_true c4
    exact ct_MM_roll hM hV.1 b1 b3 b5 (fun i e he => (hY.1 i e he).1.1) (fun i r hr => ⟨(hO i r hr).1.2.2.2.1, (hO i r hr).1.2.2.1⟩) (fun i e he => (hP i e he).1) (fun j hj => (hG j hj).1) (fun _ _ _ e1 e2 e3 hf => by subst e1; subst e2; subst e3; rw [hk, hs, hm] at hf; exact absurd hf (by decide)) (fun _ _ _ _ v h1 w ex => k _ _ h1 (w.cg rfl rfl rfl (by show (S.2.2.2.2.1 ++ [roN S a0 ct]).length = (S.2.2.2.2.1 ++ [v]).length; rw [List.length_append, List.length_append]; rfl) rfl rfl rfl) (hL.roll c4) ex (fun _ => rfl)) ((0, 0), (0, 0, (fun _ => 0)), 0, 0, 0, 0, 0, 0, 0)
end MY
