/-! public methods: answer, mayday, answered -/
theorem roOK.upd {g : zG} {T : Tg} {h h1 : Hp} {l : List RoT} (H : roOK g T h l) {i : Nat} {r r1 : RoT} (he : l[i]? = some r) (hc : r1.ct = r.ct) (hn : r1.n = r.n) (hm : h1 r.ct = some (ia g r1.n r1.f)) (ho : ∀ q, h q ≠ none → T q ≠ (7, i) → (T q).1 = 7 → h1 q = h q) : roOK g T h1 (l.set i r1) := by
  intro j r2 hr2
  by_cases hji : j = i
  · subst hji
    rw [List.getElem?_set_self (List.getElem?_eq_some_iff.mp he).1] at hr2
    cases hr2
    obtain ⟨-, b, d⟩ := H j r he
    rw [hc, hn]
    rw [hn] at hm
    exact ⟨hm, b, d⟩
  · rw [List.getElem?_set_ne (Ne.symm hji)] at hr2
    obtain ⟨a, b, d⟩ := H j r2 hr2
    exact ⟨(ho _ (zne a) (by rw [b]; exact fun z => hji (Prod.mk.inj z).2) (by rw [b])).trans a, b, d⟩
theorem roOK.app {g : zG} {T : Tg} {h : Hp} {l : List RoT} (H : roOK g T h l) {r : RoT} (a : h r.ct = some (ia g r.n r.f)) (b : T r.ct = (7, l.length)) (d : r.n ≤ 60) : roOK g T h (l ++ [r]) := by
  intro j r2 hr2
  rw [List.getElem?_append] at hr2
  split at hr2
  · exact H j r2 hr2
  · next hj =>
    rw [List.getElem?_singleton] at hr2
    split at hr2
    · next h0 =>
      cases hr2
      have : j = l.length := by omega
      subst this
      exact ⟨a, b, d⟩
    · cases hr2
theorem evOK.upd {g : zG} {T : Tg} {h h1 : Hp} {l : List EvT} (H : evOK g T h l) {i : Nat} {v v1 : EvT} (he : l[i]? = some v) (hc : v1.mu = v.mu) (hn : v1.lt = v.lt) (hm : h1 v.mu = some (ba g 10 v1.fm)) (hl : h1 v.lt = some (ba g 10 v1.fl)) (hb : ∀ j, vp_nar .boolean (v1.fm j) = v1.fm j) (ho : ∀ q, h q ≠ none → T q ≠ (8, i) → T q ≠ (9, i) → ((T q).1 = 8 ∨ (T q).1 = 9) → h1 q = h q) : evOK g T h1 (l.set i v1) := by
  intro j r2 hr2
  by_cases hji : j = i
  · subst hji
    rw [List.getElem?_set_self (List.getElem?_eq_some_iff.mp he).1] at hr2
    cases hr2
    obtain ⟨⟨-, b⟩, ⟨-, d⟩, -⟩ := H j v he
    rw [hc, hn]
    exact ⟨⟨hm, b⟩, ⟨hl, d⟩, hb⟩
  · rw [List.getElem?_set_ne (Ne.symm hji)] at hr2
    obtain ⟨⟨a, b⟩, ⟨a2, b2⟩, d⟩ := H j r2 hr2
    exact ⟨⟨(ho _ (zne a) (by rw [b]; exact fun z => hji (Prod.mk.inj z).2) (by rw [b]; exact fun z => absurd (Prod.mk.inj z).1 (by decide)) (Or.inl (by rw [b]))).trans a, b⟩, ⟨(ho _ (zne a2) (by rw [b2]; exact fun z => absurd (Prod.mk.inj z).1 (by decide)) (by rw [b2]; exact fun z => hji (Prod.mk.inj z).2) (Or.inr (by rw [b2]))).trans a2, b2⟩, d⟩
theorem evOK.app {g : zG} {T : Tg} {h : Hp} {l : List EvT} (H : evOK g T h l) {v : EvT} (a : h v.mu = some (ba g 10 v.fm)) (b : T v.mu = (8, l.length)) (a2 : h v.lt = some (ba g 10 v.fl)) (b2 : T v.lt = (9, l.length)) (d : ∀ j, vp_nar .boolean (v.fm j) = v.fm j) : evOK g T h (l ++ [v]) := by
  intro j r2 hr2
  rw [List.getElem?_append] at hr2
  split at hr2
  · exact H j r2 hr2
  · next hj =>
    rw [List.getElem?_singleton] at hr2
    split at hr2
    · next h0 =>
      cases hr2
      have : j = l.length := by omega
      subst this
      exact ⟨⟨a, b⟩, ⟨a2, b2⟩, d⟩
    · cases hr2
theorem RepC.ext {g : zG} {T T1 : Tg} {h h1 : Hp} {x : Nat} {S : CS} (hR : RepC g T h x S) (hT : ∀ q, h q ≠ none → T1 q = T q) (hh : ∀ q, h q ≠ none → (T q).1 ≠ 0 → h1 q = h q) : RepC g T1 h1 x S := by
  obtain ⟨gu, lp, lm, lr, ld, ly, le, LP, LM, LR, LD, LY, LE, ⟨hx, hxT⟩, ⟨hgu, hguT⟩, l1, l2, l3, l4, l5, l6, r1, r2, b1, b2, b3, b4, b5, b6⟩ := hR
  have kp : ∀ (kd : Nat), kd ≠ 0 → ∀ q, h q ≠ none → (T q).1 = kd → h1 q = h q := fun kd h0 q hq e => hh q hq (by rw [e]; exact h0)
  exact ⟨gu, lp, lm, lr, ld, ly, le, LP, LM, LR, LD, LY, LE, ⟨(kp 10 (by decide) x (zne hx) (by rw [hxT])).trans hx, (hT x (zne hx)).trans hxT⟩, ⟨(kp 10 (by decide) gu (zne hgu) (by rw [hguT])).trans hgu, (hT gu (zne hgu)).trans hguT⟩, l1.keep hT (kp 1 (by decide)), l2.keep hT (kp 2 (by decide)), l3.keep hT (kp 3 (by decide)), l4.keep hT (kp 4 (by decide)), l5.keep hT (kp 5 (by decide)), l6.keep hT (kp 6 (by decide)), r1.keep hT (kp 7 (by decide)), r2.keep hT (kp 8 (by decide)) (kp 9 (by decide)), b1, b2, b3, b4, b5, b6⟩
def mxI (a b : Int32) : Int32 := if a < b then b else a
section RU
variable {g : zG} {T : Tg} {h : Hp} {PR : Option Value → Hp → Prop} {PX : String → Hp → Prop} {x : Nat} {S : CS}
set_option maxRecDepth 100000 in
theorem ct_RC_answer {a b d : Int32} (hR : RepC g T h x S) (kx1 : (a < 0 ∨ nI S.ro.length ≤ a) ∨ (b < 0 ∨ 10 ≤ b) ∨ (d < 0 ∨ nI S.ps.length ≤ d) → PX xIAE h)
    (kx2 : ∀ i r j e, a = nI i → S.ro[i]? = some r → ¬ b < 0 → b < 10 → d = nI j → S.ps[j]? = some e → ¬ r.rd < 3 → PX xISE h)
    (kx3 : ∀ i r j e, a = nI i → S.ro[i]? = some r → ¬ b < 0 → b < 10 → d = nI j → S.ps[j]? = some e → r.rd < 3 → cof r.n r.f d ≠ -2 → cof r.n r.f d ≠ -1 → cof r.n r.f d ≠ b → 100 ≤ S.db.length → ∀ (h1 : Hp) (T1 : Tg), RepC g T1 h1 x S → Ext T h T1 h1 → PX xUOE h1)
    (k4 : ∀ i (r : RoT) j e, a = nI i → S.ro[i]? = some r → ¬ b < 0 → b < 10 → d = nI j → S.ps[j]? = some e → r.rd < 3 → cof r.n r.f d = -2 → ∀ (h1 : Hp), RepC g T h1 x (S.1, S.2.1, S.2.2.1, S.2.2.2.1, S.2.2.2.2.1.set i (r.1, r.2.1, r.2.2.1, r.2.2.2.1, r.2.2.2.2.1, r.2.2.2.2.2.1, r.2.2.2.2.2.2.1, r.2.2.2.2.2.2.2.1 + 1, r.2.2.2.2.2.2.2.2), S.2.2.2.2.2) → Ext T h T h1 → PR (some (.int 4)) h1)
    (k1 : ∀ i (r : RoT) j (e : PeT), a = nI i → S.ro[i]? = some r → ¬ b < 0 → b < 10 → d = nI j → S.ps[j]? = some e → r.rd < 3 → j < r.n → r.f j = -1 → ∀ (h1 : Hp), RepC g T h1 x (S.1, S.2.1, S.2.2.1.set j (e.1, e.2.1, mxI e.2.2 a), S.2.2.2.1, S.2.2.2.2.1.set i (r.1, (r.ct, r.n, upd r.f j b), r.2.2.1, r.2.2.2.1, r.2.2.2.2.1 + 1, r.2.2.2.2.2.1, r.2.2.2.2.2.2.1, r.2.2.2.2.2.2.2.1, r.2.2.2.2.2.2.2.2), S.2.2.2.2.2) → Ext T h T h1 → PR (some (.int 1)) h1)
    (k2 : ∀ i r j e, a = nI i → S.ro[i]? = some r → ¬ b < 0 → b < 10 → d = nI j → S.ps[j]? = some e → r.rd < 3 → cof r.n r.f d ≠ -2 → cof r.n r.f d ≠ -1 → cof r.n r.f d = b → PR (some (.int 2)) h)
    (k3 : ∀ i (r : RoT) j e, a = nI i → S.ro[i]? = some r → ¬ b < 0 → b < 10 → d = nI j → S.ps[j]? = some e → r.rd < 3 → cof r.n r.f d ≠ -2 → cof r.n r.f d ≠ -1 → cof r.n r.f d ≠ b → S.db.length < 100 → ∀ (h1 : Hp) (T1 : Tg), RepC g T1 h1 x (S.1, S.2.1, S.2.2.1, S.2.2.2.1, S.2.2.2.2.1, S.2.2.2.2.2.1 ++ [(d, cof r.n r.f d, b, a)], S.2.2.2.2.2.2) → Ext T h T1 h1 → PR (some (.int 3)) h1) : Ct g y_RC_answer w_RC_answer 9 6 500 [.ref x, .int a, .int b, .int d] h PR PX := by
  have hR0 := hR
  obtain ⟨gu, lp, lm, lr, ld, ly, le, LP, LM, LR, LD, LY, LE, ⟨hx, hxT⟩, ⟨hgu, hguT⟩, l1, l2, l3, l4, l5, l6, r1, r2, b1, b2, b3, b4, b5, b6⟩ := hR
  refine Ct_intro (cc := c_RC_answer) (nL := 7) (ret := (some FieldType.int)) (ls := [some (.ref x), some (.int a), some (.int b), some (.int d), none, none, none]) (by decide) (Nat.le_of_ble_eq_true rfl) rfl rfl ?_
  intro p e R s m args below meth c C ht hname
  refine z_aload_n C d_RC_answer_0 rfl rfl ?_
  refine z_iload_n C d_RC_answer_1 rfl rfl ?_
  refine z_callV (n := 1) (As := [.int a]) (rest := []) (r1 := 6) (mc1 := 1) (ms1 := 6) (ci := 7) (T0 := T_RC) C d_RC_answer_2 k_458 k_455 k_457 ks_9 k_1 (by decide +kernel) rfl rfl (by first | assumption | exact zu_s) (by decide) (by decide) (Nat.le_of_ble_eq_true rfl) (by first | decide | omega) (by first | decide | omega) rfl ?_
  refine ct_RC_knownRoll hx l3 (fun z => zx_out C ht (kx1 (Or.inl z))) (fun i y r hi he hy hye hyT => ?_)
  dsimp only [zps]
  obtain ⟨q1, q2, q3⟩ := r1 i r he
  refine z_astore C d_RC_answer_5 (by decide) rfl ?_
  dsimp only [List.set]
  refine z_iload_n C d_RC_answer_7 rfl rfl ?_
  refine z_callS (n := 1) (As := [.int b]) (rest := []) (r1 := 6) (mc1 := 1) (ms1 := 6) C d_RC_answer_8 k_290 k_288 k_289 k_1 (by decide +kernel) rfl (by decide) (by decide) (Nat.le_of_ble_eq_true rfl) (by first | decide | omega) (by first | decide | omega) rfl ?_
  refine ct_RC_checkSector (fun z => zx_out C ht (kx1 (Or.inr (Or.inl z)))) (fun hb0 hb1 => ?_)
  dsimp only [zps]
  refine z_aload_n C d_RC_answer_11 rfl rfl ?_
  refine z_iload_n C d_RC_answer_12 rfl rfl ?_
  refine z_callV (n := 1) (As := [.int d]) (rest := []) (r1 := 6) (mc1 := 1) (ms1 := 6) (ci := 7) (T0 := T_RC) C d_RC_answer_13 k_257 k_254 k_256 ks_4 k_1 (by decide +kernel) rfl rfl (by first | assumption | exact zu_s) (by decide) (by decide) (Nat.le_of_ble_eq_true rfl) (by first | decide | omega) (by first | decide | omega) rfl ?_
  refine ct_RC_knownPerson hx l1 (fun z => zx_out C ht (kx1 (Or.inr (Or.inr z)))) (fun j y2 e1 hj he2 hy2 hye2 hyT2 => ?_)
  dsimp only [zps]
  refine z_astore C d_RC_answer_16 (by decide) rfl ?_
  dsimp only [List.set]
  refine z_aload C d_RC_answer_18 rfl ?_
  refine z_callS (n := 1) (As := [.ref y]) (rest := []) (r1 := 6) (mc1 := 1) (ms1 := 6) C d_RC_answer_20 k_462 k_460 k_461 k_1 (by decide +kernel) rfl (by decide) (by decide) (Nat.le_of_ble_eq_true rfl) (by first | decide | omega) (by first | decide | omega) rfl ?_
  refine ct_RC_checkIsOn hye (fun z => zx_out C ht (kx2 i r j e1 hi he hb0 hb1 hj he2 z)) (fun hon => ?_)
  dsimp only [zps]
  have k4' := k4 i r j e1 hi he hb0 hb1 hj he2 hon
  have k1' := k1 i r j e1 hi he hb0 hb1 hj he2 hon
  have k2' := k2 i r j e1 hi he hb0 hb1 hj he2 hon
  have k3' := k3 i r j e1 hi he hb0 hb1 hj he2 hon
  have kx3' := kx3 i r j e1 hi he hb0 hb1 hj he2 hon
  clear k4 k1 k2 k3 kx1 kx2 kx3
  refine z_aload C d_RC_answer_23 rfl ?_
  refine z_iload_n C d_RC_answer_25 rfl rfl ?_
  refine z_callV (n := 1) (As := [.int d]) (rest := []) (r1 := 1) (mc1 := 0) (ms1 := 0) (ci := 3) (T0 := T_RO) C d_RC_answer_26 k_467 k_464 k_465 k_466 k_21 (by decide +kernel) rfl rfl (by first | assumption | exact zu_s) (by decide) (by decide) (Nat.le_of_ble_eq_true rfl) (by first | decide | omega) (by first | decide | omega) rfl ?_
  refine ct_RO_counterOf hye q1 q3 ?_
  dsimp only [zps]
  have hT : ∀ q, h q ≠ none → T q = T q := fun _ _ => rfl
  refine z_istore C d_RC_answer_29 (by decide) rfl ?_
  dsimp only [List.set]
  refine z_iload C d_RC_answer_31 rfl ?_
  refine z_bipush (v := (-2)) C d_RC_answer_33 (by decide) ?_
  refine z_icmp_ne 51 C d_RC_answer_35 (by decide) (fun c35 => ?_) (fun c35 => ?_)
  · refine z_iload C d_RC_answer_51 rfl ?_
    refine z_iconst (v := (-1)) C d_RC_answer_53 (by decide) ?_
    refine z_icmp_ne 80 C d_RC_answer_54 (by decide) (fun c54 => ?_) (fun c54 => ?_)
    · refine z_iload C d_RC_answer_80 rfl ?_
      refine z_iload_n C d_RC_answer_82 rfl rfl ?_
      refine z_icmp_ne 88 C d_RC_answer_83 (by decide) (fun c83 => ?_) (fun c83 => ?_)
      · refine z_aload_n C d_RC_answer_88 rfl rfl ?_
        refine z_new (ci := 4) (fs := [.int 0, .int 0, .int 0, .int 0]) (T := T_DC) (N := 4) C d_RC_answer_89 ty_DC t_DC i_DC rfl k_473 k_474 k_22 (fun j hj => by rcases (show j = 0 ∨ j = 1 ∨ j = 2 ∨ j = 3 by omega) with rfl | rfl | rfl | rfl <;> rfl) (by first | decide | omega) (by first | decide | omega) (fun q89 hq89 => ?_)
        refine z_dup C d_RC_answer_92 rfl ?_
        refine z_iload_n C d_RC_answer_93 rfl rfl ?_
        refine z_iload C d_RC_answer_94 rfl ?_
        refine z_iload_n C d_RC_answer_96 rfl rfl ?_
        refine z_iload_n C d_RC_answer_97 rfl rfl ?_
        have key : ∀ q, h q ≠ none → q ≠ q89 := fun q hq z => hq (z ▸ hq89)
        refine z_callI (n := 4) (As := [.int d, .int (cof r.n r.f d), .int b, .int a]) (rest := [.ref q89, .ref x]) (r1 := 1) (mc1 := 0) (ms1 := 0) C d_RC_answer_98 k_477 k_475 k_476 k_22 rfl (by decide +kernel) rfl (by decide) (by decide) (Nat.le_of_ble_eq_true rfl) (by first | decide | omega) (by first | decide | omega) rfl ?_
        refine ct_DC_init zu_s ?_
        dsimp only [zps]
        rw [zu_zu]
        have hT1 : ∀ q, h q ≠ none → tg T q89 (4, 2 + S.db.length) q = T q := fun q hq => tg_n (key q hq)
        have hh1 : ∀ q, h q ≠ none → zu h q89 (dcC d (cof r.n r.f d) b a) q = h q := fun q hq => zu_n (key q hq)
        have hx1 := (hh1 x (zne hx)).trans hx
        have l4' : zLS g (tg T q89 (4, 2 + S.db.length)) (zu h q89 (dcC d (cof r.n r.f d) b a)) 4 ld LD (S.db.map dcE) := l4.new hq89
        refine z_callV (n := 1) (As := [.ref q89]) (rest := []) (r1 := 8) (mc1 := 1) (ms1 := 450) (ci := 7) (T0 := T_RC) C d_RC_answer_101 k_499 k_496 k_498 ks_10 k_1 (by decide +kernel) rfl rfl hx1 (by decide) (by decide) (Nat.le_of_ble_eq_true rfl) (by first | decide | omega) (by first | decide | omega) rfl ?_
        refine ct_RC_addDouble (d0 := (d, cof r.n r.f d, b, a)) hx1 l4' zu_s tg_s (fun z => zx_out C ht (kx3' c35 c54 c83 z _ _ (hR0.ext hT1 (fun q hq _ => hh1 q hq)) ⟨hT1, fun q hq _ => hh1 q hq, fun q hq => by rw [hh1 q hq]; exact hq⟩)) (fun hl h1 T1 c1 c2 c3 c4 => ?_)
        dsimp only [zps]
        refine z_iconst (v := 3) C d_RC_answer_104 (by decide) ?_
        refine z_iret C d_RC_answer_105 ?_
        have nn : ∀ q, h q ≠ none → zu h q89 (dcC d (cof r.n r.f d) b a) q ≠ none := fun q hq => by rw [hh1 q hq]; exact hq
        have hT : ∀ q, h q ≠ none → T1 q = T q := fun q hq => (c2 q (nn q hq)).trans (hT1 q hq)
        have kp : ∀ (kd : Nat), kd ≠ 4 → ∀ q, h q ≠ none → (T q).1 = kd → h1 q = h q := fun kd h8 q hq e => (c3 q (nn q hq) (by rw [hT1 q hq, e]; exact h8)).trans (hh1 q hq)
        exact k3' c35 c54 c83 hl h1 T1 ⟨gu, lp, lm, lr, ld, ly, le, LP, LM, LR, _, LY, LE, ⟨(kp 10 (by decide) x (zne hx) (by rw [hxT])).trans hx, (hT x (zne hx)).trans hxT⟩, ⟨(kp 10 (by decide) gu (zne hgu) (by rw [hguT])).trans hgu, (hT gu (zne hgu)).trans hguT⟩, l1.keep hT (kp 1 (by decide)), l2.keep hT (kp 2 (by decide)), l3.keep hT (kp 3 (by decide)), c1, l5.keep hT (kp 5 (by decide)), l6.keep hT (kp 6 (by decide)), r1.keep hT (kp 7 (by decide)), r2.keep hT (kp 8 (by decide)) (kp 9 (by decide)), b1, b2, b3, zlen1 hl, b5, b6⟩ ⟨hT, fun q hq h0 => kp 0 (by decide) q hq h0, fun q hq => c4 q (nn q hq)⟩
      · refine z_iconst (v := 2) C d_RC_answer_86 (by decide) ?_
        refine z_iret C d_RC_answer_87 ?_
        exact k2' c35 c54 c83
    · have hlt := l1.lt
      rw [List.length_map] at hlt
      have hjl : j < S.ps.length := (List.getElem?_eq_some_iff.mp he2).1
      have hjn : j < r.n ∧ r.f j = -1 := by
        rw [cof, hj] at c54
        by_cases hq : nI j < 0 ∨ nI r.n ≤ nI j
        · rw [if_pos hq] at c54
          exact absurd c54 (by decide)
        · rw [if_neg hq, nI_clamp (by omega)] at c54
          refine ⟨?_, c54⟩
          rcases Nat.lt_or_ge j r.n with z | z
          · exact z
          · exact absurd (Or.inr (nI_le z (by omega))) hq
      rw [hj]
      refine z_aload C d_RC_answer_57 rfl ?_
      refine z_iload_n C d_RC_answer_59 rfl rfl ?_
      refine z_iload_n C d_RC_answer_60 rfl rfl ?_
      have nyc : y ≠ r.ct := tne hyT q2 (by decide)
      have nyy : y2 ≠ y := tne hyT2 hyT (by decide)
      have nyc2 : y2 ≠ r.ct := tne hyT2 q2 (by decide)
      refine z_callV (n := 2) (As := [.int (nI j), .int b]) (rest := []) (r1 := 1) (mc1 := 0) (ms1 := 0) (ci := 3) (T0 := T_RO) C d_RC_answer_61 k_471 k_468 k_469 k_470 k_21 (by decide +kernel) rfl rfl (by first | assumption | exact zu_s) (by decide) (by decide) (Nat.le_of_ble_eq_true rfl) (by first | decide | omega) (by first | decide | omega) rfl ?_
      refine ct_RO_countPerson hye q1 q3 hjn.1 nyc ?_
      dsimp only [zps]
      have hye2' : zu (zu h r.ct (ia g r.n (upd r.f j b))) y (roC r.1.1 r.1.2 r.2.1.1 r.2.2.1 r.2.2.2.1 (r.2.2.2.2.1 + 1) r.2.2.2.2.2.1 r.2.2.2.2.2.2.1 r.2.2.2.2.2.2.2.1 r.2.2.2.2.2.2.2.2) y2 = some (peE e1) := by rw [zu_n nyy, zu_n nyc2]; exact hye2
      refine z_aload C d_RC_answer_64 rfl ?_
      refine z_aload C d_RC_answer_66 rfl ?_
      refine z_get (ci := 1) (T := T_PE) (N := 3) C d_RC_answer_68 2 i_PE rfl (by decide) k_177 (fun _ q => q) hye2' (by rfl) ?_
      refine z_iload_n C d_RC_answer_71 rfl rfl ?_
      refine z_max C d_RC_answer_72 k_472 k_205 k_12 k_206 (by decide) (Nat.le_of_ble_eq_true rfl) ?_
      refine z_put (ci := 1) (T := T_PE) (N := 3) (ty := .int) C d_RC_answer_75 2 ty_PE t_PE n_PE i_PE rfl (by decide) k_177 (fun _ q => q) rfl (by decide +kernel) (by rfl) (by rfl) hye2' (by exact Nat.le_of_ble_eq_true rfl) ?_
      dsimp only [List.set]
      refine z_iconst (v := 1) C d_RC_answer_78 (by decide) ?_
      refine z_iret C d_RC_answer_79 ?_
      have kp : ∀ (kd : Nat), kd ≠ 1 → kd ≠ 3 → kd ≠ 7 → ∀ q, h q ≠ none → (T q).1 = kd → zu (zu (zu h r.ct (ia g r.n (upd r.f j b))) y (roE (r.1, (r.ct, r.n, upd r.f j b), r.2.2.1, r.2.2.2.1, r.2.2.2.2.1 + 1, r.2.2.2.2.2.1, r.2.2.2.2.2.2.1, r.2.2.2.2.2.2.2.1, r.2.2.2.2.2.2.2.2))) y2 (peE (e1.1, e1.2.1, mxI e1.2.2 a)) q = h q := fun kd h7 h8 h9 q hq e => by rw [zu_n (fun z => h7 (by rw [← e, z, hyT2])), zu_n (fun z => h8 (by rw [← e, z, hyT])), zu_n (fun z => h9 (by rw [← e, z, q2]))]
      have l1' := ((l1.put (b := r.ct) (e := ia g r.n (upd r.f j b)) (tk q2 (by decide))).put (b := y) (e := roE (r.1, (r.ct, r.n, upd r.f j b), r.2.2.1, r.2.2.2.1, r.2.2.2.2.1 + 1, r.2.2.2.2.2.1, r.2.2.2.2.2.2.1, r.2.2.2.2.2.2.2.1, r.2.2.2.2.2.2.2.2)) (tk hyT (by decide))).set (e := peE (e1.1, e1.2.1, mxI e1.2.2 a)) hy2
      rw [← List.map_set] at l1'
      have l3' := ((l3.put (b := r.ct) (e := ia g r.n (upd r.f j b)) (tk q2 (by decide))).set (e := roE (r.1, (r.ct, r.n, upd r.f j b), r.2.2.1, r.2.2.2.1, r.2.2.2.2.1 + 1, r.2.2.2.2.2.1, r.2.2.2.2.2.2.1, r.2.2.2.2.2.2.2.1, r.2.2.2.2.2.2.2.2)) hy).put (b := y2) (e := peE (e1.1, e1.2.1, mxI e1.2.2 a)) (tk hyT2 (by decide))
      rw [← List.map_set] at l3'
      refine k1' hjn.1 hjn.2 _ ⟨gu, lp, lm, lr, ld, ly, le, LP, LM, LR, LD, LY, LE, ⟨(kp 10 (by decide) (by decide) (by decide) x (zne hx) (by rw [hxT])).trans hx, (hT x (zne hx)).trans hxT⟩, ⟨(kp 10 (by decide) (by decide) (by decide) gu (zne hgu) (by rw [hguT])).trans hgu, (hT gu (zne hgu)).trans hguT⟩, l1', l2.keep hT (kp 2 (by decide) (by decide) (by decide)), l3', l4.keep hT (kp 4 (by decide) (by decide) (by decide)), l5.keep hT (kp 5 (by decide) (by decide) (by decide)), l6.keep hT (kp 6 (by decide) (by decide) (by decide)), r1.upd (r1 := (r.1, (r.ct, r.n, upd r.f j b), r.2.2.1, r.2.2.2.1, r.2.2.2.2.1 + 1, r.2.2.2.2.2.1, r.2.2.2.2.2.2.1, r.2.2.2.2.2.2.2.1, r.2.2.2.2.2.2.2.2)) he rfl rfl (by rw [zu_n nyc2.symm, zu_n nyc.symm]; exact zu_s) (fun q hq hq7 hk => by rw [zu_n (fun z => by rw [z, hyT2] at hk; exact absurd hk (by decide : ¬ (1 : Nat) = 7)), zu_n (fun z => by rw [z, hyT] at hk; exact absurd hk (by decide : ¬ (3 : Nat) = 7)), zu_n (fun z => hq7 (by rw [z]; exact q2))]), r2.keep hT (kp 8 (by decide) (by decide) (by decide)) (kp 9 (by decide) (by decide) (by decide)), zlen2 b1, b2, zlen2 b3, b4, b5, b6⟩ (((Ext.put (tk q2 (by decide))).trans (Ext.put (tk hyT (by decide)))).trans (Ext.put (tk hyT2 (by decide))))
  · refine z_aload C d_RC_answer_38 rfl ?_
    refine z_dup C d_RC_answer_40 rfl ?_
    refine z_get (ci := 3) (T := T_RO) (N := 10) C d_RC_answer_41 8 i_RO rfl (by decide) k_413 (fun _ q => q) hye (by rfl) ?_
    refine z_iconst (v := 1) C d_RC_answer_44 (by decide) ?_
    refine z_iadd C d_RC_answer_45 ?_
    refine z_put (ci := 3) (T := T_RO) (N := 10) (ty := .int) C d_RC_answer_46 8 ty_RO t_RO n_RO i_RO rfl (by decide) k_413 (fun _ q => q) rfl (by decide +kernel) (by rfl) (by rfl) hye (by exact Nat.le_of_ble_eq_true rfl) ?_
    dsimp only [List.set]
    refine z_iconst (v := 4) C d_RC_answer_49 (by decide) ?_
    refine z_iret C d_RC_answer_50 ?_
    have kp : ∀ (kd : Nat), kd ≠ 3 → ∀ q, h q ≠ none → (T q).1 = kd → zu h y (roE (r.1, r.2.1, r.2.2.1, r.2.2.2.1, r.2.2.2.2.1, r.2.2.2.2.2.1, r.2.2.2.2.2.2.1, r.2.2.2.2.2.2.2.1 + 1, r.2.2.2.2.2.2.2.2)) q = h q := fun kd h8 q hq e => zu_n (fun z => h8 (by rw [← e, z, hyT]))
    have l3' := l3.set (e := roE (r.1, r.2.1, r.2.2.1, r.2.2.2.1, r.2.2.2.2.1, r.2.2.2.2.2.1, r.2.2.2.2.2.2.1, r.2.2.2.2.2.2.2.1 + 1, r.2.2.2.2.2.2.2.2)) hy
    rw [← List.map_set] at l3'
    have r9 := r1.keep hT (kp 7 (by decide))
    exact k4' c35 _ ⟨gu, lp, lm, lr, ld, ly, le, LP, LM, LR, LD, LY, LE, ⟨(kp 10 (by decide) x (zne hx) (by rw [hxT])).trans hx, (hT x (zne hx)).trans hxT⟩, ⟨(kp 10 (by decide) gu (zne hgu) (by rw [hguT])).trans hgu, (hT gu (zne hgu)).trans hguT⟩, l1.keep hT (kp 1 (by decide)), l2.keep hT (kp 2 (by decide)), l3', l4.keep hT (kp 4 (by decide)), l5.keep hT (kp 5 (by decide)), l6.keep hT (kp 6 (by decide)), r9.set he rfl, r2.keep hT (kp 8 (by decide)) (kp 9 (by decide)), b1, b2, zlen2 b3, b4, b5, b6⟩ (Ext.put (tk hyT (by decide)))
set_option maxRecDepth 100000 in
theorem ct_RC_mayday {a b : Int32} (hR : RepC g T h x S) (kx1 : (a < 0 ∨ nI S.ps.length ≤ a) → PX xIAE h) (kx2 : ∀ i e, a = nI i → S.ps[i]? = some e → (b < 0 ∨ 999 < b) → PX xIOB h)
    (kx3 : ∀ i e, a = nI i → S.ps[i]? = some e → ¬ b < 0 → b ≤ 999 → (e.1 = -1 ∨ S.md.any (fun e => e.op != 0 && e.1 == a) = true) → PX xISE h)
    (kx4 : ∀ i e, a = nI i → S.ps[i]? = some e → ¬ b < 0 → b ≤ 999 → ¬ e.1 = -1 → S.md.any (fun e => e.op != 0 && e.1 == a) = false → 30 ≤ S.md.length → PX xUOE h)
    (k : ∀ i e, a = nI i → S.ps[i]? = some e → ¬ b < 0 → b ≤ 999 → ¬ e.1 = -1 → S.md.any (fun e => e.op != 0 && e.1 == a) = false → S.md.length < 30 → ∀ (h1 : Hp) (T1 : Tg), RepC g T1 h1 x (S.1, S.2.1, S.2.2.1, S.2.2.2.1, S.2.2.2.2.1, S.2.2.2.2.2.1, S.2.2.2.2.2.2.1 ++ [(a, b, S.1, 1, lft S.md)], S.2.2.2.2.2.2.2) → Ext T h T1 h1 → PR (some (.int (nI S.md.length))) h1) : Ct g y_RC_mayday w_RC_mayday 8 4 480 [.ref x, .int a, .int b] h PR PX := by
  obtain ⟨gu, lp, lm, lr, ld, ly, le, LP, LM, LR, LD, LY, LE, ⟨hx, hxT⟩, ⟨hgu, hguT⟩, l1, l2, l3, l4, l5, l6, r1, r2, b1, b2, b3, b4, b5, b6⟩ := hR
  obtain ⟨vs, hvs⟩ := l5.obj
  refine Ct_intro (cc := c_RC_mayday) (nL := 4) (ret := (some FieldType.int)) (ls := [some (.ref x), some (.int a), some (.int b), none]) (by decide) (Nat.le_of_ble_eq_true rfl) rfl rfl ?_
  intro p e R s m args below meth c C ht hname
  refine z_aload_n C d_RC_mayday_0 rfl rfl ?_
  refine z_iload_n C d_RC_mayday_1 rfl rfl ?_
  refine z_callV (n := 1) (As := [.int a]) (rest := []) (r1 := 6) (mc1 := 1) (ms1 := 6) (ci := 7) (T0 := T_RC) C d_RC_mayday_2 k_257 k_254 k_256 ks_4 k_1 (by decide +kernel) rfl rfl (by first | assumption | exact zu_s) (by decide) (by decide) (Nat.le_of_ble_eq_true rfl) (by first | decide | omega) (by first | decide | omega) rfl ?_
  refine ct_RC_knownPerson hx l1 (fun z => zx_out C ht (kx1 z)) (fun i y e1 hi he hy hye hyT => ?_)
  dsimp only [zps]
  refine z_astore_n C d_RC_mayday_5 rfl (by decide) rfl ?_
  dsimp only [List.set]
  refine z_iload_n C d_RC_mayday_6 rfl rfl ?_
  refine z_if_lt 17 C d_RC_mayday_7 (by decide) (fun c7 => ?_) (fun c7 => ?_)
  · refine z_throwS (text := "places are 0 to 999") (cls := "java/lang/IndexOutOfBoundsException") C ht d_RC_mayday_17 d_RC_mayday_20 d_RC_mayday_21 d_RC_mayday_23 d_RC_mayday_26 (by decide +kernel) k_348 k_20 (by decide +kernel) (tho_IOB C) thg_IOB (by decide) (Nat.le_of_ble_eq_true rfl) (by first | decide | omega) (by first | decide | omega) ?_
    exact kx2 i e1 hi he (Or.inl c7)
  · refine z_iload_n C d_RC_mayday_10 rfl rfl ?_
    refine z_sipush (v := 999) C d_RC_mayday_11 (by decide) ?_
    refine z_icmp_le 27 C d_RC_mayday_14 (by decide) (fun c14 => ?_) (fun c14 => ?_)
    · refine z_aload_n C d_RC_mayday_27 rfl rfl ?_
      refine z_get (ci := 1) (T := T_PE) (N := 3) C d_RC_mayday_28 0 i_PE rfl (by decide) k_173 (fun _ q => q) hye (by rfl) ?_
      refine z_iconst (v := (-1)) C d_RC_mayday_31 (by decide) ?_
      refine z_icmp_eq 43 C d_RC_mayday_32 (by decide) (fun c32 => ?_) (fun c32 => ?_)
      · refine z_throwS (text := "the person is outside, or has an open mayday") (cls := "java/lang/IllegalStateException") C ht d_RC_mayday_43 d_RC_mayday_46 d_RC_mayday_47 d_RC_mayday_49 d_RC_mayday_52 (by decide +kernel) k_292 k_18 (by decide +kernel) (tho_ISE C) thg_ISE (by decide) (Nat.le_of_ble_eq_true rfl) (by first | decide | omega) (by first | decide | omega) ?_
        exact kx3 i e1 hi he c7 c14 (Or.inl c32)
      · refine z_aload_n C d_RC_mayday_35 rfl rfl ?_
        refine z_iload_n C d_RC_mayday_36 rfl rfl ?_
        refine z_callV (n := 1) (As := [.int a]) (rest := []) (r1 := 4) (mc1 := 0) (ms1 := 0) (ci := 7) (T0 := T_RC) C d_RC_mayday_37 k_570 k_567 k_569 ks_14 k_1 (by decide +kernel) rfl rfl (by first | assumption | exact zu_s) (by decide) (by decide) (Nat.le_of_ble_eq_true rfl) (by first | decide | omega) (by first | decide | omega) rfl ?_
        refine ct_RC_hasOpenMayday hx l5 ?_
        dsimp only [zps]
        cases ho : S.md.any (fun e => e.op != 0 && e.1 == a) with
        | true =>
          rw [if_pos rfl]
          refine z_if_eq 53 C d_RC_mayday_40 (by decide) (fun c40 => ?_) (fun c40 => ?_)
          · exact absurd c40 (by decide)
          · refine z_throwS (text := "the person is outside, or has an open mayday") (cls := "java/lang/IllegalStateException") C ht d_RC_mayday_43 d_RC_mayday_46 d_RC_mayday_47 d_RC_mayday_49 d_RC_mayday_52 (by decide +kernel) k_292 k_18 (by decide +kernel) (tho_ISE C) thg_ISE (by decide) (Nat.le_of_ble_eq_true rfl) (by first | decide | omega) (by first | decide | omega) ?_
            exact kx3 i e1 hi he c7 c14 (Or.inr ho)
        | false =>
          rw [if_neg (by decide)]
          refine z_if_eq 53 C d_RC_mayday_40 (by decide) (fun c40 => ?_) (fun c40 => ?_)
          · refine z_aload_n C d_RC_mayday_53 rfl rfl ?_
            refine z_get (ci := 7) (T := T_RC) (N := 8) C d_RC_mayday_54 5 i_RC rfl (by decide) k_65 (fun _ q => q) hx (by rfl) ?_
            refine z_callV (n := 0) (As := []) (rest := []) (r1 := 1) (mc1 := 0) (ms1 := 0) (ci := 0) (T0 := T_AL) C d_RC_mayday_57 k_96 k_93 k_94 k_95 k_4 (by decide +kernel) rfl rfl (by first | assumption | exact zu_s) (by decide) (by decide) (Nat.le_of_ble_eq_true rfl) (by first | decide | omega) (by first | decide | omega) rfl ?_
            refine cl_size l5 ?_
            dsimp only [zps]
            rw [List.length_map]
            refine z_bipush (v := 30) C d_RC_mayday_60 (by decide) ?_
            refine z_icmp_lt 75 C d_RC_mayday_62 (by decide) (fun c62 => ?_) (fun c62 => ?_)
            · have hl : S.md.length < 30 := by
                rcases Nat.lt_or_ge S.md.length 30 with q | q
                · exact q
                · exact absurd c62 (by rw [show (30 : Int32) = nI 30 from rfl]; exact nI_nlt q (by omega))
              have k' := k i e1 hi he c7 c14 c32 ho hl
              clear k kx1 kx2 kx3 kx4
              refine z_aload_n C d_RC_mayday_75 rfl rfl ?_
              refine z_get (ci := 7) (T := T_RC) (N := 8) C d_RC_mayday_76 5 i_RC rfl (by decide) k_65 (fun _ q => q) hx (by rfl) ?_
              refine z_new (ci := 5) (fs := [.int 0, .int 0, .int 0, .int 0, .int 0]) (T := T_MD) (N := 5) C d_RC_mayday_79 ty_MD t_MD i_MD rfl k_388 k_573 k_23 (fun j hj => by rcases (show j = 0 ∨ j = 1 ∨ j = 2 ∨ j = 3 ∨ j = 4 by omega) with rfl | rfl | rfl | rfl | rfl <;> rfl) (by first | decide | omega) (by first | decide | omega) (fun q79 hq79 => ?_)
              have key : ∀ q, h q ≠ none → q ≠ q79 := fun q hq z => hq (z ▸ hq79)
              have hh0 : ∀ (v : va_E) q, h q ≠ none → zu h q79 v q = h q := fun v q hq => zu_n (key q hq)
              have hxz := (hh0 (mdC 0 0 0 0 0) x (zne hx)).trans hx
              have l5z : zLS g (tg T q79 (5, 2 + S.md.length)) (zu h q79 (mdC 0 0 0 0 0)) 5 ly LY (S.md.map mdE) := l5.new hq79
              refine z_dup C d_RC_mayday_82 rfl ?_
              refine z_iload_n C d_RC_mayday_83 rfl rfl ?_
              refine z_iload_n C d_RC_mayday_84 rfl rfl ?_
              refine z_aload_n C d_RC_mayday_85 rfl rfl ?_
              refine z_get (ci := 7) (T := T_RC) (N := 8) C d_RC_mayday_86 7 i_RC rfl (by decide) k_67 (fun _ q => q) hxz (by rfl) ?_
              refine z_aload_n C d_RC_mayday_89 rfl rfl ?_
              refine z_callV (n := 0) (As := []) (rest := [.int S.sec, .int b, .int a, .ref q79, .ref q79, .ref ly]) (r1 := 5) (mc1 := 0) (ms1 := 0) (ci := 7) (T0 := T_RC) C d_RC_mayday_90 k_577 k_574 k_576 ks_15 k_1 (by decide +kernel) rfl rfl hxz (by decide) (by decide) (Nat.le_of_ble_eq_true rfl) (by first | decide | omega) (by first | decide | omega) rfl ?_
              refine ct_RC_lowestFreeTeam hxz l5z ?_
              dsimp only [zps]
              refine z_callI (n := 4) (As := [.int a, .int b, .int S.sec, .int (lft S.md)]) (rest := [.ref q79, .ref ly]) (r1 := 1) (mc1 := 0) (ms1 := 0) C d_RC_mayday_93 k_584 k_582 k_583 k_23 rfl (by decide +kernel) rfl (by decide) (by decide) (Nat.le_of_ble_eq_true rfl) (by first | decide | omega) (by first | decide | omega) rfl ?_
              refine ct_MD_init zu_s ?_
              dsimp only [zps]
              rw [zu_zu]
              have hT1 : ∀ q, h q ≠ none → tg T q79 (5, 2 + S.md.length) q = T q := fun q hq => tg_n (key q hq)
              have hh1 := hh0 (mdC a b S.sec 1 (lft S.md))
              have l5' : zLS g (tg T q79 (5, 2 + S.md.length)) (zu h q79 (mdC a b S.sec 1 (lft S.md))) 5 ly LY (S.md.map mdE) := l5.new hq79
              obtain ⟨vs1, hvs1⟩ := l5'.obj
              refine z_callV (n := 1) (As := [.ref q79]) (rest := []) (r1 := 7) (mc1 := 1) (ms1 := 450) (ci := 0) (T0 := T_AL) C d_RC_mayday_96 k_188 k_185 k_186 k_187 k_4 (by decide +kernel) rfl rfl (by first | assumption | exact zu_s) (by decide) (by decide) (Nat.le_of_ble_eq_true rfl) (by first | decide | omega) (by first | decide | omega) rfl ?_
              refine cl_add (ci := 5) (q9 := ("RollCalls$Mayday", T_MD, 5)) (vs := [.int a, .int b, .int S.sec, .int 1, .int (lft S.md)]) l5' (by rw [List.length_map]; omega) rfl (by decide) (by decide +kernel) (fun e he => ?_) zu_s (by rw [tg_s, List.length_map]) (fun h1 T1 c1 c2 c3 c4 => ?_)
              · obtain ⟨e1, -, rfl⟩ := List.mem_map.mp he
                exact ⟨_, rfl⟩
              · dsimp only [zps]
                have nn : ∀ q, h q ≠ none → zu h q79 (mdC a b S.sec 1 (lft S.md)) q ≠ none := fun q hq => by rw [hh1 q hq]; exact hq
                have hT : ∀ q, h q ≠ none → T1 q = T q := fun q hq => (c2 q (nn q hq)).trans (hT1 q hq)
                have kp : ∀ (kd : Nat), kd ≠ 5 → ∀ q, h q ≠ none → (T q).1 = kd → h1 q = h q := fun kd h8 q hq e => (c3 q (nn q hq) (by rw [hT1 q hq]; exact fun z => h8 (by rw [← e, z])) (by rw [hT1 q hq]; exact fun z => h8 (by rw [← e, z]))).trans (hh1 q hq)
                have ex : h1 x = some (rcC gu lp lm lr ld ly le S.sec) := (kp 10 (by decide) x (zne hx) (by rw [hxT])).trans hx
                have l5'' : zLS g T1 h1 5 ly (LY ++ [q79]) ((S.md ++ [(a, b, S.sec, 1, lft S.md)]).map mdE) := by rw [List.map_append]; exact c1
                obtain ⟨vs2, hvs2⟩ := l5''.obj
                refine z_pop C d_RC_mayday_99 rfl ?_
                refine z_aload_n C d_RC_mayday_100 rfl rfl ?_
                refine z_get (ci := 7) (T := T_RC) (N := 8) C d_RC_mayday_101 5 i_RC rfl (by decide) k_65 (fun _ q => q) (by first | assumption | exact zu_s) (by rfl) ?_
                refine z_callV (n := 0) (As := []) (rest := []) (r1 := 1) (mc1 := 0) (ms1 := 0) (ci := 0) (T0 := T_AL) C d_RC_mayday_104 k_96 k_93 k_94 k_95 k_4 (by decide +kernel) rfl rfl (by first | assumption | exact zu_s) (by decide) (by decide) (Nat.le_of_ble_eq_true rfl) (by first | decide | omega) (by first | decide | omega) rfl ?_
                refine cl_size l5'' ?_
                dsimp only [zps]
                rw [List.length_map, List.length_append]
                refine z_iconst (v := 1) C d_RC_mayday_107 (by decide) ?_
                refine z_isub C d_RC_mayday_108 ?_
                rw [znI_pred (by simp)]
                refine z_iret C d_RC_mayday_109 ?_
                rw [show S.md.length + [((a, b, S.sec, 1, lft S.md) : MdT)].length - 1 = S.md.length from by simp]
                exact k' h1 T1 ⟨gu, lp, lm, lr, ld, ly, le, LP, LM, LR, LD, _, LE, ⟨(kp 10 (by decide) x (zne hx) (by rw [hxT])).trans hx, (hT x (zne hx)).trans hxT⟩, ⟨(kp 10 (by decide) gu (zne hgu) (by rw [hguT])).trans hgu, (hT gu (zne hgu)).trans hguT⟩, l1.keep hT (kp 1 (by decide)), l2.keep hT (kp 2 (by decide)), l3.keep hT (kp 3 (by decide)), l4.keep hT (kp 4 (by decide)), l5'', l6.keep hT (kp 6 (by decide)), r1.keep hT (kp 7 (by decide)), r2.keep hT (kp 8 (by decide)) (kp 9 (by decide)), b1, b2, b3, b4, zlen1 hl, b6⟩ ⟨hT, fun q hq h0 => kp 0 (by decide) q hq h0, fun q hq => c4 q (nn q hq)⟩
            · refine z_throwS (text := "no room for a mayday") (cls := "java/lang/UnsupportedOperationException") C ht d_RC_mayday_65 d_RC_mayday_68 d_RC_mayday_69 d_RC_mayday_71 d_RC_mayday_74 (by decide +kernel) k_97 k_9 (by decide +kernel) (tho_UOE C) thg_UOE (by decide) (Nat.le_of_ble_eq_true rfl) (by first | decide | omega) (by first | decide | omega) ?_
              refine kx4 i e1 hi he c7 c14 c32 ho ?_
              rcases Nat.lt_or_ge S.md.length 30 with q | q
              · exact absurd (by rw [show (30 : Int32) = nI 30 from rfl]; exact nI_lt q (by omega)) c62
              · exact q
          · exact absurd rfl c40
    · refine z_throwS (text := "places are 0 to 999") (cls := "java/lang/IndexOutOfBoundsException") C ht d_RC_mayday_17 d_RC_mayday_20 d_RC_mayday_21 d_RC_mayday_23 d_RC_mayday_26 (by decide +kernel) k_348 k_20 (by decide +kernel) (tho_IOB C) thg_IOB (by decide) (Nat.le_of_ble_eq_true rfl) (by first | decide | omega) (by first | decide | omega) ?_
      exact kx2 i e1 hi he (Or.inr (Int32.not_le.mp c14))
theorem sendL_len (t : Int32) : ∀ l : List MdT, (sendL t l).length = l.length
  | [] => rfl
  | e :: l => by
    rw [sendL]
    split
    · rfl
    · rw [List.length_cons, sendL_len t l, List.length_cons]
set_option maxRecDepth 100000 in
theorem ct_RC_answered {a : Int32} (hR : RepC g T h x S) (kx1 : (a < 0 ∨ nI S.md.length ≤ a) → PX xIAE h) (kx2 : ∀ i e, a = nI i → S.md[i]? = some e → e.op = 0 → PX xISE h)
    (k : ∀ i (e : MdT), a = nI i → S.md[i]? = some e → ¬ e.op = 0 → ∀ (h1 : Hp), RepC g T h1 x (S.1, S.2.1, S.2.2.1, S.2.2.2.1, S.2.2.2.2.1, S.2.2.2.2.2.1, (if e.tm = -1 then S.2.2.2.2.2.2.1.set i (e.1, e.2.1, e.2.2.1, 0, -1) else sendL e.tm (S.2.2.2.2.2.2.1.set i (e.1, e.2.1, e.2.2.1, 0, -1))), S.2.2.2.2.2.2.2) → Ext T h T h1 → PR none h1) : Ct g y_RC_answered w_RC_answered 7 2 12 [.ref x, .int a] h PR PX := by
  obtain ⟨gu, lp, lm, lr, ld, ly, le, LP, LM, LR, LD, LY, LE, ⟨hx, hxT⟩, ⟨hgu, hguT⟩, l1, l2, l3, l4, l5, l6, r1, r2, b1, b2, b3, b4, b5, b6⟩ := hR
  refine Ct_intro (cc := c_RC_answered) (nL := 4) (ret := none) (ls := [some (.ref x), some (.int a), none, none]) (by decide) (Nat.le_of_ble_eq_true rfl) rfl rfl ?_
  intro p e R s m args below meth c C ht hname
  refine z_aload_n C d_RC_answered_0 rfl rfl ?_
  refine z_iload_n C d_RC_answered_1 rfl rfl ?_
  refine z_callV (n := 1) (As := [.int a]) (rest := []) (r1 := 6) (mc1 := 1) (ms1 := 6) (ci := 7) (T0 := T_RC) C d_RC_answered_2 k_617 k_614 k_616 ks_17 k_1 (by decide +kernel) rfl rfl (by first | assumption | exact zu_s) (by decide) (by decide) (Nat.le_of_ble_eq_true rfl) (by first | decide | omega) (by first | decide | omega) rfl ?_
  refine ct_RC_knownMayday hx l5 (fun z => zx_out C ht (kx1 z)) (fun i y e1 hi he hy hye hyT => ?_)
  dsimp only [zps]
  refine z_astore_n C d_RC_answered_5 rfl (by decide) rfl ?_
  dsimp only [List.set]
  refine z_aload_n C d_RC_answered_6 rfl rfl ?_
  refine z_get (ci := 5) (T := T_MD) (N := 5) C d_RC_answered_7 3 i_MD rfl (by decide) k_593 (fun _ q => q) hye (by rfl) ?_
  refine z_if_ne 24 C d_RC_answered_10 (by decide) (fun c10 => ?_) (fun c10 => ?_)
  · have k' := k i e1 hi he c10
    clear k kx1 kx2
    refine z_aload_n C d_RC_answered_24 rfl rfl ?_
    refine z_get (ci := 5) (T := T_MD) (N := 5) C d_RC_answered_25 4 i_MD rfl (by decide) k_595 (fun _ q => q) hye (by rfl) ?_
    refine z_istore_n C d_RC_answered_28 rfl (by decide) rfl ?_
    dsimp only [List.set]
    refine z_aload_n C d_RC_answered_29 rfl rfl ?_
    refine z_iconst (v := 0) C d_RC_answered_30 (by decide) ?_
    refine z_put (ci := 5) (T := T_MD) (N := 5) (ty := .boolean) C d_RC_answered_31 3 ty_MD t_MD n_MD i_MD rfl (by decide) k_593 (fun _ q => q) rfl (by decide +kernel) (by rfl) (by rfl) hye (by exact Nat.le_of_ble_eq_true rfl) ?_
    dsimp only [List.set]
    refine z_aload_n C d_RC_answered_34 rfl rfl ?_
    refine z_iconst (v := (-1)) C d_RC_answered_35 (by decide) ?_
    refine z_put (ci := 5) (T := T_MD) (N := 5) (ty := .int) C d_RC_answered_36 4 ty_MD t_MD n_MD i_MD rfl (by decide) k_595 (fun _ q => q) rfl (by decide +kernel) (by rfl) (by rfl) zu_s (by exact Nat.le_of_ble_eq_true rfl) ?_
    dsimp only [List.set]
    rw [zu_zu]
    have hT : ∀ q, h q ≠ none → T q = T q := fun _ _ => rfl
    have kp : ∀ (kd : Nat), kd ≠ 5 → ∀ q, h q ≠ none → (T q).1 = kd → zu h y (mdE (e1.1, e1.2.1, e1.2.2.1, 0, -1)) q = h q := fun kd h8 q hq e => zu_n (fun z => h8 (by rw [← e, z, hyT]))
    have l5' := l5.set (e := mdE (e1.1, e1.2.1, e1.2.2.1, 0, -1)) hy
    rw [← List.map_set] at l5'
    refine z_iload_n C d_RC_answered_39 rfl rfl ?_
    refine z_iconst (v := (-1)) C d_RC_answered_40 (by decide) ?_
    refine z_icmp_eq 49 C d_RC_answered_41 (by decide) (fun c41 => ?_) (fun c41 => ?_)
    · refine z_vret C d_RC_answered_49 ?_
      rw [if_pos c41] at k'
      exact k' _ ⟨gu, lp, lm, lr, ld, ly, le, LP, LM, LR, LD, LY, LE, ⟨(kp 10 (by decide) x (zne hx) (by rw [hxT])).trans hx, (hT x (zne hx)).trans hxT⟩, ⟨(kp 10 (by decide) gu (zne hgu) (by rw [hguT])).trans hgu, (hT gu (zne hgu)).trans hguT⟩, l1.keep hT (kp 1 (by decide)), l2.keep hT (kp 2 (by decide)), l3.keep hT (kp 3 (by decide)), l4.keep hT (kp 4 (by decide)), l5', l6.keep hT (kp 6 (by decide)), r1.keep hT (kp 7 (by decide)), r2.keep hT (kp 8 (by decide)) (kp 9 (by decide)), b1, b2, b3, b4, zlen2 b5, b6⟩ (Ext.put (tk hyT (by decide)))
    · rw [if_neg c41] at k'
      have hx1 := (kp 10 (by decide) x (zne hx) (by rw [hxT])).trans hx
      refine z_aload_n C d_RC_answered_44 rfl rfl ?_
      refine z_iload_n C d_RC_answered_45 rfl rfl ?_
      refine z_callV (n := 1) (As := [.int e1.tm]) (rest := []) (r1 := 4) (mc1 := 0) (ms1 := 0) (ci := 7) (T0 := T_RC) C d_RC_answered_46 k_623 k_620 k_622 ks_18 k_1 (by decide +kernel) rfl rfl hx1 (by decide) (by decide) (Nat.le_of_ble_eq_true rfl) (by first | decide | omega) (by first | decide | omega) rfl ?_
      refine ct_RC_sendToLowestWaiting hx1 l5' (fun h1 c1 c2 c3 => ?_)
      dsimp only [zps]
      refine z_vret C d_RC_answered_49 ?_
      have kq : ∀ (kd : Nat), kd ≠ 5 → ∀ q, h q ≠ none → (T q).1 = kd → h1 q = h q := fun kd h8 q hq e => (c2 q (by rw [e]; exact h8)).trans (kp kd h8 q hq e)
      refine k' _ ⟨gu, lp, lm, lr, ld, ly, le, LP, LM, LR, LD, LY, LE, ⟨(kq 10 (by decide) x (zne hx) (by rw [hxT])).trans hx, (hT x (zne hx)).trans hxT⟩, ⟨(kq 10 (by decide) gu (zne hgu) (by rw [hguT])).trans hgu, (hT gu (zne hgu)).trans hguT⟩, l1.keep hT (kq 1 (by decide)), l2.keep hT (kq 2 (by decide)), l3.keep hT (kq 3 (by decide)), l4.keep hT (kq 4 (by decide)), c1, l6.keep hT (kq 6 (by decide)), r1.keep hT (kq 7 (by decide)), r2.keep hT (kq 8 (by decide)) (kq 9 (by decide)), b1, b2, b3, b4, by rw [sendL_len]; exact zlen2 b5, b6⟩ ⟨hT, fun q hq h0 => kq 0 (by decide) q hq h0, fun q hq => c3 q ?_⟩
      by_cases hqy : q = y
      · rw [hqy, zu_s]; exact zsm
      · rw [zu_n hqy]; exact hq
  · refine z_throwSW (text := "the mayday was answered") (cls := "java/lang/IllegalStateException") C ht d_RC_answered_13 d_RC_answered_16 d_RC_answered_17 d_RC_answered_20 d_RC_answered_23 (by decide +kernel) k_292 k_18 (by decide +kernel) (tho_ISE C) thg_ISE (by decide) (Nat.le_of_ble_eq_true rfl) (by first | decide | omega) (by first | decide | omega) ?_
    exact kx2 i e1 hi he c10
end RU
