/-! what keeps the relation: round, roll -/
theorem cofN_cases {S : CS} {F : FT} {o : Nat} {r : RoT} (H : rowR S F o r) {i : Nat} (hi : i < 60) : (cofN r i = -2 ∧ F 10 (o * 60 + i) = 0 ∧ F 11 (o * 60 + i) = -1) ∨ (cofN r i = -1 ∧ F 10 (o * 60 + i) = 1 ∧ F 11 (o * 60 + i) = -1) ∨ (¬ cofN r i < 0 ∧ cofN r i ≠ -2 ∧ cofN r i ≠ -1 ∧ F 10 (o * 60 + i) = 1 ∧ F 11 (o * 60 + i) = cofN r i) := by
  obtain ⟨-, -, r3, -⟩ := H
  obtain ⟨q1, q2, q3⟩ := r3 i hi
  rcases q3 with z | z | z
  · rw [z] at q1 q2
    exact Or.inl ⟨z, q1, q2⟩
  · rw [z] at q1 q2
    exact Or.inr (Or.inl ⟨z, q1, q2⟩)
  · have n2 : cofN r i ≠ -2 := fun y => z (by rw [y]; decide)
    have n1 : cofN r i ≠ -1 := fun y => z (by rw [y]; decide)
    rw [if_neg n2] at q2
    rw [show (cofN r i != -2) = true from bne_iff_ne.mpr n2] at q1
    exact Or.inr (Or.inr ⟨z, n2, n1, q1, q2⟩)
theorem opB_stB {S : CS} {F : FT} {o : Nat} {r : RoT} (H : rowR S F o r) (hb : S.ps.length ≤ 60) (hon : r.rd < 3) {fm : Nat} (hf : fmR S F o r fm) {i : Nat} {e : PeT} (he : S.ps[i]? = some e) : opB r i e = stB F S.mv o i fm := by
  have hi := ltl he
  have h1 := (hf i e he).1 hon
  have hnum := H.1.1
  unfold opB stB
  rw [hnum, h1]
  rcases cofN_cases H (i := i) (by omega) with ⟨a, b, c⟩ | ⟨a, b, c⟩ | ⟨a, a2, a3, b, c⟩
  · rw [b, show cof r.n r.f (nI i) = -2 from a]
    rfl
  · rw [b, c, show cof r.n r.f (nI i) = -1 from a]
    simp
  · rw [c, decide_eq_false a, show (cof r.n r.f (nI i) == -1) = false from beq_eq_false_iff_ne.mpr a3]
    simp
theorem fm_eq {S : CS} {F : FT} {o : Nat} {r : RoT} (H : rowR S F o r) (hb : S.mv.length ≤ 300) {fm : Nat} (h1 : fm ≤ S.mv.length) (h2 : F 6 o = nI fm) : fmR S F o r fm := by
  obtain ⟨-, -, -, -, ⟨f, f1, f2, f3⟩, -⟩ := H
  have : f = fm := (nI_eq (by omega) (by omega)).mp (f2.symm.trans h2)
  exact this ▸ f3
theorem open_on {S : CS} {F : FT} {o : Nat} {r : RoT} (H : rowR S F o r) (hb : S.ps.length ≤ 60) (hon : r.rd < 3) {fm : Nat} (hf : fmR S F o r fm) : opC r 0 S.ps = cnt (opM F S.mv o fm) 0 S.ps.length := by
  refine opC_cnt (fun k e hk => ?_)
  rw [Nat.zero_add, opM, if_pos (by rw [H.1.2.2.2.1]; exact hon)]
  exact opB_stB H hb hon hf hk
theorem open_over {S : CS} {F : FT} {o : Nat} {r : RoT} (H : rowR S F o r) (hb : S.ps.length ≤ 60) (hov : ¬ r.rd < 3) {fm : Nat} : r.2.2.2.2.2.2.2.2 = nI (cnt (opM F S.mv o fm) 0 S.ps.length) := by
  rw [H.2.2.2.2.2.1 hov]
  have h7 := H.2.2.2.2.2.2
  have e1 : cnt (fun i => F 12 (o * 60 + i) != 0) 0 60 = cnt (fun i => F 12 (o * 60 + i) != 0) 0 S.ps.length := by
    have := cnt_app (fun i => F 12 (o * 60 + i) != 0) S.ps.length 0 (60 - S.ps.length)
    rw [show S.ps.length + (60 - S.ps.length) = 60 from by omega] at this
    rw [this, cnt_zero (P := fun i => F 12 (o * 60 + i) != 0) (i := 0 + S.ps.length) (fun k k1 k2 => by rw [h7 k (by omega) (Or.inr (by omega))]; rfl), Nat.add_zero]
  rw [e1]
  refine congrArg nI ?_
  refine cnt_congr (fun k _ _ => ?_)
  rw [opM, if_neg (by rw [H.1.2.2.2.1]; exact hov)]
theorem rd_lt {v : Int32} (h : v = 1 ∨ v = 2 ∨ v = 3) (h3 : v < 3) : (v = 1 ∧ v + 1 < 3 ∧ v + 1 = 2) ∨ (v = 2 ∧ ¬ v + 1 < 3 ∧ v + 1 = 3) := by
  rcases h with rfl | rfl | rfl
  · exact Or.inl ⟨rfl, by decide, by decide⟩
  · exact Or.inr ⟨rfl, by decide, by decide⟩
  · exact absurd h3 (by decide)
theorem Rel.round1 {S : CS} {F : FT} (H : Rel S F) {j : Nat} {r : RoT} (hr : S.ro[j]? = some r) (hon : r.rd < 3) (h1 : r.rd + 1 < 3) : Rel (S.1, S.2.1, S.2.2.1, S.2.2.2.1, S.2.2.2.2.1.set j (r.1, r.2.1, r.2.2.1 + 1, r.2.2.2.1, r.2.2.2.2.1, r.2.2.2.2.2.1, r.2.2.2.2.2.2.1, r.2.2.2.2.2.2.2.1, r.2.2.2.2.2.2.2.2), S.2.2.2.2.2) (rdF F j) := by
  have hrow := H.2.2.2.2.1 j r hr
  refine H.row hr (fun k hk => sF_n (by omega)) (fun o ho => ⟨rfl, upd_o ho, rfl, rfl, rfl, rfl⟩) (fun o ho i hi => ⟨rfl, rfl, rfl⟩) ?_ H.2.2.2.2.2.1
  obtain ⟨r1, r2, r3, r4, ⟨fm, f1, f2, f3⟩, r6, r7⟩ := hrow
  have h2 : r.rd + 1 = 2 := by
    rcases rd_lt r1.2.2.2.2 hon with z | z
    · exact z.2.2
    · exact absurd h1 z.2.1
  refine ⟨⟨r1.1, r1.2.1, r1.2.2.1, ?_, Or.inr (Or.inl h2)⟩, r2, r3, r4, ⟨fm, f1, f2, fun i e he => ⟨fun _ => (f3 i e he).1 hon, fun z => absurd h1 z⟩⟩, fun z => absurd h1 z, fun i hi hq => r7 i hi (Or.inl hon)⟩
  show upd (F 5) j (F 5 j + 1) j = r.rd + 1
  rw [upd_e, r1.2.2.2.1]
theorem fil_in {f : Nat → Int32} {b n : Nat} {v : Nat → Int32} {i : Nat} (h : i < n) : fil f b n v (b + i) = v i := by
  unfold fil
  rw [if_pos (by omega), show b + i - b = i from by omega]
theorem fil_out {f : Nat → Int32} {b n : Nat} {v : Nat → Int32} {q : Nat} (h : q < b ∨ b + n ≤ q) : fil f b n v q = f q := if_neg (by omega)
theorem coB_end (mv : List MvT) (p : Int32) : coB mv p mv.length = false := by
  unfold coB
  rw [List.drop_length]
  rfl
theorem bI_ne (b : Bool) : (bI b != 0) = b := by cases b <;> rfl
theorem Rel.round2 {S : CS} {F : FT} (H : Rel S F) {j : Nat} {r : RoT} (hr : S.ro[j]? = some r) (hon : r.rd < 3) (h1 : ¬ r.rd + 1 < 3) {fm : Nat} (hf1 : fm ≤ S.mv.length) (hf2 : F 6 j = nI fm) : Rel (S.1, S.2.1, S.2.2.1, S.2.2.2.1, S.2.2.2.2.1.set j (r.1, r.2.1, r.2.2.1 + 1, r.2.2.2.1, r.2.2.2.2.1, r.2.2.2.2.2.1, r.2.2.2.2.2.2.1, r.2.2.2.2.2.2.2.1, nI (opC r 0 S.ps)), S.2.2.2.2.2) (sF (reF S F j fm S.ps.length) 6 (upd (F 6) j (nI S.mv.length))) := by
  have hrow := H.2.2.2.2.1 j r hr
  have b1 := H.1.1
  have b2 := H.1.2.1
  have hfm := fm_eq hrow b2 hf1 hf2
  have f12 : sF (reF S F j fm S.ps.length) 6 (upd (F 6) j (nI S.mv.length)) 12 = fil (F 12) (j * 60) S.ps.length (fun q => bI (stB F S.mv j q fm)) := rfl
  refine H.row hr (fun k hk => ?_) (fun o ho => ⟨rfl, upd_o ho, upd_o ho, rfl, rfl, rfl⟩) (fun o ho i hi => ⟨rfl, rfl, ?_⟩) ?_ H.2.2.2.2.2.1
  · rw [sF_n (by omega), reF, sF_n (by omega), rdF, sF_n (by omega)]
  · rw [f12, fil_out (by omega)]
  obtain ⟨r1, r2, r3, r4, -, r6, r7⟩ := hrow
  have h2 : r.rd + 1 = 3 := by
    rcases rd_lt r1.2.2.2.2 hon with z | z
    · exact absurd z.2.1 h1
    · exact z.2.2
  have hrow := H.2.2.2.2.1 j r hr
  have z12 : ∀ i, i < 60 → S.ps.length ≤ i → sF (reF S F j fm S.ps.length) 6 (upd (F 6) j (nI S.mv.length)) 12 (j * 60 + i) = 0 := fun i hi hq => by
    rw [f12, fil_out (by omega)]
    exact r7 i hi (Or.inl hon)
  refine ⟨⟨r1.1, r1.2.1, r1.2.2.1, ?_, Or.inr (Or.inr h2)⟩, r2, r3, r4, ⟨S.mv.length, Nat.le_refl _, upd_e, fun i e he => ⟨fun z => absurd z h1, fun _ => ?_⟩⟩, fun _ => ?_, fun i hi hq => ?_⟩
  · show upd (F 5) j (F 5 j + 1) j = r.rd + 1
    rw [upd_e, r1.2.2.2.1]
  · rw [coB_end, Bool.not_false, Bool.and_true, f12, fil_in (ltl he), bI_ne]
    exact opB_stB hrow b1 hon hfm he
  · show nI (opC r 0 S.ps) = nI (cnt (fun i => sF (reF S F j fm S.ps.length) 6 (upd (F 6) j (nI S.mv.length)) 12 (j * 60 + i) != 0) 0 60)
    refine congrArg nI ?_
    have := cnt_app (fun i => sF (reF S F j fm S.ps.length) 6 (upd (F 6) j (nI S.mv.length)) 12 (j * 60 + i) != 0) S.ps.length 0 (60 - S.ps.length)
    rw [show S.ps.length + (60 - S.ps.length) = 60 from by omega] at this
    rw [this, cnt_zero (i := 0 + S.ps.length) (fun k k1 k2 => by rw [z12 k (by omega) (by omega)]; rfl), Nat.add_zero]
    refine opC_cnt (fun k e hk => ?_)
    rw [Nat.zero_add, f12, fil_in (ltl hk), bI_ne]
    exact opB_stB hrow b1 hon hfm hk
  · rcases hq with z | z
    · exact absurd z h1
    · exact z12 i hi z
theorem asF_at (sc : Int32) : ∀ (l : List PeT) (f : Nat → Int32) (i q : Nat), asF sc f i l q = if i ≤ q ∧ (∃ e, l[q - i]? = some e ∧ asB sc e = true) then -1 else f q
  | [], f, i, q => by
    rw [asF, if_neg]
    rintro ⟨-, e, h, -⟩
    cases h
  | e :: l, f, i, q => by
    rw [asF, asF_at sc l _ (i + 1) q]
    by_cases hq : i ≤ q
    · by_cases hqi : q = i
      · subst hqi
        rw [if_neg (fun z => by omega)]
        cases hb : asB sc e with
        | true =>
          rw [if_pos rfl, upd_e, if_pos ⟨Nat.le_refl _, e, by rw [Nat.sub_self]; rfl, hb⟩]
        | false =>
          rw [if_neg (by decide), if_neg]
          rintro ⟨-, e1, h1, h2⟩
          rw [Nat.sub_self] at h1
          cases h1
          rw [hb] at h2
          cases h2
      · have e9 : (e :: l)[q - i]? = l[q - (i + 1)]? := by
          rw [show q - i = (q - (i + 1)) + 1 from by omega]
          rfl
        rw [e9]
        have e8 : (if asB sc e = true then upd f i (-1) else f) q = f q := by
          split
          · exact upd_o hqi
          · rfl
        rw [e8]
        by_cases hz : ∃ e1, l[q - (i + 1)]? = some e1 ∧ asB sc e1 = true
        · rw [if_pos ⟨by omega, hz⟩, if_pos ⟨hq, hz⟩]
        · rw [if_neg (fun z => hz z.2), if_neg (fun z => hz z.2)]
    · have n1 : ¬ (i + 1 ≤ q ∧ ∃ e1, l[q - (i + 1)]? = some e1 ∧ asB sc e1 = true) := fun z => by omega
      have n2 : ¬ (i ≤ q ∧ ∃ e1, (e :: l)[q - i]? = some e1 ∧ asB sc e1 = true) := fun z => hq z.1
      rw [if_neg n1, if_neg n2]
      split
      · exact upd_o (by omega)
      · rfl
theorem asN_cnt (sc : Int32) (P : Nat → Bool) : ∀ (l : List PeT) (n i : Nat), (∀ (k : Nat) (e : PeT), l[k]? = some e → asB sc e = P (i + k)) → asN sc (nI n) l = nI (n + cnt P i l.length)
  | [], n, i, _ => rfl
  | e :: l, n, i, h => by
    have h0 := h 0 e rfl
    rw [Nat.add_zero] at h0
    have hn : ∀ (k : Nat) (e : PeT), l[k]? = some e → asB sc e = P (i + 1 + k) := fun k e1 hk => by
      have := h (k + 1) e1 hk
      rw [show i + (k + 1) = i + 1 + k from by omega] at this
      exact this
    rw [asN, List.length_cons, cnt, h0]
    cases P i with
    | true =>
      rw [if_pos rfl, if_pos rfl, nI_1, asN_cnt sc P l (n + 1) (i + 1) hn, Nat.add_assoc]
    | false =>
      rw [if_neg (by decide), if_neg (by decide), Nat.zero_add]
      exact asN_cnt sc P l n (i + 1) hn
theorem gaS_b (sc : Int32) (gf : Nat → Int32) (hg : ∀ j, j < 10 → ¬ gf j < 0 ∧ gf j ≤ 999) : ∀ (j i n : Nat), i + j ≤ 10 → n ≤ 999 * i → ∃ m, m ≤ 9990 ∧ gaS sc gf i j (nI n) = nI m
  | 0, i, n, h1, h2 => ⟨n, by omega, rfl⟩
  | j + 1, i, n, h1, h2 => by
    rw [gaS]
    split
    · obtain ⟨g, hg1, hg2⟩ := nI_of2 (M := 999) (n := 999) (by decide) (hg i (by omega)).1 (hg i (by omega)).2
      rw [hg2, nI_add]
      exact gaS_b sc gf hg j (i + 1) (n + g) (by omega) (by omega)
    · exact gaS_b sc gf hg j (i + 1) n (by omega) (by omega)
theorem asB_asM {S : CS} (hP : relP S) {a : Int32} {k : Nat} {e : PeT} (hk : S.ps[k]? = some e) : asB a e = asM S.ps a k := by
  obtain ⟨-, p2, -⟩ := hP k e hk
  have e1 : hI S.ps k = e.1 := by
    unfold hI
    rw [hk]
  unfold asB asM
  rw [e1]
  by_cases h1 : a = -1
  · rw [decide_eq_true (Or.inl h1), show (a == -1) = true from beq_iff_eq.mpr h1, Bool.true_or, Bool.and_true, Bool.and_true]
    rcases p2 with z | z
    · rw [z]
      decide
    · rw [decide_eq_false z.1, show (e.1 != -1) = true from bne_iff_ne.mpr (fun y => z.1 (by rw [y]; decide))]
      rfl
  · rw [show (a == -1) = false from beq_eq_false_iff_ne.mpr h1, Bool.false_or]
    rcases p2 with z | z
    · rw [z]
      rw [show ((-1 : Int32) != -1) = false from by decide, Bool.false_and, show decide ((-1 : Int32) < 0) = true from by decide]
      rfl
    · rw [decide_eq_false z.1, show (e.1 != -1) = true from bne_iff_ne.mpr (fun y => z.1 (by rw [y]; decide)), Bool.true_and, Bool.not_false, Bool.true_and]
      by_cases h2 : e.1 = a
      · rw [decide_eq_true (Or.inr h2.symm), show (e.1 == a) = true from beq_iff_eq.mpr h2]
      · rw [decide_eq_false (fun y => y.elim h1 (fun w => h2 w.symm)), show (e.1 == a) = false from beq_eq_false_iff_ne.mpr h2]
theorem asM_out {ps : List PeT} {a : Int32} {k : Nat} (h : ps.length ≤ k) : asM ps a k = false := by
  have e1 : hI ps k = -1 := by
    unfold hI
    rw [List.getElem?_eq_none h]
  unfold asM
  rw [e1, show decide ((-1 : Int32) < 0) = true from by decide]
  rfl
theorem Rel.roll {S : CS} {F : FT} (H : Rel S F) {a : Int32} {ct : Nat} (hl : S.ro.length < 40) : Rel (S.1, S.2.1, S.2.2.1, S.2.2.2.1, S.2.2.2.2.1 ++ [roN S a ct], S.2.2.2.2.2) (rlF S F a) := by
  obtain ⟨⟨b1, b2, b3, b4⟩, hG, hV, hP, hR, hC, hD, hY, hE, hU⟩ := H
  have hla : (S.2.2.2.2.1 ++ [roN S a ct]).length = S.ro.length + 1 := by rw [List.length_append]; rfl
  obtain ⟨u7, u8, u9, u12⟩ := hU S.ro.length (Nat.le_refl _) hl
  have c0 : ∀ i, i < 60 → cofN (roN S a ct) i = if asM S.ps a i = true then -1 else -2 := by
    intro i hi
    show cof S.ps.length (asF a (fun i => if i < S.ps.length then -2 else 0) 0 S.ps) (nI i) = _
    rcases Nat.lt_or_ge i S.ps.length with z | z
    · obtain ⟨e, he⟩ : ∃ e, S.ps[i]? = some e := ⟨_, List.getElem?_eq_getElem z⟩
      rw [cof_in z (by omega), asF_at, ← asB_asM hP he, Nat.sub_zero, he]
      cases hb : asB a e with
      | true => rw [if_pos ⟨Nat.zero_le _, e, rfl, hb⟩, if_pos rfl]
      | false =>
        rw [if_neg, if_pos z, if_neg (by decide)]
        rintro ⟨-, e1, h1, h2⟩
        cases h1
        rw [hb] at h2
        cases h2
    · rw [cof_out z (by omega), asM_out z, if_neg (by decide)]
  have hn : ∀ i, i < 60 → rlF S F a 10 (S.ro.length * 60 + i) = bI (asM S.ps a i) := fun i hi => fil_in (v := fun q => bI (asM S.ps a q)) hi
  have hn11 : ∀ i, i < 60 → rlF S F a 11 (S.ro.length * 60 + i) = -1 := fun i hi => fil_in (v := fun _ => -1) hi
  have e7 : gaS a S.gf 0 10 (F 7 S.ro.length) = gaS a S.gf 0 10 0 := by rw [u7]
  have as0 : asN a 0 S.ps = nI (cnt (asM S.ps a) 0 60) := by
    have := asN_cnt a (asM S.ps a) S.ps 0 0 (fun k e hk => by rw [Nat.zero_add]; exact asB_asM hP hk)
    rw [show nI 0 = 0 from nI_0, Nat.zero_add] at this
    rw [this]
    refine congrArg nI ?_
    have h2 := cnt_app (asM S.ps a) S.ps.length 0 (60 - S.ps.length)
    rw [show S.ps.length + (60 - S.ps.length) = 60 from by omega] at h2
    rw [h2, cnt_zero (i := 0 + S.ps.length) (fun k k1 k2 => asM_out (by omega)), Nat.add_zero]
  obtain ⟨gm, gm1, gm2⟩ := gaS_b a S.gf (fun j hj => (hG j hj).2) 10 0 0 (by omega) (by omega)
  rw [nI_0] at gm2
  have hc60 := cnt_le (asM S.ps a) 60 0
  have hrd : rlF S F a 5 S.ro.length = (roN S a ct).rd := by
    show upd (F 5) S.ro.length (if anyN (asM S.ps a) 0 60 = true ∨ 0 < gaS a S.gf 0 10 (F 7 S.ro.length) then 1 else 3) S.ro.length = (if asN a 0 S.ps = 0 ∧ gaS a S.gf 0 10 0 = 0 then 3 else 1)
    rw [upd_e, e7, as0, gm2]
    by_cases hz : anyN (asM S.ps a) 0 60 = true ∨ 0 < nI gm
    · rw [if_pos hz, if_neg]
      rintro ⟨z1, z2⟩
      rcases hz with z | z
      · exact nI_ne0 (cnt_pos.mpr z) (by omega) z1
      · rw [z2] at z
        exact absurd z (by decide)
    · rw [if_neg hz, if_pos]
      refine ⟨?_, ?_⟩
      · have : cnt (asM S.ps a) 0 60 = 0 := Classical.byContradiction (fun q => hz (Or.inl (cnt_pos.mp (Nat.pos_of_ne_zero q))))
        rw [this]
        rfl
      · have : gm = 0 := Classical.byContradiction (fun q => hz (Or.inr (by rw [← nI_0]; exact nI_lt (Nat.pos_of_ne_zero q) (by omega))))
        rw [this]
        rfl
  have hrd13 : (roN S a ct).rd = 1 ∨ (roN S a ct).rd = 3 := by
    show (if asN a 0 S.ps = 0 ∧ gaS a S.gf 0 10 0 = 0 then (3 : Int32) else 1) = 1 ∨ (if asN a 0 S.ps = 0 ∧ gaS a S.gf 0 10 0 = 0 then (3 : Int32) else 1) = 3
    split
    · exact Or.inr rfl
    · exact Or.inl rfl
  have oth : ∀ o, o < S.ro.length → ∀ i, i < 60 → rlF S F a 10 (o * 60 + i) = F 10 (o * 60 + i) ∧ rlF S F a 11 (o * 60 + i) = F 11 (o * 60 + i) ∧ rlF S F a 12 (o * 60 + i) = F 12 (o * 60 + i) := fun o ho i hi => ⟨fil_out (f := F 10) (b := S.ro.length * 60) (n := 60) (v := fun q => bI (asM S.ps a q)) (q := o * 60 + i) (by omega), fil_out (f := F 11) (b := S.ro.length * 60) (n := 60) (v := fun _ => -1) (q := o * 60 + i) (by omega), rfl⟩
  refine ⟨⟨b1, b2, zlen1 hl, b4⟩, hG, hV, fun i e he => ?_, fun o r hr => ?_, fun i e he o ho => ?_, hD, hY, hE, fun o h1 h2 => ?_⟩
  · obtain ⟨p1, p2, p3⟩ := hP i e he
    refine ⟨p1, p2, ?_⟩
    show ¬ nI (S.2.2.2.2.1 ++ [roN S a ct]).length < e.2.1
    rw [hla]
    exact fun z => p3 (Int32.lt_trans (nI_lt (Nat.lt_succ_self _) (by omega)) z)
  · rcases ga1 hr with h | ⟨rfl, rfl⟩
    · have ho : o < S.ro.length := ltl h
      have hro : rowR S F o r := hR o r h
      exact rowR.keep (F := F) b1 ⟨upd_o (by omega), upd_o (by omega), upd_o (by omega), upd_o (by omega), rfl, rfl⟩ (oth o ho) hro
    · have e10 : cnt (fun i => rlF S F a 10 (S.ro.length * 60 + i) != 0) 0 60 = cnt (asM S.ps a) 0 60 := cnt_congr (fun k _ hk => by rw [hn k (by omega), bI_ne])
      refine ⟨⟨rfl, Nat.le_refl _, upd_e, hrd, ?_⟩, ⟨?_, u8, u9⟩, fun i hi => ?_, ⟨?_, ?_⟩, ⟨S.mv.length, Nat.le_refl _, upd_e, fun i e he => ⟨fun _ => ?_, fun hov => ?_⟩⟩, fun hov => ?_, fun i hi _ => u12 i hi⟩
      · rcases hrd13 with z | z
        · exact Or.inl z
        · exact Or.inr (Or.inr z)
      · show upd (F 7) S.ro.length (gaS a S.gf 0 10 (F 7 S.ro.length)) S.ro.length = gaS a S.gf 0 10 0
        rw [upd_e, e7]
      · show rlF S F a 10 (S.ro.length * 60 + i) = _ ∧ rlF S F a 11 (S.ro.length * 60 + i) = _ ∧ _
        rw [hn i hi, hn11 i hi, c0 i hi]
        cases asM S.ps a i with
        | true => exact ⟨rfl, rfl, Or.inr (Or.inl rfl)⟩
        | false => exact ⟨rfl, rfl, Or.inl rfl⟩
      · show asN a 0 S.ps = nI (cnt (fun i => rlF S F a 10 (S.ro.length * 60 + i) != 0) 0 60)
        rw [e10, as0]
      · show (0 : Int32) = nI (cnt (fun i => (rlF S F a 10 (S.ro.length * 60 + i) != 0) && !decide (rlF S F a 11 (S.ro.length * 60 + i) < 0)) 0 60)
        rw [cnt_zero (fun k _ hk => by rw [hn11 k (by omega)]; simp)]
        rfl
      · show decide (nI S.ro.length < e.2.1) = coB S.mv (nI i) S.mv.length
        rw [coB_end]
        exact decide_eq_false (hP i e he).2.2
      · have hi : i < S.ps.length := ltl he
        have h12 : rlF S F a 12 (S.ro.length * 60 + i) = 0 := u12 i (by omega)
        show opB (roN S a ct) i e = ((rlF S F a 12 (S.ro.length * 60 + i) != 0) && !coB S.mv (nI i) S.mv.length)
        rw [h12]
        have hz : asN a 0 S.ps = 0 := by
          by_cases hq : asN a 0 S.ps = 0 ∧ gaS a S.gf 0 10 0 = 0
          · exact hq.1
          · refine absurd ?_ hov
            show (if asN a 0 S.ps = 0 ∧ gaS a S.gf 0 10 0 = 0 then (3 : Int32) else 1) < 3
            rw [if_neg hq]
            decide
        have hz2 : cnt (asM S.ps a) 0 60 = 0 := Classical.byContradiction (fun q => nI_ne0 (Nat.pos_of_ne_zero q) (by omega) (as0.symm.trans hz))
        have hz3 : asM S.ps a i = false := by
          cases hq : asM S.ps a i with
          | false => rfl
          | true =>
            have := cnt_pos.mpr (anyN_i (P := asM S.ps a) (j := 60) (i := 0) (k := i) (by omega) (by omega) hq)
            omega
        unfold opB
        rw [show cof (roN S a ct).n (roN S a ct).f (nI i) = -2 from by have := c0 i (by omega); rw [hz3] at this; exact this]
        rfl
      · show (0 : Int32) = nI (cnt (fun i => rlF S F a 12 (S.ro.length * 60 + i) != 0) 0 60)
        rw [cnt_zero (fun k _ hk => by rw [show rlF S F a 12 (S.ro.length * 60 + k) = 0 from u12 k (by omega)]; rfl)]
        rfl
  · have hi : i < S.ps.length := ltl he
    show nI o < e.2.2 ↔ ∃ p, o < p ∧ p < (S.2.2.2.2.1 ++ [roN S a ct]).length ∧ ¬ rlF S F a 11 (p * 60 + i) < 0
    rw [hla, hC i e he o ho]
    constructor
    · rintro ⟨p, p1, p2, p3⟩
      exact ⟨p, p1, by omega, by rw [(oth p p2 i (by omega)).2.1]; exact p3⟩
    · rintro ⟨p, p1, p2, p3⟩
      by_cases hp : p = S.ro.length
      · refine absurd ?_ p3
        rw [hp, hn11 i (by omega)]
        decide
      · have hp2 : p < S.ro.length := by omega
        rw [(oth p hp2 i (by omega)).2.1] at p3
        exact ⟨p, p1, hp2, p3⟩
  · have h1' : S.ro.length + 1 ≤ o := hla ▸ h1
    obtain ⟨w1, w2, w3, w4⟩ := hU o (by omega) h2
    refine ⟨?_, w2, w3, w4⟩
    show upd (F 7) S.ro.length (gaS a S.gf 0 10 (F 7 S.ro.length)) o = 0
    rw [upd_o (by omega)]
    exact w1
