/-! what keeps the relation: person, enter, leave, guests, seen -/
theorem ga1 {α : Type} {l : List α} {e x : α} {i : Nat} (h : (l ++ [e])[i]? = some x) : l[i]? = some x ∨ (i = l.length ∧ x = e) := by
  rw [List.getElem?_append] at h
  split at h
  · exact Or.inl h
  · next hj =>
    rw [List.getElem?_singleton] at h
    split at h
    · next h0 =>
      cases h
      exact Or.inr ⟨by omega, rfl⟩
    · cases h
theorem gs1 {α : Type} {l : List α} {e x : α} {i j : Nat} (h : (l.set i e)[j]? = some x) : (j = i ∧ x = e ∧ i < l.length) ∨ (j ≠ i ∧ l[j]? = some x) := by
  by_cases hji : j = i
  · subst hji
    left
    have hl : j < l.length := by
      have := (List.getElem?_eq_some_iff.mp h).1
      rw [List.length_set] at this
      exact this
    rw [List.getElem?_set_self hl] at h
    cases h
    exact ⟨rfl, rfl, hl⟩
  · right
    rw [List.getElem?_set_ne (Ne.symm hji)] at h
    exact ⟨hji, h⟩
theorem ltl {α : Type} {l : List α} {i : Nat} {x : α} (h : l[i]? = some x) : i < l.length := (List.getElem?_eq_some_iff.mp h).1
theorem upd_e {f : Nat → Int32} {n : Nat} {v : Int32} : upd f n v n = v := if_pos rfl
theorem upd_o {f : Nat → Int32} {n k : Nat} {v : Int32} (h : k ≠ n) : upd f n v k = f k := if_neg h
theorem cof_out {n i : Nat} {f : Nat → Int32} (h : n ≤ i) (hi : i < 2 ^ 31) : cof n f (nI i) = -2 := if_pos (Or.inr (nI_le h hi))
theorem cof_in {n i : Nat} {f : Nat → Int32} (h : i < n) (hn : n < 2 ^ 31) : cof n f (nI i) = f i := by
  rw [cof, if_neg, nI_clamp (by omega)]
  exact fun z => z.elim (nI_pos (by omega)) (nI_ge h hn)
theorem Rel.person {S : CS} {F : FT} (H : Rel S F) (hl : S.ps.length < 60) : Rel (S.1, S.2.1, S.2.2.1 ++ [(-1, 0, -1)], S.2.2.2) F := by
  obtain ⟨⟨b1, b2⟩, hG, ⟨hv, hmv⟩, hP, hR, hC, hD, hY, hE, hU⟩ := H
  have hla : (S.2.2.1 ++ [((-1, 0, -1) : PeT)]).length = S.ps.length + 1 := by rw [List.length_append]; rfl
  have nomv : ∀ e ∈ S.mv, e.1 ≠ nI S.ps.length := fun e he z => by
    obtain ⟨-, i, hi, h1⟩ := hmv e he
    rw [h1] at z
    have := (nI_eq (by omega) (by omega)).mp z
    omega
  refine ⟨⟨zlen1 hl, b2⟩, hG, ⟨hv, fun e he => ?_⟩, ?_, ?_, ?_, hD, hY, hE, hU⟩
  · obtain ⟨q1, i, hi, h1⟩ := hmv e he
    exact ⟨q1, i, by show i < (S.2.2.1 ++ [((-1, 0, -1) : PeT)]).length; omega, h1⟩
  · intro i e he
    rcases ga1 he with h | ⟨rfl, rfl⟩
    · exact hP i e h
    · refine ⟨(wasF_none (fun e he => nomv e (List.mem_reverse.mp he))).symm, Or.inl rfl, ?_⟩
      exact Int32.not_lt.mpr (nI_pos' (by have := b2.2.1; show S.ro.length < 2 ^ 31; omega))
  · intro o r hr
    obtain ⟨r1, r2, r3, r4, ⟨fm, f1, f2, f3⟩, r6, r7⟩ := hR o r hr
    refine ⟨⟨r1.1, by have := r1.2.1; show r.n ≤ (S.2.2.1 ++ [((-1, 0, -1) : PeT)]).length; omega, r1.2.2⟩, r2, r3, r4, ⟨fm, f1, f2, fun i e he => ?_⟩, r6, fun i hi hq => r7 i hi (hq.imp id (fun z => by have z2 : (S.2.2.1 ++ [((-1, 0, -1) : PeT)]).length ≤ i := z; omega))⟩
    rcases ga1 he with h | ⟨rfl, rfl⟩
    · exact f3 i e h
    · have ho : o < S.ro.length := ltl hr
      refine ⟨fun _ => ?_, fun hn => ?_⟩
      · rw [coB_none nomv]
        exact decide_eq_false (nI_pos (by have := b2.2.1; omega))
      · have e1 : F 12 (o * 60 + S.ps.length) = 0 := r7 _ hl (Or.inr (Nat.le_refl _))
        show opB r S.ps.length (-1, 0, -1) = ((F 12 (o * 60 + S.ps.length) != 0) && !coB S.mv (nI S.ps.length) fm)
        rw [e1, opB, cof_out r1.2.1 (by omega)]
        rfl
  · intro i e he o ho
    rcases ga1 he with h | ⟨rfl, rfl⟩
    · exact hC i e h o ho
    · refine ⟨fun z => absurd z ?_, fun ⟨p, p1, p2, p3⟩ => absurd ?_ p3⟩
      · show ¬ nI o < -1
        intro z
        exact absurd (Int32.lt_trans z (by decide : (-1 : Int32) < 0)) (nI_pos (by omega))
      · have p2' : p < S.ro.length := p2
        obtain ⟨r, hr⟩ : ∃ r, S.ro[p]? = some r := ⟨_, List.getElem?_eq_getElem p2'⟩
        obtain ⟨r1, -, r3, -⟩ := hR p r hr
        show F 11 (p * 60 + S.ps.length) < 0
        rw [(r3 _ hl).2.1, cofN, cof_out r1.2.1 (by omega), if_pos rfl]
        decide
theorem Rel.move {S : CS} {F : FT} (H : Rel S F) {i : Nat} {e0 : PeT} {b x2 : Int32} (he0 : S.ps[i]? = some e0) (hl : S.mv.length < 300) (hb : (¬ b < 0 ∧ b < 10 ∧ x2 = e0.2.1) ∨ (b = -1 ∧ x2 = nI S.ro.length)) : Rel (S.1, S.2.1, S.2.2.1.set i (b, x2, e0.2.2), S.2.2.2.1 ++ [(nI i, b, S.1)], S.2.2.2.2) (mvF F S.mv.length (nI i) b S.1) := by
  obtain ⟨⟨b1, b2, b3, b4⟩, hG, ⟨hv, hmv⟩, hP, hR, hC, hD, hY, hE, hU⟩ := H
  have hi := ltl he0
  have hls : (S.2.2.1.set i ((b, x2, e0.2.2) : PeT)).length = S.ps.length := List.length_set ..
  have hla : (S.2.2.2.1 ++ [((nI i, b, S.1) : MvT)]).length = S.mv.length + 1 := by rw [List.length_append]; rfl
  refine ⟨⟨zlen2 b1, zlen1 hl, b3, b4⟩, hG, ⟨⟨zlen1 hl, fun k e hk => ?_⟩, fun e he => ?_⟩, ?_, ?_, ?_, hD, hY, hE, hU⟩
  · show upd (F 1) S.mv.length (nI i) k = e.1 ∧ upd (F 2) S.mv.length b k = e.2.1 ∧ upd (F 3) S.mv.length S.1 k = e.2.2
    rcases ga1 hk with h | ⟨rfl, rfl⟩
    · have := ltl h
      rw [upd_o (by show k ≠ S.mv.length; have : k < S.mv.length := this; omega), upd_o (by show k ≠ S.mv.length; have : k < S.mv.length := this; omega), upd_o (by show k ≠ S.mv.length; have : k < S.mv.length := this; omega)]
      exact hv.2 k e h
    · exact ⟨upd_e, upd_e, upd_e⟩
  · rcases List.mem_append.mp he with h | h
    · obtain ⟨q1, j, hj, h1⟩ := hmv e h
      exact ⟨q1, j, by show j < (S.2.2.1.set i ((b, x2, e0.2.2) : PeT)).length; omega, h1⟩
    · cases List.mem_singleton.mp h
      exact ⟨Int32.le_refl _, i, by show i < (S.2.2.1.set i ((b, x2, e0.2.2) : PeT)).length; omega, rfl⟩
  · intro j e he
    rcases gs1 he with ⟨rfl, rfl, -⟩ | ⟨hji, h⟩
    · refine ⟨?_, ?_, ?_⟩
      · show b = wasF (nI j) S.1 (S.2.2.2.1 ++ [((nI j, b, S.1) : MvT)]).reverse
        rw [wasF_app, if_pos ⟨rfl, Int32.le_refl _⟩]
      · rcases hb with q | q
        · exact Or.inr ⟨q.1, q.2.1⟩
        · exact Or.inl q.1
      · show ¬ nI S.ro.length < x2
        rcases hb with q | q
        · rw [q.2.2]
          exact (hP j e0 he0).2.2
        · rw [q.2]
          exact Int32.lt_irrefl
    · refine ⟨?_, (hP j e h).2⟩
      show e.1 = wasF (nI j) S.1 (S.2.2.2.1 ++ [((nI i, b, S.1) : MvT)]).reverse
      have hj := ltl h
      rw [wasF_app, if_neg (fun z => hji ((nI_eq (by omega) (by have : j < S.ps.length := hj; omega)).mp z.1).symm)]
      exact (hP j e h).1
  · intro o r hr
    obtain ⟨r1, r2, r3, r4, ⟨fm, f1, f2, f3⟩, r6, r7⟩ := hR o r hr
    have ho := ltl hr
    refine ⟨⟨r1.1, by have := r1.2.1; show r.n ≤ (S.2.2.1.set i ((b, x2, e0.2.2) : PeT)).length; omega, r1.2.2⟩, r2, r3, r4, ⟨fm, by show fm ≤ (S.2.2.2.1 ++ [((nI i, b, S.1) : MvT)]).length; omega, f2, fun j e he => ?_⟩, r6, fun j hj hq => r7 j hj (hq.imp id (fun z => by have z2 : (S.2.2.1.set i ((b, x2, e0.2.2) : PeT)).length ≤ j := z; omega))⟩
    show (r.rd < 3 → decide (nI o < e.2.1) = coB (S.2.2.2.1 ++ [((nI i, b, S.1) : MvT)]) (nI j) fm) ∧ (¬ r.rd < 3 → opB r j e = ((F 12 (o * 60 + j) != 0) && !coB (S.2.2.2.1 ++ [((nI i, b, S.1) : MvT)]) (nI j) fm))
    rw [coB_app f1]
    rcases gs1 he with ⟨rfl, rfl, -⟩ | ⟨hji, h⟩
    · rcases hb with q | q
      · have f := f3 j e0 he0
        have eq : (((nI j, b, S.1) : MvT).1 == nI j && decide (((nI j, b, S.1) : MvT).2.1 < 0)) = false := by
          show (nI j == nI j && decide (b < 0)) = false
          rw [decide_eq_false q.1, Bool.and_false]
        rw [eq, Bool.or_false]
        obtain ⟨-, -, rfl⟩ := q
        exact f
      · obtain ⟨rfl, rfl⟩ := q
        have eq : (((nI j, -1, S.1) : MvT).1 == nI j && decide (((nI j, -1, S.1) : MvT).2.1 < 0)) = true := by
          show (nI j == nI j && decide ((-1 : Int32) < 0)) = true
          rw [beq_self_eq_true]
          decide
        rw [eq, Bool.or_true, Bool.not_true, Bool.and_false]
        have hlt : nI o < nI S.ro.length := nI_lt ho (by omega)
        refine ⟨fun _ => decide_eq_true hlt, fun _ => ?_⟩
        rw [opB, r1.1]
        show (cof r.n r.f (nI j) == -1 && !decide (nI o < nI S.ro.length)) = false
        rw [decide_eq_true hlt, Bool.not_true, Bool.and_false]
    · have hj := ltl h
      have eq : (((nI i, b, S.1) : MvT).1 == nI j && decide (((nI i, b, S.1) : MvT).2.1 < 0)) = false := by
        show (nI i == nI j && decide (b < 0)) = false
        rw [show (nI i == nI j) = false from beq_eq_false_iff_ne.mpr (fun z => hji ((nI_eq (by omega) (by have : j < S.ps.length := hj; omega)).mp z).symm), Bool.false_and]
      rw [eq, Bool.or_false]
      exact f3 j e h
  · intro j e he o ho
    rcases gs1 he with ⟨rfl, rfl, -⟩ | ⟨hji, h⟩
    · exact hC j e0 he0 o ho
    · exact hC j e h o ho
theorem Rel.guests {S : CS} {F : FT} (H : Rel S F) {j : Nat} {b : Int32} (h0 : ¬ b < 0) (h1 : b ≤ 999) : Rel (S.1, upd S.2.1 j b, S.2.2) (sF F 0 (upd (F 0) j b)) := by
  obtain ⟨hB, hG, hV, hP, hR, hC, hD, hY, hE, hU⟩ := H
  refine ⟨hB, fun q hq => ?_, hV, hP, hR, hC, hD, hY, hE, hU⟩
  show upd (F 0) j b q = upd S.2.1 j b q ∧ ¬ upd S.2.1 j b q < 0 ∧ upd S.2.1 j b q ≤ 999
  by_cases hj : q = j
  · rw [hj, upd_e, upd_e]
    exact ⟨rfl, h0, h1⟩
  · rw [upd_o hj, upd_o hj]
    exact hG q hq
theorem Rel.seen {S : CS} {F : FT} (H : Rel S F) {j : Nat} {r : RoT} {v : Int32} (hr : S.ro[j]? = some r) : Rel (S.1, S.2.1, S.2.2.1, S.2.2.2.1, S.2.2.2.2.1.set j (r.1, r.2.1, r.2.2.1, r.2.2.2.1, r.2.2.2.2.1, r.2.2.2.2.2.1, v, r.2.2.2.2.2.2.2), S.2.2.2.2.2) (sF F 8 (upd (F 8) j v)) := by
  obtain ⟨⟨b1, b2, b3, b4⟩, hG, hV, hP, hR, hC, hD, hY, hE, hU⟩ := H
  have hls : (S.2.2.2.2.1.set j ((r.1, r.2.1, r.2.2.1, r.2.2.2.1, r.2.2.2.2.1, r.2.2.2.2.2.1, v, r.2.2.2.2.2.2.2) : RoT)).length = S.ro.length := List.length_set ..
  have hj := ltl hr
  refine ⟨⟨b1, b2, zlen2 b3, b4⟩, hG, hV, fun i e he => ?_, fun o r1 hr1 => ?_, fun i e he o ho => ?_, hD, hY, hE, fun o h1 h2 => ?_⟩
  · obtain ⟨p1, p2, p3⟩ := hP i e he
    refine ⟨p1, p2, ?_⟩
    show ¬ nI (S.2.2.2.2.1.set j ((r.1, r.2.1, r.2.2.1, r.2.2.2.1, r.2.2.2.2.1, r.2.2.2.2.2.1, v, r.2.2.2.2.2.2.2) : RoT)).length < e.2.1
    rw [hls]
    exact p3
  · rcases gs1 hr1 with ⟨rfl, rfl, -⟩ | ⟨hji, h⟩
    · obtain ⟨r1, r2, r3⟩ := hR o r hr
      exact ⟨r1, ⟨r2.1, upd_e, r2.2.2⟩, r3⟩
    · obtain ⟨r4, r2, r3⟩ := hR o r1 h
      refine ⟨r4, ⟨r2.1, ?_, r2.2.2⟩, r3⟩
      show upd (F 8) j v o = r1.2.2.2.2.2.2.1
      rw [upd_o hji]
      exact r2.2.1
  · have := hC i e he o ho
    show nI o < e.2.2 ↔ ∃ p, o < p ∧ p < (S.2.2.2.2.1.set j ((r.1, r.2.1, r.2.2.1, r.2.2.2.1, r.2.2.2.2.1, r.2.2.2.2.2.1, v, r.2.2.2.2.2.2.2) : RoT)).length ∧ ¬ F 11 (p * 60 + i) < 0
    rw [hls]
    exact this
  · have h1' : S.ro.length ≤ o := hls ▸ h1
    obtain ⟨u1, u2, u3⟩ := hU o h1' h2
    refine ⟨u1, ?_, u3⟩
    show upd (F 8) j v o = 0
    rw [upd_o (by omega)]
    exact u2
