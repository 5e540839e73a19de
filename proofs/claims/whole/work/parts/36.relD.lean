/-! what keeps the relation: mayday, answered -/
def wtg (e : MdT) : Prop := e.op ≠ 0 ∧ e.tm = -1
theorem frB_any {op tm : Nat → Int32} {t : Nat} : ∀ {l : List MdT} {i : Nat}, (∀ (k : Nat) (e : MdT), l[k]? = some e → op (i + k) = e.op ∧ tm (i + k) = e.tm) → anyN (fun k => op k != 0 && tm k == nI t) i l.length = l.any (fun e => e.op != 0 && e.tm == nI t)
  | [], i, _ => rfl
  | e :: l, i, h => by
    have h0 := h 0 e rfl
    rw [Nat.add_zero] at h0
    rw [List.length_cons, anyN, List.any_cons, h0.1, h0.2, frB_any (l := l) (i := i + 1) (fun k e1 hk => by
      have := h (k + 1) e1 hk
      rw [show i + (k + 1) = i + 1 + k from by omega] at this
      exact this)]
theorem svI_no {op tm : Nat → Int32} {n m : Nat} (h : ¬ (op m ≠ 0 ∧ tm m < 0)) : ∀ {j t : Nat}, svI op n m j t tm = tm
  | 0, _ => rfl
  | j + 1, t => by rw [svI, if_neg h]
theorem svI_full {op tm : Nat → Int32} {n m : Nat} : ∀ {j t : Nat}, (∀ q, t ≤ q → q < t + j → frB op tm n q = false) → svI op n m j t tm = tm
  | 0, _, _ => rfl
  | j + 1, t, h => by
    rw [svI]
    split
    · rw [h t (Nat.le_refl _) (by omega), if_neg (by decide)]
      exact svI_full (fun q h1 h2 => h q (by omega) (by omega))
    · rfl
theorem svI_one {op tm : Nat → Int32} {n m : Nat} (h1 : op m ≠ 0) (h2 : tm m < 0) {t0 : Nat} (ht0 : t0 < 4) (hf : frB op tm n t0 = true) : ∀ {j t : Nat}, t ≤ t0 → t0 < t + j → (∀ q, t ≤ q → q < t0 → frB op tm n q = false) → svI op n m j t tm = upd tm m (nI t0)
  | 0, t, h3, h4, _ => by omega
  | j + 1, t, h3, h4, h5 => by
    rw [svI, if_pos ⟨h1, h2⟩]
    by_cases ht : t = t0
    · subst ht
      rw [hf, if_pos rfl]
      refine svI_no (fun z => ?_)
      have := z.2
      rw [upd_e] at this
      exact nI_pos (by omega) this
    · rw [h5 t (Nat.le_refl _) (by omega), if_neg (by decide)]
      exact svI_one h1 h2 ht0 hf (by omega) (by omega) (fun q q1 q2 => h5 q (by omega) q2)
theorem svO_same {op tm : Nat → Int32} {n : Nat} : ∀ {j i : Nat}, (∀ m, i ≤ m → m < i + j → ¬ (op m ≠ 0 ∧ tm m < 0) ∨ ∀ q, q < 4 → frB op tm n q = false) → svO op n j i tm = tm
  | 0, _, _ => rfl
  | j + 1, i, h => by
    rw [svO]
    have e1 : svI op n i 4 0 tm = tm := by
      rcases h i (Nat.le_refl _) (by omega) with z | z
      · exact svI_no z
      · exact svI_full (fun q _ q2 => z q (by omega))
    rw [e1]
    exact svO_same (fun m m1 m2 => h m (by omega) (by omega))
theorem svO_app (op : Nat → Int32) (n : Nat) : ∀ (j k i : Nat) (tm : Nat → Int32), svO op n (j + k) i tm = svO op n k (i + j) (svO op n j i tm)
  | 0, k, i, tm => by rw [Nat.zero_add, Nat.add_zero]; rfl
  | j + 1, k, i, tm => by
    rw [show j + 1 + k = (j + k) + 1 from by omega, svO, svO, svO_app op n j k (i + 1), show i + 1 + j = i + (j + 1) from by omega]
theorem sendL_cases (t : Int32) : ∀ (l : List MdT), (sendL t l = l ∧ ∀ (k : Nat) (e : MdT), l[k]? = some e → ¬ wtg e) ∨ ∃ (m : Nat) (e : MdT), l[m]? = some e ∧ wtg e ∧ (∀ (k : Nat) (f : MdT), k < m → l[k]? = some f → ¬ wtg f) ∧ sendL t l = l.set m (e.1, e.2.1, e.2.2.1, e.2.2.2.1, t)
  | [] => Or.inl ⟨rfl, fun k e h => by cases h⟩
  | e :: l => by
    by_cases hw : e.op ≠ 0 ∧ e.tm = -1
    · right
      exact ⟨0, e, rfl, hw, fun k f hk => by omega, by rw [sendL, if_pos hw]; rfl⟩
    · rw [sendL, if_neg hw]
      rcases sendL_cases t l with ⟨h1, h2⟩ | ⟨m, f, h1, h2, h3, h4⟩
      · left
        refine ⟨by rw [h1], fun k f hk => ?_⟩
        cases k with
        | zero => cases hk; exact hw
        | succ k => exact h2 k f hk
      · right
        refine ⟨m + 1, f, h1, h2, fun k g hk hg => ?_, by rw [h4]; rfl⟩
        cases k with
        | zero => cases hg; exact hw
        | succ k => exact h3 k g (by omega) hg
theorem any_tm {l : List MdT} {t : Nat} (h : ∀ (i : Nat) (e : MdT), l[i]? = some e → e.op = 0 → e.tm = -1) (ht : t < 4) : l.any (fun e => e.op != 0 && e.tm == nI t) = l.any (fun e => e.tm == nI t) := by
  cases hb : l.any (fun e => e.tm == nI t) with
  | true =>
    obtain ⟨e, he, h2⟩ := List.any_eq_true.mp hb
    refine List.any_eq_true.mpr ⟨e, he, ?_⟩
    obtain ⟨i, hi⟩ := List.mem_iff_getElem?.mp he
    have : e.op ≠ 0 := fun z => by
      have h3 := h i e hi z
      rw [beq_iff_eq.mp h2] at h3
      exact absurd (by rw [h3]; decide : nI t < 0) (nI_pos (by omega))
    rw [show (e.op != 0) = true from bne_iff_ne.mpr this, Bool.true_and]
    exact h2
  | false =>
    rw [List.any_eq_false] at hb ⊢
    intro e he
    have := hb e he
    simp at this ⊢
    exact fun _ => this
theorem any_f {l : List MdT} {t : Nat} (h : l.any (fun e => e.tm == nI t) = false) {i : Nat} {e : MdT} (he : l[i]? = some e) : e.tm ≠ nI t := fun z => by
  rw [List.any_eq_false] at h
  exact h e (List.mem_of_getElem? he) (beq_iff_eq.mpr z)
theorem any_t {l : List MdT} {t : Nat} (h : l.any (fun e => e.tm == nI t) = true) : ∃ (i : Nat) (e : MdT), l[i]? = some e ∧ e.tm = nI t := by
  obtain ⟨e, he, h2⟩ := List.any_eq_true.mp h
  obtain ⟨i, hi⟩ := List.mem_iff_getElem?.mp he
  exact ⟨i, e, hi, beq_iff_eq.mp h2⟩
theorem any_i {l : List MdT} {t i : Nat} {e : MdT} (he : l[i]? = some e) (h : e.tm = nI t) : l.any (fun e => e.tm == nI t) = true := List.any_eq_true.mpr ⟨e, List.mem_of_getElem? he, beq_iff_eq.mpr h⟩
theorem nIm1 {t : Nat} (ht : t < 4) : nI t ≠ -1 := fun z => absurd (by rw [z]; decide : nI t < 0) (nI_pos (by omega))
/-- the team that the class sends: the lowest that nobody has -/
theorem lft_low (l : List MdT) : (lft l = -1 ∧ ∀ t, t < 4 → l.any (fun e => e.tm == nI t) = true) ∨ ∃ t0, t0 < 4 ∧ lft l = nI t0 ∧ l.any (fun e => e.tm == nI t0) = false ∧ ∀ t, t < t0 → l.any (fun e => e.tm == nI t) = true := by
  have t4 : ∀ t, t < 4 → t = 0 ∨ t = 1 ∨ t = 2 ∨ t = 3 := fun t h => by omega
  unfold lft
  cases h0 : l.any (fun e => e.tm == 0) with
  | false => exact Or.inr ⟨0, by decide, by rw [if_pos rfl]; rfl, h0, fun t h => by omega⟩
  | true =>
    rw [if_neg (by decide)]
    cases h1 : l.any (fun e => e.tm == 1) with
    | false =>
      refine Or.inr ⟨1, by decide, by rw [if_pos rfl]; rfl, h1, fun t h => ?_⟩
      have : t = 0 := by omega
      subst this
      exact h0
    | true =>
      rw [if_neg (by decide)]
      cases h2 : l.any (fun e => e.tm == 2) with
      | false =>
        refine Or.inr ⟨2, by decide, by rw [if_pos rfl]; rfl, h2, fun t h => ?_⟩
        rcases (by omega : t = 0 ∨ t = 1) with rfl | rfl
        · exact h0
        · exact h1
      | true =>
        rw [if_neg (by decide)]
        cases h3 : l.any (fun e => e.tm == 3) with
        | false =>
          refine Or.inr ⟨3, by decide, by rw [if_pos rfl]; rfl, h3, fun t h => ?_⟩
          rcases (by omega : t = 0 ∨ t = 1 ∨ t = 2) with rfl | rfl | rfl
          · exact h0
          · exact h1
          · exact h2
        | true =>
          rw [if_neg (by decide)]
          refine Or.inl ⟨rfl, fun t h => ?_⟩
          rcases t4 t h with rfl | rfl | rfl | rfl
          · exact h0
          · exact h1
          · exact h2
          · exact h3
theorem neg_tm {e : MdT} (h : e.tm = -1 ∨ ∃ t, t < 4 ∧ e.tm = nI t) (h2 : e.tm < 0) : e.tm = -1 := by
  rcases h with h | ⟨t, ht, h⟩
  · exact h
  · rw [h] at h2
    exact absurd h2 (nI_pos (by omega))
theorem Rel.mayday {S : CS} {F : FT} (H : Rel S F) {a b : Int32} (hl : S.md.length < 30) : Rel (S.1, S.2.1, S.2.2.1, S.2.2.2.1, S.2.2.2.2.1, S.2.2.2.2.2.1, S.2.2.2.2.2.2.1 ++ [(a, b, S.1, 1, lft S.md)], S.2.2.2.2.2.2.2) (sF (mdF S F a b) 15 (svO (upd (F 14) S.md.length 1) (S.md.length + 1) (S.md.length + 1) 0 (upd (F 15) S.md.length (-1)))) := by
  obtain ⟨⟨b1, b2, b3, b4, b5, b6⟩, hG, hV, hP, hR, hC, hD, ⟨y1, y2, y3⟩, hE, hU⟩ := H
  have hop : ∀ k (e : MdT), (S.md ++ [((a, b, S.1, 1, -1) : MdT)])[k]? = some e → upd (F 14) S.md.length 1 k = e.op ∧ upd (F 15) S.md.length (-1) k = e.tm := by
    intro k e he
    rcases ga1 he with h | ⟨rfl, rfl⟩
    · have hk := ltl h
      rw [upd_o (by omega), upd_o (by omega)]
      exact ⟨(y1 k e h).1.1, (y1 k e h).1.2.1⟩
    · exact ⟨upd_e, upd_e⟩
  have hfr : ∀ t, t < 4 → frB (upd (F 14) S.md.length 1) (upd (F 15) S.md.length (-1)) (S.md.length + 1) t = !S.md.any (fun e => e.tm == nI t) := by
    intro t ht
    unfold frB
    have := frB_any (op := upd (F 14) S.md.length 1) (tm := upd (F 15) S.md.length (-1)) (t := t) (l := S.md ++ [((a, b, S.1, 1, -1) : MdT)]) (i := 0) (fun k e he => by rw [Nat.zero_add]; exact hop k e he)
    rw [List.length_append, List.length_singleton] at this
    rw [this, List.any_append, any_tm (fun i e he => (y1 i e he).2.1) ht]
    have e9 : ([((a, b, S.1, 1, -1) : MdT)].any fun (e : MdT) => e.op != 0 && e.tm == nI t) = false := by
      rw [List.any_cons, List.any_nil, Bool.or_false]
      show ((1 : Int32) != 0 && (-1 : Int32) == nI t) = false
      rw [show ((-1 : Int32) == nI t) = false from beq_eq_false_iff_ne.mpr (nIm1 ht).symm, Bool.and_false]
    rw [e9, Bool.or_false]
  have hs : svO (upd (F 14) S.md.length 1) (S.md.length + 1) (S.md.length + 1) 0 (upd (F 15) S.md.length (-1)) = upd (F 15) S.md.length (lft S.md) := by
    rw [svO_app _ _ S.md.length 1 0, svO_same (j := S.md.length) (fun m _ hm => ?_)]
    · show svI _ _ (0 + S.md.length) 4 0 _ = _
      rw [Nat.zero_add]
      rcases lft_low S.md with ⟨q1, q2⟩ | ⟨t0, q1, q2, q3, q4⟩
      · rw [q1]
        exact svI_full (fun q _ hq => by rw [hfr q (by omega), q2 q (by omega)]; rfl)
      · rw [q2, svI_one (t0 := t0) (by rw [upd_e]; decide) (by rw [upd_e]; decide) q1 (by rw [hfr t0 q1, q3]; rfl) (by omega) (by omega) (fun q _ hq => by rw [hfr q (by omega), q4 q hq]; rfl), upd_upd]
    · by_cases hw : upd (F 14) S.md.length 1 m ≠ 0 ∧ upd (F 15) S.md.length (-1) m < 0
      · right
        have hm2 : m < S.md.length := by omega
        obtain ⟨e, he⟩ : ∃ e, S.md[m]? = some e := ⟨_, List.getElem?_eq_getElem hm2⟩
        rw [upd_o (by omega), upd_o (by omega), (y1 m e he).1.1, (y1 m e he).1.2.1] at hw
        intro q hq
        obtain ⟨k, f, hf, hft⟩ := y3 m e he hw.1 (neg_tm (y1 m e he).2.2 hw.2) q hq
        rw [hfr q hq, any_i hf hft]
        rfl
      · exact Or.inl hw
  rw [hs]
  have hlow := lft_low S.md
  refine ⟨⟨b1, b2, b3, b4, zlen1 hl, b6⟩, hG, hV, hP, hR, hC, hD, ⟨fun i e he => ?_, fun i j e f he hf h1 h2 => ?_, fun i e he ho ht t ht4 => ?_⟩, hE, hU⟩
  · show (upd (F 14) S.md.length 1 i = e.op ∧ upd (F 15) S.md.length (lft S.md) i = e.tm ∧ upd (F 16) S.md.length a i = e.1 ∧ upd (F 17) S.md.length b i = e.2.1 ∧ upd (F 18) S.md.length S.sec i = e.2.2.1) ∧ _
    rcases ga1 he with h | ⟨rfl, rfl⟩
    · have hk := ltl h
      have hk2 : i < S.md.length := hk
      rw [upd_o (by omega), upd_o (by omega), upd_o (by omega), upd_o (by omega), upd_o (by omega)]
      exact y1 i e h
    · refine ⟨⟨upd_e, upd_e, upd_e, upd_e, upd_e⟩, fun z => absurd z (by decide : ¬ (1 : Int32) = 0), ?_⟩
      rcases hlow with z | ⟨t0, q1, q2, -⟩
      · exact Or.inl z.1
      · exact Or.inr ⟨t0, q1, q2⟩
  · rcases ga1 he with h | ⟨rfl, rfl⟩
    · rcases ga1 hf with h' | ⟨rfl, rfl⟩
      · exact y2 i j e f h h' h1 h2
      · have h1' : e.tm = lft S.md := h1
        rcases hlow with z | ⟨t0, q1, q2, q3, -⟩
        · exact absurd (h1'.trans z.1) h2
        · exact absurd (h1'.trans q2) (any_f q3 h)
    · rcases ga1 hf with h' | ⟨rfl, rfl⟩
      · have h1' : lft S.md = f.tm := h1
        have h2' : ¬ lft S.md = -1 := h2
        rcases hlow with z | ⟨t0, q1, q2, q3, -⟩
        · exact absurd z.1 h2'
        · exact absurd (h1'.symm.trans q2) (any_f q3 h')
      · rfl
  · have key : ∃ (j : Nat) (f : MdT), S.md[j]? = some f ∧ f.tm = nI t := by
      rcases ga1 he with h | ⟨rfl, rfl⟩
      · exact y3 i e h ho ht t ht4
      · have ht' : lft S.md = -1 := ht
        rcases hlow with z | ⟨t0, q1, q2, q3, -⟩
        · exact any_t (z.2 t ht4)
        · exact absurd (q2.symm.trans ht') (nIm1 q1)
    obtain ⟨j, f, hf, hft⟩ := key
    exact ⟨j, f, by show (S.2.2.2.2.2.2.1 ++ _)[j]? = some f; rw [List.getElem?_append_left (ltl hf)]; exact hf, hft⟩
theorem Rel.answered {S : CS} {F : FT} (H : Rel S F) {j : Nat} {e0 : MdT} (he0 : S.md[j]? = some e0) (hop0 : ¬ e0.op = 0) : Rel (S.1, S.2.1, S.2.2.1, S.2.2.2.1, S.2.2.2.2.1, S.2.2.2.2.2.1, (if e0.tm = -1 then S.2.2.2.2.2.2.1.set j (e0.1, e0.2.1, e0.2.2.1, 0, -1) else sendL e0.tm (S.2.2.2.2.2.2.1.set j (e0.1, e0.2.1, e0.2.2.1, 0, -1))), S.2.2.2.2.2.2.2) (sF (anF F j) 15 (svO (upd (F 14) j 0) S.md.length S.md.length 0 (upd (F 15) j (-1)))) := by
  obtain ⟨⟨b1, b2, b3, b4, b5, b6⟩, hG, hV, hP, hR, hC, hD, ⟨y1, y2, y3⟩, hE, hU⟩ := H
  have hj : j < S.md.length := ltl he0
  generalize hl' : S.2.2.2.2.2.2.1.set j ((e0.1, e0.2.1, e0.2.2.1, 0, -1) : MdT) = l'
  have hlen : l'.length = S.md.length := by rw [← hl']; exact List.length_set ..
  -- the list with the mayday ended
  have get' : ∀ (k : Nat) (e : MdT), l'[k]? = some e → (k = j ∧ e = (e0.1, e0.2.1, e0.2.2.1, 0, -1)) ∨ (k ≠ j ∧ S.md[k]? = some e) := fun k e he => by
    rw [← hl'] at he
    rcases gs1 he with ⟨h1, h2, -⟩ | h
    · exact Or.inl ⟨h1, h2⟩
    · exact Or.inr h
  have get2 : ∀ (k : Nat) (e : MdT), k ≠ j → S.md[k]? = some e → l'[k]? = some e := fun k e hk he => by
    rw [← hl']
    show (S.md.set j _)[k]? = some e
    rw [List.getElem?_set_ne (Ne.symm hk)]
    exact he
  have val : ∀ (k : Nat) (e : MdT), l'[k]? = some e → upd (F 14) j 0 k = e.op ∧ upd (F 15) j (-1) k = e.tm ∧ F 16 k = e.1 ∧ F 17 k = e.2.1 ∧ F 18 k = e.2.2.1 := fun k e he => by
    rcases get' k e he with ⟨rfl, rfl⟩ | ⟨hk, h⟩
    · obtain ⟨⟨-, -, v3, v4, v5⟩, -⟩ := y1 k e0 he0
      exact ⟨upd_e, upd_e, v3, v4, v5⟩
    · rw [upd_o hk, upd_o hk]
      exact (y1 k e h).1
  have op0 : ∀ (k : Nat) (e : MdT), l'[k]? = some e → e.op = 0 → e.tm = -1 := fun k e he hz => by
    rcases get' k e he with ⟨rfl, rfl⟩ | ⟨hk, h⟩
    · rfl
    · exact (y1 k e h).2.1 hz
  have tmr : ∀ (k : Nat) (e : MdT), l'[k]? = some e → e.tm = -1 ∨ ∃ t, t < 4 ∧ e.tm = nI t := fun k e he => by
    rcases get' k e he with ⟨rfl, rfl⟩ | ⟨hk, h⟩
    · exact Or.inl rfl
    · exact (y1 k e h).2.2
  have dis : ∀ (i k : Nat) (e f : MdT), l'[i]? = some e → l'[k]? = some f → e.tm = f.tm → ¬ e.tm = -1 → i = k := fun i k e f he hf h1 h2 => by
    rcases get' i e he with ⟨rfl, rfl⟩ | ⟨hi, h⟩
    · exact absurd rfl h2
    · rcases get' k f hf with ⟨rfl, rfl⟩ | ⟨hk, h'⟩
      · exact absurd h1 h2
      · exact y2 i k e f h h' h1 h2
  have wt : ∀ (k : Nat) (e : MdT), l'[k]? = some e → wtg e → k ≠ j ∧ S.md[k]? = some e := fun k e he hw => by
    rcases get' k e he with ⟨rfl, rfl⟩ | h
    · exact absurd rfl hw.1
    · exact h
  -- somebody waits: all teams but the freed one are out
  have taken : ∀ (k : Nat) (e : MdT), l'[k]? = some e → wtg e → ∀ t, t < 4 → nI t ≠ e0.tm → l'.any (fun e => e.tm == nI t) = true := fun k e he hw t ht hne => by
    obtain ⟨hk, h⟩ := wt k e he hw
    obtain ⟨q, f, hf, hft⟩ := y3 k e h hw.1 hw.2 t ht
    refine any_i (get2 q f (fun z => ?_) hf) hft
    subst z
    rw [he0] at hf
    cases hf
    exact hne hft.symm
  have hfr : ∀ t, t < 4 → frB (upd (F 14) j 0) (upd (F 15) j (-1)) S.md.length t = !l'.any (fun e => e.tm == nI t) := by
    intro t ht
    unfold frB
    rw [← hlen, frB_any (l := l') (i := 0) (fun k e he => by rw [Nat.zero_add]; exact ⟨(val k e he).1, (val k e he).2.1⟩), any_tm op0 ht]
  -- the outcome: the new list and the teams in the array
  have out : ∃ (l2 : List MdT) (tm2 : Nat → Int32), (if e0.tm = -1 then l' else sendL e0.tm l') = l2 ∧ svO (upd (F 14) j 0) S.md.length S.md.length 0 (upd (F 15) j (-1)) = tm2 ∧ l2.length = l'.length ∧ ((l2 = l' ∧ tm2 = upd (F 15) j (-1) ∧ ∀ (k : Nat) (e : MdT), l'[k]? = some e → wtg e → ∀ t, t < 4 → l'.any (fun e => e.tm == nI t) = true) ∨ (∃ (m0 : Nat) (e : MdT) (t0 : Nat), t0 < 4 ∧ e0.tm = nI t0 ∧ l'[m0]? = some e ∧ wtg e ∧ l2 = l'.set m0 (e.1, e.2.1, e.2.2.1, e.2.2.2.1, nI t0) ∧ tm2 = upd (upd (F 15) j (-1)) m0 (nI t0) ∧ l'.any (fun e => e.tm == nI t0) = false)) := by
    by_cases hm : e0.tm = -1
    · rw [if_pos hm]
      have full : ∀ (k : Nat) (e : MdT), l'[k]? = some e → wtg e → ∀ t, t < 4 → l'.any (fun e => e.tm == nI t) = true := fun k e he hw t ht => taken k e he hw t ht (by rw [hm]; exact nIm1 ht)
      refine ⟨l', _, rfl, rfl, rfl, Or.inl ⟨rfl, svO_same (fun m _ hm2 => ?_), full⟩⟩
      by_cases hw : upd (F 14) j 0 m ≠ 0 ∧ upd (F 15) j (-1) m < 0
      · right
        obtain ⟨e, he⟩ : ∃ e, l'[m]? = some e := ⟨_, List.getElem?_eq_getElem (by omega)⟩
        rw [(val m e he).1, (val m e he).2.1] at hw
        intro q hq
        rw [hfr q hq, full m e he ⟨hw.1, neg_tm (tmr m e he) hw.2⟩ q hq]
        rfl
      · exact Or.inl hw
    · rw [if_neg hm]
      obtain ⟨t0, ht0, het⟩ : ∃ t, t < 4 ∧ e0.tm = nI t := (y1 j e0 he0).2.2.resolve_left hm
      have nof : l'.any (fun e => e.tm == nI t0) = false := by
        cases hb : l'.any (fun e => e.tm == nI t0) with
        | false => rfl
        | true =>
          obtain ⟨k, f, hf, hft⟩ := any_t hb
          rcases get' k f hf with ⟨rfl, rfl⟩ | ⟨hk, h⟩
          · exact absurd hft.symm (nIm1 ht0)
          · exact absurd (y2 k j f e0 h he0 (hft.trans het.symm) (by rw [hft]; exact nIm1 ht0)) hk
      rcases sendL_cases e0.tm l' with ⟨h1, h2⟩ | ⟨m, e, h1, h2, h3, h4⟩
      · rw [h1]
        refine ⟨l', _, rfl, rfl, rfl, Or.inl ⟨rfl, svO_same (fun m _ hm2 => Or.inl (fun hw => ?_)), fun k e he hw => absurd hw (h2 k e he)⟩⟩
        obtain ⟨e, he⟩ : ∃ e, l'[m]? = some e := ⟨_, List.getElem?_eq_getElem (by omega)⟩
        rw [(val m e he).1, (val m e he).2.1] at hw
        exact h2 m e he ⟨hw.1, neg_tm (tmr m e he) hw.2⟩
      · rw [h4, het]
        refine ⟨_, _, rfl, rfl, List.length_set .., Or.inr ⟨m, e, t0, ht0, rfl, h1, h2, rfl, ?_, nof⟩⟩
        have hm1 : m < S.md.length := by rw [← hlen]; exact ltl h1
        have e7 : svO (upd (F 14) j 0) S.md.length m 0 (upd (F 15) j (-1)) = upd (F 15) j (-1) := svO_same (fun k _ hk => Or.inl (fun hw => by
          obtain ⟨f, hf⟩ : ∃ f, l'[k]? = some f := ⟨_, List.getElem?_eq_getElem (by omega)⟩
          rw [(val k f hf).1, (val k f hf).2.1] at hw
          exact h3 k f (by omega) hf ⟨hw.1, neg_tm (tmr k f hf) hw.2⟩))
        have e6 : svI (upd (F 14) j 0) S.md.length m 4 0 (upd (F 15) j (-1)) = upd (upd (F 15) j (-1)) m (nI t0) := by
          refine svI_one (by rw [(val m e h1).1]; exact h2.1) (by rw [(val m e h1).2.1, h2.2]; decide) ht0 (by rw [hfr t0 ht0, nof]; rfl) (by omega) (by omega) (fun q _ hq => ?_)
          rw [hfr q (by omega), taken m e h1 h2 q (by omega) (by rw [het]; exact fun z => by have := (nI_eq (by omega) (by omega)).mp z; omega)]
          rfl
        have e5 : svO (upd (F 14) j 0) S.md.length S.md.length 0 (upd (F 15) j (-1)) = svO (upd (F 14) j 0) S.md.length (S.md.length - (m + 1)) (m + 1) (upd (upd (F 15) j (-1)) m (nI t0)) := by
          have := svO_app (upd (F 14) j 0) S.md.length m (S.md.length - m) 0 (upd (F 15) j (-1))
          rw [show m + (S.md.length - m) = S.md.length from by omega, e7, Nat.zero_add, show S.md.length - m = (S.md.length - (m + 1)) + 1 from by omega, svO, e6] at this
          exact this
        rw [e5]
        refine svO_same (fun k _ hk => Or.inr (fun q hq => ?_))
        unfold frB
        rw [Bool.not_eq_false']
        by_cases hqt : q = t0
        · subst hqt
          refine anyN_i (k := m) (by omega) (by omega) ?_
          show (upd (F 14) j 0 m != 0 && upd (upd (F 15) j (-1)) m (nI q) m == nI q) = true
          rw [upd_e, beq_self_eq_true, Bool.and_true, (val m e h1).1]
          exact bne_iff_ne.mpr h2.1
        · obtain ⟨k2, f, hf, hft⟩ := any_t (taken m e h1 h2 q hq (by rw [het]; exact fun z => hqt ((nI_eq (by omega) (by omega)).mp z)))
          have hk2 : k2 < S.md.length := by rw [← hlen]; exact ltl hf
          have hkm : k2 ≠ m := fun z => by
            subst z
            rw [h1] at hf
            cases hf
            exact nIm1 hq (hft.symm.trans h2.2)
          refine anyN_i (k := k2) (by omega) (by omega) ?_
          show (upd (F 14) j 0 k2 != 0 && upd (upd (F 15) j (-1)) m (nI t0) k2 == nI q) = true
          rw [upd_o hkm, (val k2 f hf).1, (val k2 f hf).2.1, hft, beq_self_eq_true, Bool.and_true]
          refine bne_iff_ne.mpr (fun z => ?_)
          exact nIm1 hq (hft.symm.trans (op0 k2 f hf z))
  obtain ⟨l2, tm2, o1, o2, o3, o4⟩ := out
  rw [o1, o2]
  have hl2 : l2.length ≤ 30 := by omega
  refine ⟨⟨b1, b2, b3, b4, hl2, b6⟩, hG, hV, hP, hR, hC, hD, ?_, hE, hU⟩
  rcases o4 with ⟨rfl, rfl, o5⟩ | ⟨m0, e, t0, ht0, het, h1, h2, rfl, rfl, nof⟩
  · refine ⟨fun i e he => ⟨val i e he, op0 i e he, tmr i e he⟩, dis, fun i e he ho ht t ht4 => any_t (o5 i e he ⟨ho, ht⟩ t ht4)⟩
  · refine ⟨fun i f hf => ?_, fun i k f f' hf hf' q1 q2 => ?_, fun i f hf ho ht t ht4 => ?_⟩
    · show (upd (F 14) j 0 i = f.op ∧ upd (upd (F 15) j (-1)) m0 (nI t0) i = f.tm ∧ F 16 i = f.1 ∧ F 17 i = f.2.1 ∧ F 18 i = f.2.2.1) ∧ _
      rcases gs1 hf with ⟨rfl, rfl, -⟩ | ⟨him, h⟩
      · obtain ⟨v1, v2, v3⟩ := val i e h1
        exact ⟨⟨v1, upd_e, v3⟩, fun z => absurd z h2.1, Or.inr ⟨t0, ht0, rfl⟩⟩
      · rw [upd_o him]
        exact ⟨val i f h, op0 i f h, tmr i f h⟩
    · rcases gs1 hf with ⟨rfl, rfl, -⟩ | ⟨him, h⟩
      · rcases gs1 hf' with ⟨rfl, rfl, -⟩ | ⟨hkm, h'⟩
        · rfl
        · exact absurd (show f'.tm = nI t0 from q1.symm) (any_f nof h')
      · rcases gs1 hf' with ⟨rfl, rfl, -⟩ | ⟨hkm, h'⟩
        · exact absurd (show f.tm = nI t0 from q1) (any_f nof h)
        · exact dis i k f f' h h' q1 q2
    · rcases gs1 hf with ⟨rfl, rfl, -⟩ | ⟨him, h⟩
      · exact absurd (show nI t0 = -1 from ht) (nIm1 ht0)
      · by_cases htt : t = t0
        · subst htt
          exact ⟨m0, (e.1, e.2.1, e.2.2.1, e.2.2.2.1, nI t), by show (l'.set m0 _)[m0]? = some _; rw [List.getElem?_set_self (ltl h1)], rfl⟩
        · obtain ⟨k2, f2, hf2, hft⟩ := any_t (taken i f h ⟨ho, ht⟩ t ht4 (by rw [het]; exact fun z => htt ((nI_eq (by omega) (by omega)).mp z)))
          have hkm : k2 ≠ m0 := fun z => by
            subst z
            rw [h1] at hf2
            cases hf2
            exact nIm1 ht4 (hft.symm.trans h2.2)
          exact ⟨k2, f2, by show (l'.set m0 _)[k2]? = some f2; rw [List.getElem?_set_ne (Ne.symm hkm)]; exact hf2, hft⟩
