/-! TAGS AND LISTS OF OBJECTS. A tag (kind, place) for every address; kind 0 is not the class's. -/
abbrev Tg : Type := Nat → Nat × Nat
/-- what a call of the class leaves: old tags stay, cells of kind 0 stay, no cell goes -/
def Ext (T : Tg) (h : Hp) (T1 : Tg) (h1 : Hp) : Prop := (∀ q, h q ≠ none → T1 q = T q) ∧ (∀ q, h q ≠ none → (T q).1 = 0 → h1 q = h q) ∧ (∀ q, h q ≠ none → h1 q ≠ none)
theorem Ext.rf {T : Tg} {h : Hp} : Ext T h T h := ⟨fun _ _ => rfl, fun _ _ _ => rfl, fun _ q => q⟩
theorem Ext.trans {T T1 T2 : Tg} {h h1 h2 : Hp} (a : Ext T h T1 h1) (b : Ext T1 h1 T2 h2) : Ext T h T2 h2 :=
  ⟨fun q hq => (b.1 q (a.2.2 q hq)).trans (a.1 q hq), fun q hq hk => (b.2.1 q (a.2.2 q hq) (by rw [a.1 q hq]; exact hk)).trans (a.2.1 q hq hk), fun q hq => b.2.2 q (a.2.2 q hq)⟩
theorem Ext.put {T : Tg} {h : Hp} {a : Nat} {e : va_E} (hk : (T a).1 ≠ 0) : Ext T h T (zu h a e) :=
  ⟨fun _ _ => rfl, fun q _ h0 => zu_n (fun z => hk (z ▸ h0)), fun q hq => by
    by_cases hqa : q = a
    · rw [hqa, zu_s]; exact fun z => by cases z
    · rw [zu_n hqa]; exact hq⟩
/-- a new cell gets a tag -/
def tg (T : Tg) (a : Nat) (t : Nat × Nat) : Tg := fun q => if q = a then t else T q
theorem tg_s {T : Tg} {a : Nat} {t : Nat × Nat} : tg T a t a = t := if_pos rfl
theorem tg_n {T : Tg} {a q : Nat} {t : Nat × Nat} (h : q ≠ a) : tg T a t q = T q := if_neg h
theorem Ext.new {T : Tg} {h : Hp} {a : Nat} {e : va_E} {t : Nat × Nat} (ha : h a = none) : Ext T h (tg T a t) (zu h a e) := by
  have key : ∀ q, h q ≠ none → q ≠ a := fun q hq z => hq (z ▸ ha)
  exact ⟨fun q hq => tg_n (key q hq), fun q hq _ => zu_n (key q hq), fun q hq => by rw [zu_n (key q hq)]; exact hq⟩
/-- the list at a, of kind kd, holds the objects at L, with these cells -/
def zLS (g : zG) (T : Tg) (h : Hp) (kd a : Nat) (L : List Nat) (cells : List va_E) : Prop := ∃ (dt n : Nat) (f : Nat → Option Nat) (mo : Int32),
  AL g h a dt n f mo L ∧ T a = (kd, 0) ∧ ((dt = g.ea ∧ L = []) ∨ T dt = (kd, 1)) ∧ L.length = cells.length ∧ ∀ (i y : Nat), L[i]? = some y → T y = (kd, 2 + i) ∧ h y = cells[i]?
section ZLR
variable {g : zG} {T T1 : Tg} {h h1 : Hp} {kd a : Nat} {L : List Nat} {cells : List va_E}
theorem zLS.len (hL : zLS g T h kd a L cells) : L.length = cells.length := by
  obtain ⟨dt, n, f, mo, a1, -, -, b4, -⟩ := hL
  exact b4
theorem zLS.lt (hL : zLS g T h kd a L cells) : cells.length ≤ 300 := by
  obtain ⟨dt, n, f, mo, a1, -, -, b4, -⟩ := hL
  rw [← b4]
  exact a1.2.1
theorem zLS.obj (hL : zLS g T h kd a L cells) : ∃ vs, h a = some (.inr (0, vs)) := by
  obtain ⟨dt, n, f, mo, a1, -⟩ := hL
  exact ⟨_, a1.1⟩
theorem zLS.ne (hL : zLS g T h kd a L cells) : h a ≠ none := by
  obtain ⟨vs, hv⟩ := hL.obj
  rw [hv]
  exact fun z => by cases z
theorem zLS.tag (hL : zLS g T h kd a L cells) : T a = (kd, 0) := by
  obtain ⟨dt, n, f, mo, -, b2, -⟩ := hL
  exact b2
/-- the object at place i -/
theorem zLS.at (hL : zLS g T h kd a L cells) {i : Nat} {e : va_E} (he : cells[i]? = some e) : ∃ y, L[i]? = some y ∧ h y = some e ∧ T y = (kd, 2 + i) := by
  obtain ⟨dt, n, f, mo, -, -, -, b4, b5⟩ := hL
  have hi : i < L.length := by rw [b4]; exact (List.getElem?_eq_some_iff.mp he).1
  obtain ⟨c1, c2⟩ := b5 i _ (List.getElem?_eq_getElem hi)
  exact ⟨_, List.getElem?_eq_getElem hi, c2.trans he, c1⟩
theorem zLS.el (hL : zLS g T h kd a L cells) {i y : Nat} (hy : L[i]? = some y) : T y = (kd, 2 + i) ∧ ∃ e, cells[i]? = some e ∧ h y = some e := by
  obtain ⟨dt, n, f, mo, -, -, -, b4, b5⟩ := hL
  obtain ⟨c1, c2⟩ := b5 i y hy
  have hi : i < cells.length := by rw [← b4]; exact (List.getElem?_eq_some_iff.mp hy).1
  exact ⟨c1, _, List.getElem?_eq_getElem hi, c2.trans (List.getElem?_eq_getElem hi)⟩
theorem zLS.elne (hL : zLS g T h kd a L cells) {i y : Nat} (hy : L[i]? = some y) : h y ≠ none := by
  obtain ⟨-, e, -, he⟩ := hL.el hy
  rw [he]
  exact fun z => by cases z
/-- what leaves the kind's cells alone leaves the list -/
theorem zLS.keep (hL : zLS g T h kd a L cells) (hT : ∀ q, h q ≠ none → T1 q = T q) (hh : ∀ q, h q ≠ none → (T q).1 = kd → h1 q = h q) : zLS g T1 h1 kd a L cells := by
  have hel : ∀ (i y : Nat), L[i]? = some y → h y ≠ none := fun i y hy => hL.elne hy
  have na := hL.ne
  obtain ⟨dt, n, f, mo, ⟨a1, a2, a3⟩, b2, b3, b4, b5⟩ := hL
  refine ⟨dt, n, f, mo, ⟨by rw [hh a na (by rw [b2])]; exact a1, a2, ?_⟩, by rw [hT a na]; exact b2, ?_, b4, fun i y hy => ?_⟩
  · rcases a3 with a3 | ⟨a3, a4, a5⟩
    · exact Or.inl a3
    · rcases b3 with b3 | b3
      · exact Or.inl b3
      · exact Or.inr ⟨a3, by rw [hh dt (by rw [a4]; exact fun z => by cases z) (by rw [b3])]; exact a4, a5⟩
  · rcases b3 with b3 | b3
    · exact Or.inl b3
    · rcases a3 with a3 | ⟨a3, a4, a5⟩
      · exact Or.inl a3
      · exact Or.inr (by rw [hT dt (by rw [a4]; exact fun z => by cases z)]; exact b3)
  · obtain ⟨c1, c2⟩ := b5 i y hy
    exact ⟨by rw [hT y (hel i y hy)]; exact c1, by rw [hh y (hel i y hy) (by rw [c1])]; exact c2⟩
/-- a cell of another kind is written -/
theorem zLS.put (hL : zLS g T h kd a L cells) {b : Nat} {e : va_E} (hb : (T b).1 ≠ kd) : zLS g T (zu h b e) kd a L cells := hL.keep (fun _ _ => rfl) (fun q _ hq => zu_n (fun z => hb (z ▸ hq)))
/-- a cell is made -/
theorem zLS.new (hL : zLS g T h kd a L cells) {b : Nat} {e : va_E} {t : Nat × Nat} (hb : h b = none) : zLS g (tg T b t) (zu h b e) kd a L cells := hL.keep (fun q hq => tg_n (fun z => hq (z ▸ hb))) (fun q hq _ => zu_n (fun z => hq (z ▸ hb)))
/-- an object of the list is written -/
theorem zLS.set (hL : zLS g T h kd a L cells) {i y : Nat} {e : va_E} (hy : L[i]? = some y) : zLS g T (zu h y e) kd a L (cells.set i e) := by
  obtain ⟨dt, n, f, mo, ⟨a1, a2, a3⟩, b2, b3, b4, b5⟩ := hL
  have hty := (b5 i y hy).1
  have hay : a ≠ y := by
    rintro rfl
    rw [b2] at hty
    have := congrArg Prod.snd hty
    simp at this
    omega
  have hi : i < cells.length := by rw [← b4]; exact (List.getElem?_eq_some_iff.mp hy).1
  refine ⟨dt, n, f, mo, ⟨by rw [zu_n hay]; exact a1, a2, ?_⟩, b2, b3, by rw [List.length_set]; exact b4, fun j z hz => ?_⟩
  · rcases a3 with a3 | ⟨a3, a4, a5⟩
    · exact Or.inl a3
    · rcases b3 with b3 | b3
      · exact Or.inl b3
      · refine Or.inr ⟨a3, ?_, a5⟩
        rw [zu_n]
        · exact a4
        · rintro rfl
          rw [b3] at hty
          have := congrArg Prod.snd hty
          simp at this
          omega
  · obtain ⟨c1, c2⟩ := b5 j z hz
    refine ⟨c1, ?_⟩
    by_cases hji : j = i
    · subst hji
      cases hz.symm.trans hy
      rw [zu_s, List.getElem?_set_self hi]
    · rw [zu_n, List.getElem?_set_ne (Ne.symm hji)]
      · exact c2
      · rintro rfl
        rw [c1] at hty
        have := congrArg Prod.snd hty
        simp at this
        omega
variable {PR : Option Value → Hp → Prop} {PX : String → Hp → Prop}
theorem cl_size (hL : zLS g T h kd a L cells) (k : PR (some (.int (nI cells.length))) h) : Ct g y_AL_size w_AL_size 1 0 0 [.ref a] h PR PX := by
  obtain ⟨dt, n, f, mo, a1, -, -, b4, -⟩ := hL
  rw [← b4] at k
  exact ct_AL_size a1 k
theorem cl_isEmpty (hL : zLS g T h kd a L cells) (k : PR (some (.int (if cells = [] then 1 else 0))) h) : Ct g y_AL_isEmpty w_AL_isEmpty 1 0 0 [.ref a] h PR PX := by
  obtain ⟨dt, n, f, mo, a1, -, -, b4, -⟩ := hL
  refine ct_AL_isEmpty a1 ?_
  have : (L = []) = (cells = []) := propext ⟨fun q => by rw [q] at b4; exact List.eq_nil_of_length_eq_zero b4.symm, fun q => by rw [q] at b4; exact List.eq_nil_of_length_eq_zero b4⟩
  rw [show (if L = [] then (1 : Int32) else 0) = (if cells = [] then 1 else 0) by simp only [this]]
  exact k
theorem cl_get (hL : zLS g T h kd a L cells) {i y : Nat} (hy : L[i]? = some y) (k : PR (some (.ref y)) h) : Ct g y_AL_get w_AL_get 3 0 0 [.ref a, .int (nI i)] h PR PX := by
  obtain ⟨dt, n, f, mo, a1, -⟩ := hL
  exact ct_AL_get a1 hy k
theorem cl_add {ci x : Nat} {q9 : vw_C} {vs : List Value} (hL : zLS g T h kd a L cells) (hl : cells.length < 300) (hc : zcl[ci]? = some q9) (hci : ci ≠ 0) (hcast : (q9.1, "java/lang/Object") ∈ zcast) (hcls : ∀ e ∈ cells, ∃ vs, e = .inr (ci, vs)) (hx : h x = some (.inr (ci, vs))) (hTx : T x = (kd, 2 + cells.length))
    (k : ∀ (h1 : Hp) (T1 : Tg), zLS g T1 h1 kd a (L ++ [x]) (cells ++ [.inr (ci, vs)]) → (∀ q, h q ≠ none → T1 q = T q) → (∀ q, h q ≠ none → T q ≠ (kd, 0) → T q ≠ (kd, 1) → h1 q = h q) → (∀ q, h q ≠ none → h1 q ≠ none) → PR (some (.int 1)) h1) : Ct g y_AL_add w_AL_add 7 1 450 [.ref a, .ref x] h PR PX := by
  have hL0 := hL
  obtain ⟨dt, n, f, mo, a1, b2, b3, b4, b5⟩ := hL
  refine ct_AL_add (ci := ci) (q9 := q9) (vs := vs) a1 (by omega) hc hci hcast (fun y hy => ?_) hx (fun h1 dt1 n1 f1 c1 c2 c3 => ?_)
  · obtain ⟨i, hi⟩ := List.getElem?_of_mem hy
    obtain ⟨-, e, he, hye⟩ := hL0.el hi
    obtain ⟨ws, rfl⟩ := hcls e (List.mem_of_getElem? he)
    exact ⟨ws, hye⟩
  · have hxn : h x ≠ none := by rw [hx]; exact fun z => by cases z
    have na := hL0.ne
    have hdt : h dt1 = none ∨ T dt1 = (kd, 1) := by
      rcases c3 with c3 | ⟨rfl, c3⟩
      · exact Or.inl c3
      · rcases b3 with b3 | b3
        · exact absurd b3.1 c3
        · exact Or.inr b3
    have hT1 : ∀ q, h q ≠ none → tg T dt1 (kd, 1) q = T q := by
      intro q hq
      by_cases hqd : q = dt1
      · subst hqd
        rw [tg_s]
        exact (hdt.resolve_left hq).symm
      · exact tg_n hqd
    have hkeep : ∀ q, h q ≠ none → T q ≠ (kd, 0) → T q ≠ (kd, 1) → h1 q = h q := by
      intro q hq h0 h9
      refine c2 q (fun z => h0 (by rw [z]; exact b2)) (fun z => ?_)
      rcases hdt with hd | hd
      · exact hq (by rw [z]; exact hd)
      · exact h9 (by rw [z]; exact hd)
    have htag : ∀ (i y : Nat), L[i]? = some y → T y ≠ (kd, 0) ∧ T y ≠ (kd, 1) := by
      intro i y hy
      rw [(b5 i y hy).1]
      constructor <;> intro z <;> have := congrArg Prod.snd z <;> simp at this <;> omega
    have hxt : T x ≠ (kd, 0) ∧ T x ≠ (kd, 1) := by
      rw [hTx]
      constructor <;> intro z <;> have := congrArg Prod.snd z <;> simp at this <;> omega
    refine k h1 (tg T dt1 (kd, 1)) ⟨dt1, n1, f1, mo + 1, c1, by rw [hT1 a na]; exact b2, Or.inr tg_s, by simp [b4], fun i y hy => ?_⟩ hT1 hkeep (fun q hq => ?_)
    · by_cases hi : i < L.length
      · rw [List.getElem?_append_left hi] at hy
        obtain ⟨d1, d2⟩ := b5 i y hy
        have hyn : h y ≠ none := hL0.elne hy
        refine ⟨by rw [hT1 y hyn]; exact d1, ?_⟩
        rw [hkeep y hyn (htag i y hy).1 (htag i y hy).2, List.getElem?_append_left (by omega)]
        exact d2
      · have h0 := (List.getElem?_eq_some_iff.mp hy).1
        have hiL : i = L.length := by simp at h0; omega
        subst hiL
        simp at hy
        subst hy
        refine ⟨by rw [hT1 x hxn, hTx, b4], ?_⟩
        rw [hkeep x hxn hxt.1 hxt.2, hx, b4]
        simp
    · by_cases hqa : q = a
      · rw [hqa, c1.1]
        exact fun z => by cases z
      · by_cases hqd : q = dt1
        · subst hqd
          rcases c1.2.2 with z | ⟨-, z, -⟩
          · exact absurd z.2 (by simp)
          · rw [z]
            exact fun z => by cases z
        · rw [c2 q hqa hqd]
          exact hq
end ZLR
