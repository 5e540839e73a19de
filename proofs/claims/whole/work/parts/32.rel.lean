/-! the relation between the class's state and the reference's arrays; counting -/
theorem cnt_congr {P Q : Nat → Bool} : ∀ {j i : Nat}, (∀ k, i ≤ k → k < i + j → P k = Q k) → cnt P i j = cnt Q i j
  | 0, _, _ => rfl
  | j + 1, i, h => by
    rw [cnt, cnt, h i (Nat.le_refl _) (by omega), cnt_congr (j := j) (i := i + 1) (fun k h1 h2 => h k (by omega) (by omega))]
theorem cnt_zero {P : Nat → Bool} : ∀ {j i : Nat}, (∀ k, i ≤ k → k < i + j → P k = false) → cnt P i j = 0
  | 0, _, _ => rfl
  | j + 1, i, h => by
    rw [cnt, h i (Nat.le_refl _) (by omega), cnt_zero (j := j) (i := i + 1) (fun k h1 h2 => h k (by omega) (by omega))]
    rfl
theorem cnt_app (P : Nat → Bool) : ∀ (j i k : Nat), cnt P i (j + k) = cnt P i j + cnt P (i + j) k
  | 0, i, k => by rw [Nat.zero_add, cnt, Nat.zero_add, Nat.add_zero]
  | j + 1, i, k => by
    rw [show j + 1 + k = (j + k) + 1 from by omega, cnt, cnt, cnt_app P j (i + 1) k, show i + 1 + j = i + (j + 1) from by omega, Nat.add_assoc]
theorem cnt_one {P Q : Nat → Bool} {k0 : Nat} (hP : P k0 = false) (hQ : Q k0 = true) (hE : ∀ k, k ≠ k0 → P k = Q k) : ∀ {j i : Nat}, i ≤ k0 → k0 < i + j → cnt Q i j = cnt P i j + 1
  | 0, i, h1, h2 => by omega
  | j + 1, i, h1, h2 => by
    rw [cnt, cnt]
    by_cases hi : i = k0
    · subst hi
      rw [hP, hQ, if_pos rfl, if_neg (by decide), cnt_congr (P := P) (Q := Q) (fun k q1 q2 => hE k (by omega))]
      omega
    · rw [hE i hi, cnt_one hP hQ hE (j := j) (i := i + 1) (by omega) (by omega)]
      omega
theorem anyN_f {P : Nat → Bool} : ∀ {j i : Nat}, anyN P i j = false → ∀ k, i ≤ k → k < i + j → P k = false
  | 0, i, _, k, h1, h2 => by omega
  | j + 1, i, h, k, h1, h2 => by
    rw [anyN, Bool.or_eq_false_iff] at h
    by_cases hk : k = i
    · rw [hk]; exact h.1
    · exact anyN_f h.2 k (by omega) (by omega)
theorem anyN_t {P : Nat → Bool} : ∀ {j i : Nat}, anyN P i j = true → ∃ k, i ≤ k ∧ k < i + j ∧ P k = true
  | 0, i, h => by cases h
  | j + 1, i, h => by
    rw [anyN, Bool.or_eq_true_iff] at h
    rcases h with h | h
    · exact ⟨i, Nat.le_refl _, by omega, h⟩
    · obtain ⟨k, h1, h2, h3⟩ := anyN_t h
      exact ⟨k, by omega, by omega, h3⟩
theorem anyN_i {P : Nat → Bool} {j i k : Nat} (h1 : i ≤ k) (h2 : k < i + j) (h3 : P k = true) : anyN P i j = true := by
  cases h : anyN P i j with
  | true => rfl
  | false => rw [anyN_f h k h1 h2] at h3; cases h3
theorem cnt_pos {P : Nat → Bool} : ∀ {j i : Nat}, 0 < cnt P i j ↔ anyN P i j = true
  | 0, i => by
    rw [cnt, anyN]
    exact ⟨fun h => absurd h (Nat.lt_irrefl _), fun h => by cases h⟩
  | j + 1, i => by
    rw [cnt, anyN]
    cases h : P i with
    | true =>
      rw [if_pos rfl, Bool.true_or]
      exact ⟨fun _ => rfl, fun _ => by omega⟩
    | false =>
      rw [if_neg (by decide), Nat.zero_add, Bool.false_or]
      exact cnt_pos
theorem opC_cnt {r : RoT} {P : Nat → Bool} : ∀ {l : List PeT} {i : Nat}, (∀ (k : Nat) (e : PeT), l[k]? = some e → opB r (i + k) e = P (i + k)) → opC r i l = cnt P i l.length
  | [], i, _ => rfl
  | e :: l, i, h => by
    rw [opC, List.length_cons, cnt]
    have h0 := h 0 e rfl
    rw [Nat.add_zero] at h0
    rw [h0, opC_cnt (l := l) (i := i + 1) (fun k e1 hk => by
      have := h (k + 1) e1 hk
      rw [show i + (k + 1) = i + 1 + k from by omega] at this
      exact this)]
theorem sub_step (t : Int32) (b : Nat) : t - nI b - 1 = t - nI (b + 1) := by
  rw [← nI_1]
  rw [Int32.sub_eq_add_neg, Int32.sub_eq_add_neg, Int32.sub_eq_add_neg, Int32.neg_add, Int32.add_assoc]
  rw [Int32.sub_eq_add_neg]
theorem sub_zero_iff (t u : Int32) : t - u = 0 ↔ u = t := by
  constructor
  · intro h
    have h1 : t - u + u = 0 + u := by rw [h]
    rw [Int32.sub_add_cancel, Int32.zero_add] at h1
    exact h1.symm
  · intro h
    rw [h, Int32.sub_self]
theorem miF_ms {r : RoT} {t : Int32} {P : Nat → Bool} : ∀ {l : List PeT} {i b : Nat}, (∀ (k : Nat) (e : PeT), l[k]? = some e → msB r (i + k) e = P (i + k)) → miF r t i b l = msM P i l.length (t - nI b)
  | [], i, b, _ => rfl
  | e :: l, i, b, h => by
    rw [miF, List.length_cons, msM]
    have h0 := h 0 e rfl
    rw [Nat.add_zero] at h0
    have hn : ∀ (k : Nat) (e : PeT), l[k]? = some e → msB r (i + 1 + k) e = P (i + 1 + k) := fun k e1 hk => by
      have := h (k + 1) e1 hk
      rw [show i + (k + 1) = i + 1 + k from by omega] at this
      exact this
    rw [h0]
    split
    · by_cases hb : nI b = t
      · rw [if_pos hb, if_pos ((sub_zero_iff _ _).mpr hb)]
      · rw [if_neg hb, if_neg (fun z => hb ((sub_zero_iff _ _).mp z)), sub_step]
        exact miF_ms hn
    · exact miF_ms hn
theorem laF_ms {fl : Nat → Int32} {t : Int32} {P : Nat → Bool} : ∀ {j i b : Nat}, (∀ k, i ≤ k → k < i + j → (fl k ≠ 0 ↔ P k = true)) → laF fl t i b j = msM P i j (t - nI b)
  | 0, i, b, _ => rfl
  | j + 1, i, b, h => by
    rw [laF, msM]
    have hn : ∀ k, i + 1 ≤ k → k < i + 1 + j → (fl k ≠ 0 ↔ P k = true) := fun k h1 h2 => h k (by omega) (by omega)
    by_cases hi : fl i ≠ 0
    · rw [if_pos hi, if_pos ((h i (Nat.le_refl _) (by omega)).mp hi)]
      by_cases hb : nI b = t
      · rw [if_pos hb, if_pos ((sub_zero_iff _ _).mpr hb)]
      · rw [if_neg hb, if_neg (fun z => hb ((sub_zero_iff _ _).mp z)), sub_step]
        exact laF_ms hn
    · rw [if_neg hi, if_neg (fun z => hi ((h i (Nat.le_refl _) (by omega)).mpr z))]
      exact laF_ms hn
theorem wasF_none {a t : Int32} : ∀ {l : List MvT}, (∀ e ∈ l, e.1 ≠ a) → wasF a t l = -1
  | [], _ => rfl
  | e :: l, h => by
    rw [wasF, if_neg (fun z => h e (List.mem_cons_self ..) z.1), wasF_none (fun x hx => h x (List.mem_cons_of_mem _ hx))]
theorem wasF_sec {a s t : Int32} : ∀ {l : List MvT}, (∀ e ∈ l, e.2.2 ≤ s ∧ e.2.2 ≤ t) → wasF a s l = wasF a t l
  | [], _ => rfl
  | e :: l, h => by
    have h0 := h e (List.mem_cons_self ..)
    rw [wasF, wasF, wasF_sec (l := l) (fun x hx => h x (List.mem_cons_of_mem _ hx))]
    by_cases he : e.1 = a
    · rw [if_pos ⟨he, h0.1⟩, if_pos ⟨he, h0.2⟩]
    · rw [if_neg (fun z => he z.1), if_neg (fun z => he z.1)]
theorem wasF_app {a t : Int32} (l : List MvT) (e : MvT) : wasF a t (l ++ [e]).reverse = if e.1 = a ∧ e.2.2 ≤ t then e.2.1 else wasF a t l.reverse := by
  rw [List.reverse_append]
  rfl
theorem coB_app {mv : List MvT} {e : MvT} {p : Int32} {k : Nat} (hk : k ≤ mv.length) : coB (mv ++ [e]) p k = (coB mv p k || (e.1 == p && decide (e.2.1 < 0))) := by
  unfold coB
  rw [List.drop_append_of_le_length hk, List.any_append]
  simp
theorem coB_none {mv : List MvT} {p : Int32} {k : Nat} (h : ∀ e ∈ mv, e.1 ≠ p) : coB mv p k = false := by
  unfold coB
  rw [List.any_eq_false]
  intro e he
  have := h e (List.mem_of_mem_drop he)
  simp [this]
abbrev cofN (r : RoT) (i : Nat) : Int32 := cof r.n r.f (nI i)
def relG (S : CS) (F : FT) : Prop := ∀ j, j < 10 → F 0 j = S.gf j ∧ ¬ S.gf j < 0 ∧ S.gf j ≤ 999
def relV (S : CS) (F : FT) : Prop := mvR S F ∧ ∀ e ∈ S.mv, e.2.2 ≤ S.sec ∧ ∃ i, i < S.ps.length ∧ e.1 = nI i
def relP (S : CS) : Prop := ∀ (i : Nat) (e : PeT), S.ps[i]? = some e → e.1 = wasF (nI i) S.sec S.mv.reverse ∧ (e.1 = -1 ∨ ¬ e.1 < 0 ∧ e.1 < 10) ∧ ¬ nI S.ro.length < e.2.1
def fmR (S : CS) (F : FT) (o : Nat) (r : RoT) (fm : Nat) : Prop := ∀ (i : Nat) (e : PeT), S.ps[i]? = some e → (r.rd < 3 → decide (nI o < e.2.1) = coB S.mv (nI i) fm) ∧ (¬ r.rd < 3 → opB r i e = ((F 12 (o * 60 + i) != 0) && !coB S.mv (nI i) fm))
def rowR (S : CS) (F : FT) (o : Nat) (r : RoT) : Prop :=
  (r.1.1 = nI o ∧ r.n ≤ S.ps.length ∧ F 4 o = r.1.2 ∧ F 5 o = r.rd ∧ (r.rd = 1 ∨ r.rd = 2 ∨ r.rd = 3)) ∧
  (F 7 o = r.2.2.2.2.2.1 ∧ F 8 o = r.2.2.2.2.2.2.1 ∧ F 9 o = r.2.2.2.2.2.2.2.1) ∧
  (∀ i, i < 60 → F 10 (o * 60 + i) = bI (cofN r i != -2) ∧ F 11 (o * 60 + i) = (if cofN r i = -2 then -1 else cofN r i) ∧ (cofN r i = -2 ∨ cofN r i = -1 ∨ ¬ cofN r i < 0)) ∧
  (r.2.2.2.1 = nI (cnt (fun i => F 10 (o * 60 + i) != 0) 0 60) ∧ r.2.2.2.2.1 = nI (cnt (fun i => (F 10 (o * 60 + i) != 0) && !decide (F 11 (o * 60 + i) < 0)) 0 60)) ∧
  (∃ fm, fm ≤ S.mv.length ∧ F 6 o = nI fm ∧ fmR S F o r fm) ∧
  (¬ r.rd < 3 → r.2.2.2.2.2.2.2.2 = nI (cnt (fun i => F 12 (o * 60 + i) != 0) 0 60)) ∧
  (∀ i, i < 60 → (r.rd < 3 ∨ S.ps.length ≤ i) → F 12 (o * 60 + i) = 0)
def relR (S : CS) (F : FT) : Prop := ∀ (o : Nat) (r : RoT), S.ro[o]? = some r → rowR S F o r
def relC (S : CS) (F : FT) : Prop := ∀ (i : Nat) (e : PeT), S.ps[i]? = some e → ∀ o, o ≤ 40 → (nI o < e.2.2 ↔ ∃ p, o < p ∧ p < S.ro.length ∧ ¬ F 11 (p * 60 + i) < 0)
def relD (S : CS) (F : FT) : Prop := ∀ (i : Nat) (d : DcT), S.db[i]? = some d → F 13 (4 * i) = d.1 ∧ F 13 (4 * i + 1) = d.2.1 ∧ F 13 (4 * i + 2) = d.2.2.1 ∧ F 13 (4 * i + 3) = d.2.2.2
def relY (S : CS) (F : FT) : Prop := (∀ (i : Nat) (e : MdT), S.md[i]? = some e → (F 14 i = e.op ∧ F 15 i = e.tm ∧ F 16 i = e.1 ∧ F 17 i = e.2.1 ∧ F 18 i = e.2.2.1) ∧ (e.op = 0 → e.tm = -1) ∧ (e.tm = -1 ∨ ∃ t, t < 4 ∧ e.tm = nI t)) ∧
  (∀ (i j : Nat) (e f : MdT), S.md[i]? = some e → S.md[j]? = some f → e.tm = f.tm → ¬ e.tm = -1 → i = j) ∧
  (∀ (i : Nat) (e : MdT), S.md[i]? = some e → ¬ e.op = 0 → e.tm = -1 → ∀ t, t < 4 → ∃ (j : Nat) (f : MdT), S.md[j]? = some f ∧ f.tm = nI t)
def rowE (S : CS) (F : FT) (i : Nat) (v : EvT) : Prop :=
  (F 19 i = v.1 ∧ ¬ v.1 < 0) ∧
  (∀ q, q < 10 → ((v.fm q ≠ 0 ↔ F 20 (i * 10 + q) = -1) ∧ (v.fl q ≠ 0 ↔ ltM S F i q = true) ∧ F 20 (i * 10 + q) ≤ S.sec)) ∧
  v.2.2.1 = nI (cnt (fun q => F 20 (i * 10 + q) == -1) 0 10) ∧
  (0 < v.2.2.1 → (v.2.2.2 ≠ 0 ↔ v.1 < S.sec) ∧ i + 1 = S.ev.length)
def relE (S : CS) (F : FT) : Prop := ∀ (i : Nat) (v : EvT), S.ev[i]? = some v → rowE S F i v
def relU (S : CS) (F : FT) : Prop := ∀ o, S.ro.length ≤ o → o < 40 → F 7 o = 0 ∧ F 8 o = 0 ∧ F 9 o = 0 ∧ ∀ i, i < 60 → F 12 (o * 60 + i) = 0
def relB (S : CS) : Prop := S.ps.length ≤ 60 ∧ S.mv.length ≤ 300 ∧ S.ro.length ≤ 40 ∧ S.db.length ≤ 100 ∧ S.md.length ≤ 30 ∧ S.ev.length ≤ 20 ∧ ¬ S.sec < 0 ∧ S.sec ≤ 99999
def Rel (S : CS) (F : FT) : Prop := relB S ∧ relG S F ∧ relV S F ∧ relP S ∧ relR S F ∧ relC S F ∧ relD S F ∧ relY S F ∧ relE S F ∧ relU S F
theorem Rel.start : Rel S0 (fun _ _ => 0) := by
  refine ⟨⟨by decide, by decide, by decide, by decide, by decide, by decide, by decide, by decide⟩, (fun j _ => ⟨rfl, (by decide : ¬ (0 : Int32) < 0), (by decide : (0 : Int32) ≤ 999)⟩), ⟨⟨by decide, (fun k e h => by cases h)⟩, (fun e h => by cases h)⟩, (fun i e h => by cases h), (fun i e h => by cases h), (fun i e h => by cases h), (fun i e h => by cases h), ⟨(fun i e h => by cases h), (fun i j e f h => by cases h), (fun i e h => by cases h)⟩, (fun i e h => by cases h), (fun o _ _ => ⟨rfl, rfl, rfl, fun _ _ => rfl⟩)⟩
