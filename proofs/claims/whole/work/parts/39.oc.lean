/-! the outcomes of the class's calls, as the law sees them -/
def ExO (g : zG) (ou : Nat) (T : Tg) (h : Hp) (T1 : Tg) (h1 : Hp) : Prop := (∀ q, h q ≠ none → T1 q = T q) ∧ (∀ q, h q ≠ none → (T q).1 = 0 → q ≠ ou → h1 q = h q) ∧ (∀ q, h q ≠ none → h1 q ≠ none) ∧ ∃ f, h1 ou = some (la g 1 f)
section LB
variable {g : zG} {T T1 : Tg} {h h1 : Hp} {PR : Option Value → Hp → Prop} {PX : String → Hp → Prop} {x ou : Nat} {S : CS} {fo : Nat → Int64}
theorem ExO.of (e : Ext T h T1 h1) (ho : h ou = some (la g 1 fo)) (hT : T ou = (0, 30)) : ExO g ou T h T1 h1 := ⟨e.1, fun q h1 h2 _ => e.2.1 q h1 h2, e.2.2, fo, (e.2.1 ou (zne ho) (by rw [hT])).trans ho⟩
theorem ExO.put (e : Ext T h T1 h1) {v : Nat → Int64} : ExO g ou T h T1 (zu h1 ou (la g 1 v)) := ⟨e.1, fun q h1 h2 h3 => (zu_n h3).trans (e.2.1 q h1 h2), fun q hq => by
    by_cases hqo : q = ou
    · rw [hqo, zu_s]; exact zsm
    · rw [zu_n hqo]; exact e.2.2 q hq, v, zu_s⟩
theorem RepC.put0 (hR : RepC g T h x S) (hT : T ou = (0, 30)) {v : va_E} : RepC g T (zu h ou v) x S := hR.ext (fun _ _ => rfl) (fun q _ hk => zu_n (fun z => hk (by rw [z, hT])))
theorem RepC.rc (hR : RepC g T h x S) : ∃ vs, h x = some (.inr (7, vs)) := by
  obtain ⟨gu, lp, lm, lr, ld, ly, le, LP, LM, LR, LD, LY, LE, ⟨hx, -⟩, -⟩ := hR
  exact ⟨_, hx⟩
def oc_person (S : CS) (code ans : Int32) (S1 : CS) : Prop :=
  (code = 1 ∧ S1 = S ∧ (60 ≤ S.ps.length)) ∨
  (code = 0 ∧ (S.ps.length < 60) ∧ ans = nI S.ps.length ∧ S1 = (S.1, S.2.1, S.2.2.1 ++ [(-1, 0, -1)], S.2.2.2))
set_option maxRecDepth 100000 in
theorem wx_person (hR : RepC g T h x S) (ho : h ou = some (la g 1 fo)) (hTo : T ou = (0, 30)) (k : ∀ (code ans : Int32) (S1 : CS) (h1 : Hp) (T1 : Tg), oc_person S  code ans S1 → RepC g T1 h1 x S1 → ExO g ou T h T1 h1 → (code = 0 → ∃ f, h1 ou = some (la g 1 f) ∧ f 0 = ans.toInt64) → PR (some (.int code)) h1) : Ct g y_LW_person w_LW_person 10 6 540 [.ref x, .ref ou] h PR PX := by
  obtain ⟨vs, hx⟩ := hR.rc
  refine ct_LW_person hx (ct_RC_person hR
    (fun y0 => ⟨rfl, k 1 0 S h T (Or.inl ⟨rfl, rfl, y0⟩) hR (ExO.of Ext.rf ho hTo) (fun z => absurd z (by decide))⟩)
    (fun y0 h1 T1 rr ee => ⟨_, fo, rfl, ((ee.2.1 ou (zne ho) (by rw [hTo])).trans ho), k 0 _ _ _ T1 (Or.inr (⟨rfl, y0, rfl, rfl⟩)) (RepC.put0 rr ((ee.1 ou (zne ho)).trans hTo)) (ExO.put ee) (fun _ => ⟨_, zu_s, if_pos rfl⟩)⟩))
def oc_enter (S : CS) (a0 a1 : Int32) (code ans : Int32) (S1 : CS) : Prop :=
  (code = 1 ∧ S1 = S ∧ ((a0 < 0 ∨ nI S.ps.length ≤ a0) ∨ (a1 < 0 ∨ 10 ≤ a1))) ∨
  (code = 2 ∧ S1 = S ∧ ∃ (i : Nat) (e : PeT), (a0 = nI i) ∧ (S.ps[i]? = some e) ∧ (¬ a1 < 0) ∧ (a1 < 10) ∧ (e.1 = a1)) ∨
  (code = 3 ∧ S1 = S ∧ ∃ (i : Nat) (e : PeT), (a0 = nI i) ∧ (S.ps[i]? = some e) ∧ (¬ a1 < 0) ∧ (a1 < 10) ∧ (¬ e.1 = a1) ∧ (300 ≤ S.mv.length)) ∨
  (code = 0 ∧ ∃ (i : Nat) (e : PeT), (a0 = nI i) ∧ (S.ps[i]? = some e) ∧ (¬ a1 < 0) ∧ (a1 < 10) ∧ (¬ e.1 = a1) ∧ (S.mv.length < 300) ∧ ans = 0 ∧ S1 = (S.1, S.2.1, S.2.2.1.set i (a1, e.2.1, e.2.2), S.2.2.2.1 ++ [(a0, a1, S.1)], S.2.2.2.2))
set_option maxRecDepth 100000 in
theorem wx_enter {a0 a1 : Int32} (hR : RepC g T h x S) (ho : h ou = some (la g 1 fo)) (hTo : T ou = (0, 30)) (k : ∀ (code ans : Int32) (S1 : CS) (h1 : Hp) (T1 : Tg), oc_enter S a0 a1 code ans S1 → RepC g T1 h1 x S1 → ExO g ou T h T1 h1 → PR (some (.int code)) h1) : Ct g y_LW_enter w_LW_enter 10 6 540 [.ref x, .int a0, .int a1] h PR PX := by
  obtain ⟨vs, hx⟩ := hR.rc
  refine ct_LW_enter hx (ct_RC_enter hR
    (fun y0 => Or.inl ⟨rfl, k 1 0 S h T (Or.inl ⟨rfl, rfl, y0⟩) hR (ExO.of Ext.rf ho hTo)⟩)
    (fun i e y0 y1 y2 y3 y4 => Or.inr (Or.inl ⟨rfl, k 2 0 S h T (Or.inr (Or.inl ⟨rfl, rfl, i, e, y0, y1, y2, y3, y4⟩)) hR (ExO.of Ext.rf ho hTo)⟩))
    (fun i e y0 y1 y2 y3 y4 y5 => Or.inr (Or.inr (⟨rfl, k 3 0 S h T (Or.inr (Or.inr (Or.inl ⟨rfl, rfl, i, e, y0, y1, y2, y3, y4, y5⟩))) hR (ExO.of Ext.rf ho hTo)⟩)))
    (fun i e y0 y1 y2 y3 y4 y5 h1 T1 rr ee => ⟨rfl, k 0 0 _ _ T1 (Or.inr (Or.inr (Or.inr (⟨rfl, i, e, y0, y1, y2, y3, y4, y5, rfl, rfl⟩)))) rr (ExO.of ee ho hTo)⟩))
def oc_leave (S : CS) (a0 : Int32) (code ans : Int32) (S1 : CS) : Prop :=
  (code = 1 ∧ S1 = S ∧ (a0 < 0 ∨ nI S.ps.length ≤ a0)) ∨
  (code = 2 ∧ S1 = S ∧ ∃ (i : Nat) (e : PeT), (a0 = nI i) ∧ (S.ps[i]? = some e) ∧ (e.1 = -1)) ∨
  (code = 3 ∧ S1 = S ∧ ∃ (i : Nat) (e : PeT), (a0 = nI i) ∧ (S.ps[i]? = some e) ∧ (¬ e.1 = -1) ∧ (300 ≤ S.mv.length)) ∨
  (code = 0 ∧ ∃ (i : Nat) (e : PeT), (a0 = nI i) ∧ (S.ps[i]? = some e) ∧ (¬ e.1 = -1) ∧ (S.mv.length < 300) ∧ ans = 0 ∧ S1 = (S.1, S.2.1, S.2.2.1.set i (-1, nI S.ro.length, e.2.2), S.2.2.2.1 ++ [(a0, -1, S.1)], S.2.2.2.2))
set_option maxRecDepth 100000 in
theorem wx_leave {a0 : Int32} (hR : RepC g T h x S) (ho : h ou = some (la g 1 fo)) (hTo : T ou = (0, 30)) (k : ∀ (code ans : Int32) (S1 : CS) (h1 : Hp) (T1 : Tg), oc_leave S a0 code ans S1 → RepC g T1 h1 x S1 → ExO g ou T h T1 h1 → PR (some (.int code)) h1) : Ct g y_LW_leave w_LW_leave 10 6 540 [.ref x, .int a0] h PR PX := by
  obtain ⟨vs, hx⟩ := hR.rc
  refine ct_LW_leave hx (ct_RC_leave hR
    (fun y0 => Or.inl ⟨rfl, k 1 0 S h T (Or.inl ⟨rfl, rfl, y0⟩) hR (ExO.of Ext.rf ho hTo)⟩)
    (fun i e y0 y1 y2 => Or.inr (Or.inl ⟨rfl, k 2 0 S h T (Or.inr (Or.inl ⟨rfl, rfl, i, e, y0, y1, y2⟩)) hR (ExO.of Ext.rf ho hTo)⟩))
    (fun i e y0 y1 y2 y3 => Or.inr (Or.inr (⟨rfl, k 3 0 S h T (Or.inr (Or.inr (Or.inl ⟨rfl, rfl, i, e, y0, y1, y2, y3⟩))) hR (ExO.of Ext.rf ho hTo)⟩)))
    (fun i e y0 y1 y2 y3 h1 T1 rr ee => ⟨rfl, k 0 0 _ _ T1 (Or.inr (Or.inr (Or.inr (⟨rfl, i, e, y0, y1, y2, y3, rfl, rfl⟩)))) rr (ExO.of ee ho hTo)⟩))
def oc_guests (S : CS) (a0 a1 : Int32) (code ans : Int32) (S1 : CS) : Prop :=
  (code = 1 ∧ S1 = S ∧ (a0 < 0 ∨ 10 ≤ a0)) ∨
  (code = 2 ∧ S1 = S ∧ (¬ a0 < 0) ∧ (a0 < 10) ∧ ((a1 < 0 ∨ 999 < a1))) ∨
  (code = 0 ∧ (¬ a0 < 0) ∧ (a0 < 10) ∧ (¬ a1 < 0) ∧ (a1 ≤ 999) ∧ ans = 0 ∧ S1 = (S.1, upd S.2.1 a0.toNatClampNeg a1, S.2.2))
set_option maxRecDepth 100000 in
theorem wx_guests {a0 a1 : Int32} (hR : RepC g T h x S) (ho : h ou = some (la g 1 fo)) (hTo : T ou = (0, 30)) (k : ∀ (code ans : Int32) (S1 : CS) (h1 : Hp) (T1 : Tg), oc_guests S a0 a1 code ans S1 → RepC g T1 h1 x S1 → ExO g ou T h T1 h1 → PR (some (.int code)) h1) : Ct g y_LW_guests w_LW_guests 10 6 540 [.ref x, .int a0, .int a1] h PR PX := by
  obtain ⟨vs, hx⟩ := hR.rc
  refine ct_LW_guests hx (ct_RC_guests hR
    (fun y0 => Or.inl ⟨rfl, k 1 0 S h T (Or.inl ⟨rfl, rfl, y0⟩) hR (ExO.of Ext.rf ho hTo)⟩)
    (fun y0 y1 y2 => Or.inr (⟨rfl, k 2 0 S h T (Or.inr (Or.inl ⟨rfl, rfl, y0, y1, y2⟩)) hR (ExO.of Ext.rf ho hTo)⟩))
    (fun y0 y1 y2 y3 h1 rr ee => ⟨rfl, k 0 0 _ _ T (Or.inr (Or.inr (⟨rfl, y0, y1, y2, y3, rfl, rfl⟩))) rr (ExO.of ee ho hTo)⟩))
def oc_roll (S : CS) (a0 : Int32) (code ans : Int32) (S1 : CS) : Prop :=
  (code = 1 ∧ S1 = S ∧ (¬ a0 = -1) ∧ ((a0 < 0 ∨ 10 ≤ a0))) ∨
  (code = 2 ∧ S1 = S ∧ ((a0 = -1 ∨ (¬ a0 < 0 ∧ a0 < 10))) ∧ ((S.ro.any (fun e => decide (e.rd < 3) && (a0 == -1 || decide (e.1.2 = -1 ∨ e.1.2 = a0))) = true ∨ S.md.countP (fun e => e.op ≠ 0) ≠ 0))) ∨
  (code = 3 ∧ S1 = S ∧ ((a0 = -1 ∨ (¬ a0 < 0 ∧ a0 < 10))) ∧ (S.ro.any (fun e => decide (e.rd < 3) && (a0 == -1 || decide (e.1.2 = -1 ∨ e.1.2 = a0))) = false) ∧ (S.md.countP (fun e => e.op ≠ 0) = 0) ∧ (40 ≤ S.ro.length)) ∨
  (code = 0 ∧ ∃ (ct : Nat), ((a0 = -1 ∨ (¬ a0 < 0 ∧ a0 < 10))) ∧ (S.ro.any (fun e => decide (e.rd < 3) && (a0 == -1 || decide (e.1.2 = -1 ∨ e.1.2 = a0))) = false) ∧ (S.md.countP (fun e => e.op ≠ 0) = 0) ∧ (S.ro.length < 40) ∧ ans = nI S.ro.length ∧ S1 = (S.1, S.2.1, S.2.2.1, S.2.2.2.1, S.2.2.2.2.1 ++ [roN S a0 ct], S.2.2.2.2.2))
set_option maxRecDepth 100000 in
theorem wx_roll {a0 : Int32} (hR : RepC g T h x S) (ho : h ou = some (la g 1 fo)) (hTo : T ou = (0, 30)) (k : ∀ (code ans : Int32) (S1 : CS) (h1 : Hp) (T1 : Tg), oc_roll S a0 code ans S1 → RepC g T1 h1 x S1 → ExO g ou T h T1 h1 → (code = 0 → ∃ f, h1 ou = some (la g 1 f) ∧ f 0 = ans.toInt64) → PR (some (.int code)) h1) : Ct g y_LW_roll w_LW_roll 10 6 540 [.ref x, .int a0, .ref ou] h PR PX := by
  obtain ⟨vs, hx⟩ := hR.rc
  refine ct_LW_roll hx (ct_RC_roll hR
    (fun y0 y1 => Or.inl ⟨rfl, k 1 0 S h T (Or.inl ⟨rfl, rfl, y0, y1⟩) hR (ExO.of Ext.rf ho hTo) (fun z => absurd z (by decide))⟩)
    (fun y0 y1 => Or.inr (Or.inl ⟨rfl, k 2 0 S h T (Or.inr (Or.inl ⟨rfl, rfl, y0, y1⟩)) hR (ExO.of Ext.rf ho hTo) (fun z => absurd z (by decide))⟩))
    (fun y0 y1 y2 y3 => Or.inr (Or.inr (⟨rfl, k 3 0 S h T (Or.inr (Or.inr (Or.inl ⟨rfl, rfl, y0, y1, y2, y3⟩))) hR (ExO.of Ext.rf ho hTo) (fun z => absurd z (by decide))⟩)))
    (fun y0 y1 y2 y3 h1 T1 ct rr ee => ⟨_, fo, rfl, ((ee.2.1 ou (zne ho) (by rw [hTo])).trans ho), k 0 _ _ _ T1 (Or.inr (Or.inr (Or.inr (⟨rfl, ct, y0, y1, y2, y3, rfl, rfl⟩)))) (RepC.put0 rr ((ee.1 ou (zne ho)).trans hTo)) (ExO.put ee) (fun _ => ⟨_, zu_s, if_pos rfl⟩)⟩))
def oc_answer (S : CS) (a0 a1 a2 : Int32) (code ans : Int32) (S1 : CS) : Prop :=
  (code = 1 ∧ S1 = S ∧ ((a0 < 0 ∨ nI S.ro.length ≤ a0) ∨ (a1 < 0 ∨ 10 ≤ a1) ∨ (a2 < 0 ∨ nI S.ps.length ≤ a2))) ∨
  (code = 2 ∧ S1 = S ∧ ∃ (i : Nat) (r : RoT) (j : Nat) (e : PeT), (a0 = nI i) ∧ (S.ro[i]? = some r) ∧ (¬ a1 < 0) ∧ (a1 < 10) ∧ (a2 = nI j) ∧ (S.ps[j]? = some e) ∧ (¬ r.rd < 3)) ∨
  (code = 3 ∧ S1 = S ∧ ∃ (i : Nat) (r : RoT) (j : Nat) (e : PeT), (a0 = nI i) ∧ (S.ro[i]? = some r) ∧ (¬ a1 < 0) ∧ (a1 < 10) ∧ (a2 = nI j) ∧ (S.ps[j]? = some e) ∧ (r.rd < 3) ∧ (cof r.n r.f a2 ≠ -2) ∧ (cof r.n r.f a2 ≠ -1) ∧ (cof r.n r.f a2 ≠ a1) ∧ (100 ≤ S.db.length)) ∨
  (code = 0 ∧ ∃ (i : Nat) (r : RoT) (j : Nat) (e : PeT), (a0 = nI i) ∧ (S.ro[i]? = some r) ∧ (¬ a1 < 0) ∧ (a1 < 10) ∧ (a2 = nI j) ∧ (S.ps[j]? = some e) ∧ (r.rd < 3) ∧ (cof r.n r.f a2 = -2) ∧ ans = 4 ∧ S1 = (S.1, S.2.1, S.2.2.1, S.2.2.2.1, S.2.2.2.2.1.set i (r.1, r.2.1, r.2.2.1, r.2.2.2.1, r.2.2.2.2.1, r.2.2.2.2.2.1, r.2.2.2.2.2.2.1, r.2.2.2.2.2.2.2.1 + 1, r.2.2.2.2.2.2.2.2), S.2.2.2.2.2)) ∨
  (code = 0 ∧ ∃ (i : Nat) (r : RoT) (j : Nat) (e : PeT), (a0 = nI i) ∧ (S.ro[i]? = some r) ∧ (¬ a1 < 0) ∧ (a1 < 10) ∧ (a2 = nI j) ∧ (S.ps[j]? = some e) ∧ (r.rd < 3) ∧ (j < r.n) ∧ (r.f j = -1) ∧ ans = 1 ∧ S1 = (S.1, S.2.1, S.2.2.1.set j (e.1, e.2.1, mxI e.2.2 a0), S.2.2.2.1, S.2.2.2.2.1.set i (r.1, (r.ct, r.n, upd r.f j a1), r.2.2.1, r.2.2.2.1, r.2.2.2.2.1 + 1, r.2.2.2.2.2.1, r.2.2.2.2.2.2.1, r.2.2.2.2.2.2.2.1, r.2.2.2.2.2.2.2.2), S.2.2.2.2.2)) ∨
  (code = 0 ∧ ∃ (i : Nat) (r : RoT) (j : Nat) (e : PeT), (a0 = nI i) ∧ (S.ro[i]? = some r) ∧ (¬ a1 < 0) ∧ (a1 < 10) ∧ (a2 = nI j) ∧ (S.ps[j]? = some e) ∧ (r.rd < 3) ∧ (cof r.n r.f a2 ≠ -2) ∧ (cof r.n r.f a2 ≠ -1) ∧ (cof r.n r.f a2 = a1) ∧ ans = 2 ∧ S1 = S) ∨
  (code = 0 ∧ ∃ (i : Nat) (r : RoT) (j : Nat) (e : PeT), (a0 = nI i) ∧ (S.ro[i]? = some r) ∧ (¬ a1 < 0) ∧ (a1 < 10) ∧ (a2 = nI j) ∧ (S.ps[j]? = some e) ∧ (r.rd < 3) ∧ (cof r.n r.f a2 ≠ -2) ∧ (cof r.n r.f a2 ≠ -1) ∧ (cof r.n r.f a2 ≠ a1) ∧ (S.db.length < 100) ∧ ans = 3 ∧ S1 = (S.1, S.2.1, S.2.2.1, S.2.2.2.1, S.2.2.2.2.1, S.2.2.2.2.2.1 ++ [(a2, cof r.n r.f a2, a1, a0)], S.2.2.2.2.2.2))
set_option maxRecDepth 100000 in
theorem wx_answer {a0 a1 a2 : Int32} (hR : RepC g T h x S) (ho : h ou = some (la g 1 fo)) (hTo : T ou = (0, 30)) (k : ∀ (code ans : Int32) (S1 : CS) (h1 : Hp) (T1 : Tg), oc_answer S a0 a1 a2 code ans S1 → RepC g T1 h1 x S1 → ExO g ou T h T1 h1 → (code = 0 → ∃ f, h1 ou = some (la g 1 f) ∧ f 0 = ans.toInt64) → PR (some (.int code)) h1) : Ct g y_LW_answer w_LW_answer 10 6 540 [.ref x, .int a0, .int a1, .int a2, .ref ou] h PR PX := by
  obtain ⟨vs, hx⟩ := hR.rc
  refine ct_LW_answer hx (ct_RC_answer hR
    (fun y0 => Or.inl ⟨rfl, k 1 0 S h T (Or.inl ⟨rfl, rfl, y0⟩) hR (ExO.of Ext.rf ho hTo) (fun z => absurd z (by decide))⟩)
    (fun i r j e y0 y1 y2 y3 y4 y5 y6 => Or.inr (Or.inl ⟨rfl, k 2 0 S h T (Or.inr (Or.inl ⟨rfl, rfl, i, r, j, e, y0, y1, y2, y3, y4, y5, y6⟩)) hR (ExO.of Ext.rf ho hTo) (fun z => absurd z (by decide))⟩))
    (fun i r j e y0 y1 y2 y3 y4 y5 y6 y7 y8 y9 y10 h1 T1 rr ee => Or.inr (Or.inr (⟨rfl, k 3 0 S h1 T1 (Or.inr (Or.inr (Or.inl ⟨rfl, rfl, i, r, j, e, y0, y1, y2, y3, y4, y5, y6, y7, y8, y9, y10⟩))) rr (ExO.of ee ho hTo) (fun z => absurd z (by decide))⟩)))
    (fun i r j e y0 y1 y2 y3 y4 y5 y6 y7 h1 rr ee => ⟨_, fo, rfl, ((ee.2.1 ou (zne ho) (by rw [hTo])).trans ho), k 0 _ _ _ T (Or.inr (Or.inr (Or.inr (Or.inl ⟨rfl, i, r, j, e, y0, y1, y2, y3, y4, y5, y6, y7, rfl, rfl⟩)))) (RepC.put0 rr hTo) (ExO.put ee) (fun _ => ⟨_, zu_s, if_pos rfl⟩)⟩)
    (fun i r j e y0 y1 y2 y3 y4 y5 y6 y7 y8 h1 rr ee => ⟨_, fo, rfl, ((ee.2.1 ou (zne ho) (by rw [hTo])).trans ho), k 0 _ _ _ T (Or.inr (Or.inr (Or.inr (Or.inr (Or.inl ⟨rfl, i, r, j, e, y0, y1, y2, y3, y4, y5, y6, y7, y8, rfl, rfl⟩))))) (RepC.put0 rr hTo) (ExO.put ee) (fun _ => ⟨_, zu_s, if_pos rfl⟩)⟩)
    (fun i r j e y0 y1 y2 y3 y4 y5 y6 y7 y8 y9 => ⟨_, fo, rfl, ho, k 0 _ _ _ T (Or.inr (Or.inr (Or.inr (Or.inr (Or.inr (Or.inl ⟨rfl, i, r, j, e, y0, y1, y2, y3, y4, y5, y6, y7, y8, y9, rfl, rfl⟩)))))) (RepC.put0 hR hTo) (ExO.put Ext.rf) (fun _ => ⟨_, zu_s, if_pos rfl⟩)⟩)
    (fun i r j e y0 y1 y2 y3 y4 y5 y6 y7 y8 y9 y10 h1 T1 rr ee => ⟨_, fo, rfl, ((ee.2.1 ou (zne ho) (by rw [hTo])).trans ho), k 0 _ _ _ T1 (Or.inr (Or.inr (Or.inr (Or.inr (Or.inr (Or.inr (⟨rfl, i, r, j, e, y0, y1, y2, y3, y4, y5, y6, y7, y8, y9, y10, rfl, rfl⟩))))))) (RepC.put0 rr ((ee.1 ou (zne ho)).trans hTo)) (ExO.put ee) (fun _ => ⟨_, zu_s, if_pos rfl⟩)⟩))
def oc_seen (S : CS) (a0 a1 : Int32) (code ans : Int32) (S1 : CS) : Prop :=
  (code = 1 ∧ S1 = S ∧ (a0 < 0 ∨ nI S.ro.length ≤ a0)) ∨
  (code = 2 ∧ S1 = S ∧ ∃ (i : Nat) (r : RoT), (a0 = nI i) ∧ (S.ro[i]? = some r) ∧ ((a1 < 0 ∨ 999 < a1))) ∨
  (code = 3 ∧ S1 = S ∧ ∃ (i : Nat) (r : RoT), (a0 = nI i) ∧ (S.ro[i]? = some r) ∧ (¬ a1 < 0) ∧ (a1 ≤ 999) ∧ (¬ r.rd < 3)) ∨
  (code = 4 ∧ S1 = S ∧ ∃ (i : Nat) (r : RoT), (a0 = nI i) ∧ (S.ro[i]? = some r) ∧ (¬ a1 < 0) ∧ (a1 ≤ 999) ∧ (r.rd < 3) ∧ (9999 < r.2.2.2.2.2.2.1 + a1)) ∨
  (code = 0 ∧ ∃ (i : Nat) (r : RoT), (a0 = nI i) ∧ (S.ro[i]? = some r) ∧ (¬ a1 < 0) ∧ (a1 ≤ 999) ∧ (r.rd < 3) ∧ (r.2.2.2.2.2.2.1 + a1 ≤ 9999) ∧ ans = r.2.2.2.2.2.2.1 + a1 ∧ S1 = (S.1, S.2.1, S.2.2.1, S.2.2.2.1, S.2.2.2.2.1.set i (r.1, r.2.1, r.2.2.1, r.2.2.2.1, r.2.2.2.2.1, r.2.2.2.2.2.1, r.2.2.2.2.2.2.1 + a1, r.2.2.2.2.2.2.2), S.2.2.2.2.2))
set_option maxRecDepth 100000 in
theorem wx_seen {a0 a1 : Int32} (hR : RepC g T h x S) (ho : h ou = some (la g 1 fo)) (hTo : T ou = (0, 30)) (k : ∀ (code ans : Int32) (S1 : CS) (h1 : Hp) (T1 : Tg), oc_seen S a0 a1 code ans S1 → RepC g T1 h1 x S1 → ExO g ou T h T1 h1 → (code = 0 → ∃ f, h1 ou = some (la g 1 f) ∧ f 0 = ans.toInt64) → PR (some (.int code)) h1) : Ct g y_LW_seen w_LW_seen 10 6 540 [.ref x, .int a0, .int a1, .ref ou] h PR PX := by
  obtain ⟨vs, hx⟩ := hR.rc
  refine ct_LW_seen hx (ct_RC_seen hR
    (fun y0 => Or.inl ⟨rfl, k 1 0 S h T (Or.inl ⟨rfl, rfl, y0⟩) hR (ExO.of Ext.rf ho hTo) (fun z => absurd z (by decide))⟩)
    (fun i r y0 y1 y2 => Or.inr (Or.inl ⟨rfl, k 2 0 S h T (Or.inr (Or.inl ⟨rfl, rfl, i, r, y0, y1, y2⟩)) hR (ExO.of Ext.rf ho hTo) (fun z => absurd z (by decide))⟩))
    (fun i r y0 y1 y2 y3 y4 => Or.inr (Or.inr (Or.inl ⟨rfl, k 3 0 S h T (Or.inr (Or.inr (Or.inl ⟨rfl, rfl, i, r, y0, y1, y2, y3, y4⟩))) hR (ExO.of Ext.rf ho hTo) (fun z => absurd z (by decide))⟩)))
    (fun i r y0 y1 y2 y3 y4 y5 => Or.inr (Or.inr (Or.inr (⟨rfl, k 4 0 S h T (Or.inr (Or.inr (Or.inr (Or.inl ⟨rfl, rfl, i, r, y0, y1, y2, y3, y4, y5⟩)))) hR (ExO.of Ext.rf ho hTo) (fun z => absurd z (by decide))⟩))))
    (fun i r y0 y1 y2 y3 y4 y5 h1 rr ee => ⟨_, fo, rfl, ((ee.2.1 ou (zne ho) (by rw [hTo])).trans ho), k 0 _ _ _ T (Or.inr (Or.inr (Or.inr (Or.inr (⟨rfl, i, r, y0, y1, y2, y3, y4, y5, rfl, rfl⟩))))) (RepC.put0 rr hTo) (ExO.put ee) (fun _ => ⟨_, zu_s, if_pos rfl⟩)⟩))
def oc_round (S : CS) (a0 : Int32) (code ans : Int32) (S1 : CS) : Prop :=
  (code = 1 ∧ S1 = S ∧ (a0 < 0 ∨ nI S.ro.length ≤ a0)) ∨
  (code = 2 ∧ S1 = S ∧ ∃ (i : Nat) (r : RoT), (a0 = nI i) ∧ (S.ro[i]? = some r) ∧ ((¬ r.rd < 3 ∨ S.md.countP (fun e => e.op ≠ 0) ≠ 0))) ∨
  (code = 0 ∧ ∃ (i : Nat) (r : RoT), (a0 = nI i) ∧ (S.ro[i]? = some r) ∧ (r.rd < 3) ∧ (S.md.countP (fun e => e.op ≠ 0) = 0) ∧ ans = nI (opC r 0 S.ps) ∧ S1 = (S.1, S.2.1, S.2.2.1, S.2.2.2.1, S.2.2.2.2.1.set i (r.1, r.2.1, r.2.2.1 + 1, r.2.2.2.1, r.2.2.2.2.1, r.2.2.2.2.2.1, r.2.2.2.2.2.2.1, r.2.2.2.2.2.2.2.1, if r.2.2.1 + 1 < 3 then r.2.2.2.2.2.2.2.2 else nI (opC r 0 S.ps)), S.2.2.2.2.2))
set_option maxRecDepth 100000 in
theorem wx_round {a0 : Int32} (hR : RepC g T h x S) (ho : h ou = some (la g 1 fo)) (hTo : T ou = (0, 30)) (k : ∀ (code ans : Int32) (S1 : CS) (h1 : Hp) (T1 : Tg), oc_round S a0 code ans S1 → RepC g T1 h1 x S1 → ExO g ou T h T1 h1 → (code = 0 → ∃ f, h1 ou = some (la g 1 f) ∧ f 0 = ans.toInt64) → PR (some (.int code)) h1) : Ct g y_LW_round w_LW_round 10 6 540 [.ref x, .int a0, .ref ou] h PR PX := by
  obtain ⟨vs, hx⟩ := hR.rc
  refine ct_LW_round hx (ct_RC_round hR
    (fun y0 => Or.inl ⟨rfl, k 1 0 S h T (Or.inl ⟨rfl, rfl, y0⟩) hR (ExO.of Ext.rf ho hTo) (fun z => absurd z (by decide))⟩)
    (fun i r y0 y1 y2 => Or.inr (⟨rfl, k 2 0 S h T (Or.inr (Or.inl ⟨rfl, rfl, i, r, y0, y1, y2⟩)) hR (ExO.of Ext.rf ho hTo) (fun z => absurd z (by decide))⟩))
    (fun i r y0 y1 y2 y3 h1 rr ee => ⟨_, fo, rfl, ((ee.2.1 ou (zne ho) (by rw [hTo])).trans ho), k 0 _ _ _ T (Or.inr (Or.inr (⟨rfl, i, r, y0, y1, y2, y3, rfl, rfl⟩))) (RepC.put0 rr hTo) (ExO.put ee) (fun _ => ⟨_, zu_s, if_pos rfl⟩)⟩))
def oc_rollAt (S : CS) (a0 a1 : Int32) (code ans : Int32) (S1 : CS) : Prop :=
  (code = 1 ∧ S1 = S ∧ (a0 < 0 ∨ nI S.ro.length ≤ a0)) ∨
  (code = 1 ∧ S1 = S ∧ ((a1.toInt < 0 ∨ 6 < a1.toInt))) ∨
  (code = 0 ∧ ∃ (i : Nat) (r : RoT), (a0 = nI i) ∧ (S.ro[i]? = some r) ∧ (¬ (a1.toInt < 0 ∨ 6 < a1.toInt)) ∧ ans = raF r S.ps a1 ∧ S1 = S)
set_option maxRecDepth 100000 in
theorem wx_rollAt {a0 a1 : Int32} (hR : RepC g T h x S) (ho : h ou = some (la g 1 fo)) (hTo : T ou = (0, 30)) (k : ∀ (code ans : Int32) (S1 : CS) (h1 : Hp) (T1 : Tg), oc_rollAt S a0 a1 code ans S1 → RepC g T1 h1 x S1 → ExO g ou T h T1 h1 → (code = 0 → ∃ f, h1 ou = some (la g 1 f) ∧ f 0 = ans.toInt64) → PR (some (.int code)) h1) : Ct g y_LW_rollAt w_LW_rollAt 10 6 540 [.ref x, .int a0, .int a1, .ref ou] h PR PX := by
  obtain ⟨vs, hx⟩ := hR.rc
  refine ct_LW_rollAt hx (ct_RC_rollAt hR
    (fun y0 => ⟨rfl, k 1 0 S h T (Or.inl ⟨rfl, rfl, y0⟩) hR (ExO.of Ext.rf ho hTo) (fun z => absurd z (by decide))⟩)
    (fun y0 => ⟨rfl, k 1 0 S h T (Or.inr (Or.inl ⟨rfl, rfl, y0⟩)) hR (ExO.of Ext.rf ho hTo) (fun z => absurd z (by decide))⟩)
    (fun i r y0 y1 y2 => ⟨_, fo, rfl, ho, k 0 _ _ _ T (Or.inr (Or.inr (⟨rfl, i, r, y0, y1, y2, rfl, rfl⟩))) (RepC.put0 hR hTo) (ExO.put Ext.rf) (fun _ => ⟨_, zu_s, if_pos rfl⟩)⟩))
def oc_missing (S : CS) (a0 a1 : Int32) (code ans : Int32) (S1 : CS) : Prop :=
  (code = 1 ∧ S1 = S ∧ (a0 < 0 ∨ nI S.ro.length ≤ a0)) ∨
  (code = 2 ∧ S1 = S ∧ ∃ (i : Nat) (r : RoT), (a0 = nI i) ∧ (S.ro[i]? = some r) ∧ (a1 < 0)) ∨
  (code = 3 ∧ S1 = S ∧ ∃ (i : Nat) (r : RoT), (a0 = nI i) ∧ (S.ro[i]? = some r) ∧ (¬ a1 < 0) ∧ (r.rd < 3)) ∨
  (code = 0 ∧ ∃ (i : Nat) (r : RoT), (a0 = nI i) ∧ (S.ro[i]? = some r) ∧ (¬ a1 < 0) ∧ (¬ r.rd < 3) ∧ ans = miF r a1 0 0 S.ps ∧ S1 = S)
set_option maxRecDepth 100000 in
theorem wx_missing {a0 a1 : Int32} (hR : RepC g T h x S) (ho : h ou = some (la g 1 fo)) (hTo : T ou = (0, 30)) (k : ∀ (code ans : Int32) (S1 : CS) (h1 : Hp) (T1 : Tg), oc_missing S a0 a1 code ans S1 → RepC g T1 h1 x S1 → ExO g ou T h T1 h1 → (code = 0 → ∃ f, h1 ou = some (la g 1 f) ∧ f 0 = ans.toInt64) → PR (some (.int code)) h1) : Ct g y_LW_missing w_LW_missing 10 6 540 [.ref x, .int a0, .int a1, .ref ou] h PR PX := by
  obtain ⟨vs, hx⟩ := hR.rc
  refine ct_LW_missing hx (ct_RC_missing hR
    (fun y0 => Or.inl ⟨rfl, k 1 0 S h T (Or.inl ⟨rfl, rfl, y0⟩) hR (ExO.of Ext.rf ho hTo) (fun z => absurd z (by decide))⟩)
    (fun i r y0 y1 y2 => Or.inr (Or.inl ⟨rfl, k 2 0 S h T (Or.inr (Or.inl ⟨rfl, rfl, i, r, y0, y1, y2⟩)) hR (ExO.of Ext.rf ho hTo) (fun z => absurd z (by decide))⟩))
    (fun i r y0 y1 y2 y3 => Or.inr (Or.inr (⟨rfl, k 3 0 S h T (Or.inr (Or.inr (Or.inl ⟨rfl, rfl, i, r, y0, y1, y2, y3⟩))) hR (ExO.of Ext.rf ho hTo) (fun z => absurd z (by decide))⟩)))
    (fun i r y0 y1 y2 y3 => ⟨_, fo, rfl, ho, k 0 _ _ _ T (Or.inr (Or.inr (Or.inr (⟨rfl, i, r, y0, y1, y2, y3, rfl, rfl⟩)))) (RepC.put0 hR hTo) (ExO.put Ext.rf) (fun _ => ⟨_, zu_s, if_pos rfl⟩)⟩))
def oc_twice (S : CS) (a0 a1 : Int32) (code ans : Int32) (S1 : CS) : Prop :=
  (code = 1 ∧ S1 = S ∧ (a0 < 0 ∨ nI S.db.length ≤ a0)) ∨
  (code = 1 ∧ S1 = S ∧ ((a1.toInt < 0 ∨ 3 < a1.toInt))) ∨
  (code = 0 ∧ ∃ (i : Nat) (r : DcT), (a0 = nI i) ∧ (S.db[i]? = some r) ∧ (¬ (a1.toInt < 0 ∨ 3 < a1.toInt)) ∧ ans = twF r a1 ∧ S1 = S)
set_option maxRecDepth 100000 in
theorem wx_twice {a0 a1 : Int32} (hR : RepC g T h x S) (ho : h ou = some (la g 1 fo)) (hTo : T ou = (0, 30)) (k : ∀ (code ans : Int32) (S1 : CS) (h1 : Hp) (T1 : Tg), oc_twice S a0 a1 code ans S1 → RepC g T1 h1 x S1 → ExO g ou T h T1 h1 → (code = 0 → ∃ f, h1 ou = some (la g 1 f) ∧ f 0 = ans.toInt64) → PR (some (.int code)) h1) : Ct g y_LW_twice w_LW_twice 10 6 540 [.ref x, .int a0, .int a1, .ref ou] h PR PX := by
  obtain ⟨vs, hx⟩ := hR.rc
  refine ct_LW_twice hx (ct_RC_twice hR
    (fun y0 => ⟨rfl, k 1 0 S h T (Or.inl ⟨rfl, rfl, y0⟩) hR (ExO.of Ext.rf ho hTo) (fun z => absurd z (by decide))⟩)
    (fun y0 => ⟨rfl, k 1 0 S h T (Or.inr (Or.inl ⟨rfl, rfl, y0⟩)) hR (ExO.of Ext.rf ho hTo) (fun z => absurd z (by decide))⟩)
    (fun i r y0 y1 y2 => ⟨_, fo, rfl, ho, k 0 _ _ _ T (Or.inr (Or.inr (⟨rfl, i, r, y0, y1, y2, rfl, rfl⟩))) (RepC.put0 hR hTo) (ExO.put Ext.rf) (fun _ => ⟨_, zu_s, if_pos rfl⟩)⟩))
def oc_mayday (S : CS) (a0 a1 : Int32) (code ans : Int32) (S1 : CS) : Prop :=
  (code = 1 ∧ S1 = S ∧ (a0 < 0 ∨ nI S.ps.length ≤ a0)) ∨
  (code = 2 ∧ S1 = S ∧ ∃ (i : Nat) (e : PeT), (a0 = nI i) ∧ (S.ps[i]? = some e) ∧ ((a1 < 0 ∨ 999 < a1))) ∨
  (code = 3 ∧ S1 = S ∧ ∃ (i : Nat) (e : PeT), (a0 = nI i) ∧ (S.ps[i]? = some e) ∧ (¬ a1 < 0) ∧ (a1 ≤ 999) ∧ ((e.1 = -1 ∨ S.md.any (fun e => e.op != 0 && e.1 == a0) = true))) ∨
  (code = 4 ∧ S1 = S ∧ ∃ (i : Nat) (e : PeT), (a0 = nI i) ∧ (S.ps[i]? = some e) ∧ (¬ a1 < 0) ∧ (a1 ≤ 999) ∧ (¬ e.1 = -1) ∧ (S.md.any (fun e => e.op != 0 && e.1 == a0) = false) ∧ (30 ≤ S.md.length)) ∨
  (code = 0 ∧ ∃ (i : Nat) (e : PeT), (a0 = nI i) ∧ (S.ps[i]? = some e) ∧ (¬ a1 < 0) ∧ (a1 ≤ 999) ∧ (¬ e.1 = -1) ∧ (S.md.any (fun e => e.op != 0 && e.1 == a0) = false) ∧ (S.md.length < 30) ∧ ans = nI S.md.length ∧ S1 = (S.1, S.2.1, S.2.2.1, S.2.2.2.1, S.2.2.2.2.1, S.2.2.2.2.2.1, S.2.2.2.2.2.2.1 ++ [(a0, a1, S.1, 1, lft S.md)], S.2.2.2.2.2.2.2))
set_option maxRecDepth 100000 in
theorem wx_mayday {a0 a1 : Int32} (hR : RepC g T h x S) (ho : h ou = some (la g 1 fo)) (hTo : T ou = (0, 30)) (k : ∀ (code ans : Int32) (S1 : CS) (h1 : Hp) (T1 : Tg), oc_mayday S a0 a1 code ans S1 → RepC g T1 h1 x S1 → ExO g ou T h T1 h1 → (code = 0 → ∃ f, h1 ou = some (la g 1 f) ∧ f 0 = ans.toInt64) → PR (some (.int code)) h1) : Ct g y_LW_mayday w_LW_mayday 10 6 540 [.ref x, .int a0, .int a1, .ref ou] h PR PX := by
  obtain ⟨vs, hx⟩ := hR.rc
  refine ct_LW_mayday hx (ct_RC_mayday hR
    (fun y0 => Or.inl ⟨rfl, k 1 0 S h T (Or.inl ⟨rfl, rfl, y0⟩) hR (ExO.of Ext.rf ho hTo) (fun z => absurd z (by decide))⟩)
    (fun i e y0 y1 y2 => Or.inr (Or.inl ⟨rfl, k 2 0 S h T (Or.inr (Or.inl ⟨rfl, rfl, i, e, y0, y1, y2⟩)) hR (ExO.of Ext.rf ho hTo) (fun z => absurd z (by decide))⟩))
    (fun i e y0 y1 y2 y3 y4 => Or.inr (Or.inr (Or.inl ⟨rfl, k 3 0 S h T (Or.inr (Or.inr (Or.inl ⟨rfl, rfl, i, e, y0, y1, y2, y3, y4⟩))) hR (ExO.of Ext.rf ho hTo) (fun z => absurd z (by decide))⟩)))
    (fun i e y0 y1 y2 y3 y4 y5 y6 => Or.inr (Or.inr (Or.inr (⟨rfl, k 4 0 S h T (Or.inr (Or.inr (Or.inr (Or.inl ⟨rfl, rfl, i, e, y0, y1, y2, y3, y4, y5, y6⟩)))) hR (ExO.of Ext.rf ho hTo) (fun z => absurd z (by decide))⟩))))
    (fun i e y0 y1 y2 y3 y4 y5 y6 h1 T1 rr ee => ⟨_, fo, rfl, ((ee.2.1 ou (zne ho) (by rw [hTo])).trans ho), k 0 _ _ _ T1 (Or.inr (Or.inr (Or.inr (Or.inr (⟨rfl, i, e, y0, y1, y2, y3, y4, y5, y6, rfl, rfl⟩))))) (RepC.put0 rr ((ee.1 ou (zne ho)).trans hTo)) (ExO.put ee) (fun _ => ⟨_, zu_s, if_pos rfl⟩)⟩))
def oc_answered (S : CS) (a0 : Int32) (code ans : Int32) (S1 : CS) : Prop :=
  (code = 1 ∧ S1 = S ∧ (a0 < 0 ∨ nI S.md.length ≤ a0)) ∨
  (code = 2 ∧ S1 = S ∧ ∃ (i : Nat) (e : MdT), (a0 = nI i) ∧ (S.md[i]? = some e) ∧ (e.op = 0)) ∨
  (code = 0 ∧ ∃ (i : Nat) (e : MdT), (a0 = nI i) ∧ (S.md[i]? = some e) ∧ (¬ e.op = 0) ∧ ans = 0 ∧ S1 = (S.1, S.2.1, S.2.2.1, S.2.2.2.1, S.2.2.2.2.1, S.2.2.2.2.2.1, (if e.tm = -1 then S.2.2.2.2.2.2.1.set i (e.1, e.2.1, e.2.2.1, 0, -1) else sendL e.tm (S.2.2.2.2.2.2.1.set i (e.1, e.2.1, e.2.2.1, 0, -1))), S.2.2.2.2.2.2.2))
set_option maxRecDepth 100000 in
theorem wx_answered {a0 : Int32} (hR : RepC g T h x S) (ho : h ou = some (la g 1 fo)) (hTo : T ou = (0, 30)) (k : ∀ (code ans : Int32) (S1 : CS) (h1 : Hp) (T1 : Tg), oc_answered S a0 code ans S1 → RepC g T1 h1 x S1 → ExO g ou T h T1 h1 → PR (some (.int code)) h1) : Ct g y_LW_answered w_LW_answered 10 6 540 [.ref x, .int a0] h PR PX := by
  obtain ⟨vs, hx⟩ := hR.rc
  refine ct_LW_answered hx (ct_RC_answered hR
    (fun y0 => Or.inl ⟨rfl, k 1 0 S h T (Or.inl ⟨rfl, rfl, y0⟩) hR (ExO.of Ext.rf ho hTo)⟩)
    (fun i e y0 y1 y2 => Or.inr (⟨rfl, k 2 0 S h T (Or.inr (Or.inl ⟨rfl, rfl, i, e, y0, y1, y2⟩)) hR (ExO.of Ext.rf ho hTo)⟩))
    (fun i e y0 y1 y2 h1 rr ee => ⟨rfl, k 0 0 _ _ T (Or.inr (Or.inr (⟨rfl, i, e, y0, y1, y2, rfl, rfl⟩))) rr (ExO.of ee ho hTo)⟩))
def oc_maydayAt (S : CS) (a0 a1 : Int32) (code ans : Int32) (S1 : CS) : Prop :=
  (code = 1 ∧ S1 = S ∧ (a0 < 0 ∨ nI S.md.length ≤ a0)) ∨
  (code = 1 ∧ S1 = S ∧ ((a1.toInt < 0 ∨ 4 < a1.toInt))) ∨
  (code = 0 ∧ ∃ (i : Nat) (r : MdT), (a0 = nI i) ∧ (S.md[i]? = some r) ∧ (¬ (a1.toInt < 0 ∨ 4 < a1.toInt)) ∧ ans = maF r a1 ∧ S1 = S)
set_option maxRecDepth 100000 in
theorem wx_maydayAt {a0 a1 : Int32} (hR : RepC g T h x S) (ho : h ou = some (la g 1 fo)) (hTo : T ou = (0, 30)) (k : ∀ (code ans : Int32) (S1 : CS) (h1 : Hp) (T1 : Tg), oc_maydayAt S a0 a1 code ans S1 → RepC g T1 h1 x S1 → ExO g ou T h T1 h1 → (code = 0 → ∃ f, h1 ou = some (la g 1 f) ∧ f 0 = ans.toInt64) → PR (some (.int code)) h1) : Ct g y_LW_maydayAt w_LW_maydayAt 10 6 540 [.ref x, .int a0, .int a1, .ref ou] h PR PX := by
  obtain ⟨vs, hx⟩ := hR.rc
  refine ct_LW_maydayAt hx (ct_RC_maydayAt hR
    (fun y0 => ⟨rfl, k 1 0 S h T (Or.inl ⟨rfl, rfl, y0⟩) hR (ExO.of Ext.rf ho hTo) (fun z => absurd z (by decide))⟩)
    (fun y0 => ⟨rfl, k 1 0 S h T (Or.inr (Or.inl ⟨rfl, rfl, y0⟩)) hR (ExO.of Ext.rf ho hTo) (fun z => absurd z (by decide))⟩)
    (fun i r y0 y1 y2 => ⟨_, fo, rfl, ho, k 0 _ _ _ T (Or.inr (Or.inr (⟨rfl, i, r, y0, y1, y2, rfl, rfl⟩))) (RepC.put0 hR hTo) (ExO.put Ext.rf) (fun _ => ⟨_, zu_s, if_pos rfl⟩)⟩))
def oc_evacuate (S : CS) (a0 : Int32) (code ans : Int32) (S1 : CS) : Prop :=
  (code = 1 ∧ S1 = S ∧ ((a0 < 1 ∨ 10000 < a0))) ∨
  (code = 2 ∧ S1 = S ∧ (¬ a0 < 1) ∧ (a0 ≤ 10000) ∧ ((isOnE S.ev = true ∨ dmN S.gf S.ps 0 10 0 = 0))) ∨
  (code = 3 ∧ S1 = S ∧ (¬ a0 < 1) ∧ (a0 ≤ 10000) ∧ (isOnE S.ev = false) ∧ (¬ dmN S.gf S.ps 0 10 0 = 0) ∧ (20 ≤ S.ev.length)) ∨
  (code = 0 ∧ ∃ (mu lt : Nat), (¬ a0 < 1) ∧ (a0 ≤ 10000) ∧ (isOnE S.ev = false) ∧ (¬ dmN S.gf S.ps 0 10 0 = 0) ∧ (S.ev.length < 20) ∧ ans = nI S.ev.length ∧ S1 = (S.1, S.2.1, S.2.2.1, S.2.2.2.1, S.2.2.2.2.1, S.2.2.2.2.2.1, S.2.2.2.2.2.2.1, S.2.2.2.2.2.2.2 ++ [evN S a0 mu lt]))
set_option maxRecDepth 100000 in
theorem wx_evacuate {a0 : Int32} (hR : RepC g T h x S) (ho : h ou = some (la g 1 fo)) (hTo : T ou = (0, 30)) (k : ∀ (code ans : Int32) (S1 : CS) (h1 : Hp) (T1 : Tg), oc_evacuate S a0 code ans S1 → RepC g T1 h1 x S1 → ExO g ou T h T1 h1 → (code = 0 → ∃ f, h1 ou = some (la g 1 f) ∧ f 0 = ans.toInt64) → PR (some (.int code)) h1) : Ct g y_LW_evacuate w_LW_evacuate 10 6 540 [.ref x, .int a0, .ref ou] h PR PX := by
  obtain ⟨vs, hx⟩ := hR.rc
  refine ct_LW_evacuate hx (ct_RC_evacuate hR
    (fun y0 => Or.inl ⟨rfl, k 1 0 S h T (Or.inl ⟨rfl, rfl, y0⟩) hR (ExO.of Ext.rf ho hTo) (fun z => absurd z (by decide))⟩)
    (fun y0 y1 y2 h1 T1 rr ee => Or.inr (Or.inl ⟨rfl, k 2 0 S h1 T1 (Or.inr (Or.inl ⟨rfl, rfl, y0, y1, y2⟩)) rr (ExO.of ee ho hTo) (fun z => absurd z (by decide))⟩))
    (fun y0 y1 y2 y3 y4 h1 T1 rr ee => Or.inr (Or.inr (⟨rfl, k 3 0 S h1 T1 (Or.inr (Or.inr (Or.inl ⟨rfl, rfl, y0, y1, y2, y3, y4⟩))) rr (ExO.of ee ho hTo) (fun z => absurd z (by decide))⟩)))
    (fun y0 y1 y2 y3 y4 h1 T1 mu lt rr ee => ⟨_, fo, rfl, ((ee.2.1 ou (zne ho) (by rw [hTo])).trans ho), k 0 _ _ _ T1 (Or.inr (Or.inr (Or.inr (⟨rfl, mu, lt, y0, y1, y2, y3, y4, rfl, rfl⟩)))) (RepC.put0 rr ((ee.1 ou (zne ho)).trans hTo)) (ExO.put ee) (fun _ => ⟨_, zu_s, if_pos rfl⟩)⟩))
def oc_confirm (S : CS) (a0 : Int32) (code ans : Int32) (S1 : CS) : Prop :=
  (code = 1 ∧ S1 = S ∧ ((a0 < 0 ∨ 10 ≤ a0))) ∨
  (code = 2 ∧ S1 = S ∧ (¬ a0 < 0) ∧ (a0 < 10) ∧ (isOnE S.ev = false)) ∨
  (code = 2 ∧ S1 = S ∧ ∃ (j i : Nat) (v : EvT), (a0 = nI j) ∧ (j < 10) ∧ (isOnE S.ev = true) ∧ (S.ev.length = i + 1) ∧ (S.ev[i]? = some v) ∧ (v.fm j = 0)) ∨
  (code = 0 ∧ ∃ (j i : Nat) (v : EvT), (a0 = nI j) ∧ (j < 10) ∧ (isOnE S.ev = true) ∧ (S.ev.length = i + 1) ∧ (S.ev[i]? = some v) ∧ (¬ v.fm j = 0) ∧ ans = v.2.2.1 - 1 ∧ S1 = (S.1, S.2.1, S.2.2.1, S.2.2.2.1, S.2.2.2.2.1, S.2.2.2.2.2.1, S.2.2.2.2.2.2.1, S.2.2.2.2.2.2.2.set i (v.1, (v.mu, v.lt, upd v.fm j 0, v.fl), (v.2.2.1 - 1, v.2.2.2))))
set_option maxRecDepth 100000 in
theorem wx_confirm {a0 : Int32} (hR : RepC g T h x S) (ho : h ou = some (la g 1 fo)) (hTo : T ou = (0, 30)) (k : ∀ (code ans : Int32) (S1 : CS) (h1 : Hp) (T1 : Tg), oc_confirm S a0 code ans S1 → RepC g T1 h1 x S1 → ExO g ou T h T1 h1 → (code = 0 → ∃ f, h1 ou = some (la g 1 f) ∧ f 0 = ans.toInt64) → PR (some (.int code)) h1) : Ct g y_LW_confirm w_LW_confirm 10 6 540 [.ref x, .int a0, .ref ou] h PR PX := by
  obtain ⟨vs, hx⟩ := hR.rc
  refine ct_LW_confirm hx (ct_RC_confirm hR
    (fun y0 => Or.inl ⟨rfl, k 1 0 S h T (Or.inl ⟨rfl, rfl, y0⟩) hR (ExO.of Ext.rf ho hTo) (fun z => absurd z (by decide))⟩)
    (fun y0 y1 y2 => Or.inr (⟨rfl, k 2 0 S h T (Or.inr (Or.inl ⟨rfl, rfl, y0, y1, y2⟩)) hR (ExO.of Ext.rf ho hTo) (fun z => absurd z (by decide))⟩))
    (fun j i v y0 y1 y2 y3 y4 y5 => Or.inr (⟨rfl, k 2 0 S h T (Or.inr (Or.inr (Or.inl ⟨rfl, rfl, j, i, v, y0, y1, y2, y3, y4, y5⟩))) hR (ExO.of Ext.rf ho hTo) (fun z => absurd z (by decide))⟩))
    (fun j i v y0 y1 y2 y3 y4 y5 h1 rr ee => ⟨_, fo, rfl, ((ee.2.1 ou (zne ho) (by rw [hTo])).trans ho), k 0 _ _ _ T (Or.inr (Or.inr (Or.inr (⟨rfl, j, i, v, y0, y1, y2, y3, y4, y5, rfl, rfl⟩)))) (RepC.put0 rr hTo) (ExO.put ee) (fun _ => ⟨_, zu_s, if_pos rfl⟩)⟩))
def oc_late (S : CS) (a0 a1 : Int32) (code ans : Int32) (S1 : CS) : Prop :=
  (code = 1 ∧ S1 = S ∧ (a0 < 0 ∨ nI S.ev.length ≤ a0)) ∨
  (code = 2 ∧ S1 = S ∧ ∃ (i : Nat) (v : EvT), (a0 = nI i) ∧ (S.ev[i]? = some v) ∧ (a1 < 0)) ∨
  (code = 0 ∧ ∃ (i : Nat) (v : EvT), (a0 = nI i) ∧ (S.ev[i]? = some v) ∧ (¬ a1 < 0) ∧ ans = laF v.fl a1 0 0 10 ∧ S1 = S)
set_option maxRecDepth 100000 in
theorem wx_late {a0 a1 : Int32} (hR : RepC g T h x S) (ho : h ou = some (la g 1 fo)) (hTo : T ou = (0, 30)) (k : ∀ (code ans : Int32) (S1 : CS) (h1 : Hp) (T1 : Tg), oc_late S a0 a1 code ans S1 → RepC g T1 h1 x S1 → ExO g ou T h T1 h1 → (code = 0 → ∃ f, h1 ou = some (la g 1 f) ∧ f 0 = ans.toInt64) → PR (some (.int code)) h1) : Ct g y_LW_late w_LW_late 10 6 540 [.ref x, .int a0, .int a1, .ref ou] h PR PX := by
  obtain ⟨vs, hx⟩ := hR.rc
  refine ct_LW_late hx (ct_RC_late hR
    (fun y0 => Or.inl ⟨rfl, k 1 0 S h T (Or.inl ⟨rfl, rfl, y0⟩) hR (ExO.of Ext.rf ho hTo) (fun z => absurd z (by decide))⟩)
    (fun i v y0 y1 y2 => Or.inr (⟨rfl, k 2 0 S h T (Or.inr (Or.inl ⟨rfl, rfl, i, v, y0, y1, y2⟩)) hR (ExO.of Ext.rf ho hTo) (fun z => absurd z (by decide))⟩))
    (fun i v y0 y1 y2 => ⟨_, fo, rfl, ho, k 0 _ _ _ T (Or.inr (Or.inr (⟨rfl, i, v, y0, y1, y2, rfl, rfl⟩))) (RepC.put0 hR hTo) (ExO.put Ext.rf) (fun _ => ⟨_, zu_s, if_pos rfl⟩)⟩))
def oc_tick (S : CS) (a0 : Int32) (code ans : Int32) (S1 : CS) : Prop :=
  (code = 1 ∧ S1 = S ∧ ((a0 < 1 ∨ 5000 < a0 ∨ 99999 - S.1 < a0))) ∨
  (code = 0 ∧ (¬ a0 < 1) ∧ (a0 ≤ 5000) ∧ (a0 ≤ 99999 - S.1) ∧ (isOnE S.ev = false) ∧ ans = 0 ∧ S1 = (S.1 + a0, S.2)) ∨
  (code = 0 ∧ (¬ a0 < 1) ∧ (a0 ≤ 5000) ∧ (a0 ≤ 99999 - S.1) ∧ (isOnE S.ev = true) ∧ (∃ (i : Nat) (v : EvT), S.ev.length = i + 1 ∧ S.ev[i]? = some v ∧ (¬ v.2.2.2 = 0 ∨ S.1 + a0 ≤ v.1)) ∧ ans = 0 ∧ S1 = (S.1 + a0, S.2)) ∨
  (code = 0 ∧ ∃ (i : Nat) (v : EvT), (¬ a0 < 1) ∧ (a0 ≤ 5000) ∧ (a0 ≤ 99999 - S.1) ∧ (isOnE S.ev = true) ∧ (S.ev.length = i + 1) ∧ (S.ev[i]? = some v) ∧ (v.2.2.2 = 0) ∧ (v.1 < S.1 + a0) ∧ ans = v.2.2.1 ∧ S1 = (S.1 + a0, S.2.1, S.2.2.1, S.2.2.2.1, S.2.2.2.2.1, S.2.2.2.2.2.1, S.2.2.2.2.2.2.1, S.2.2.2.2.2.2.2.set i (v.1, (v.mu, v.lt, v.fm, fun i => if i < 10 then v.fm i else v.fl i), (v.2.2.1, 1))))
set_option maxRecDepth 100000 in
theorem wx_tick {a0 : Int32} (hR : RepC g T h x S) (ho : h ou = some (la g 1 fo)) (hTo : T ou = (0, 30)) (k : ∀ (code ans : Int32) (S1 : CS) (h1 : Hp) (T1 : Tg), oc_tick S a0 code ans S1 → RepC g T1 h1 x S1 → ExO g ou T h T1 h1 → (code = 0 → ∃ f, h1 ou = some (la g 1 f) ∧ f 0 = ans.toInt64) → PR (some (.int code)) h1) : Ct g y_LW_tick w_LW_tick 10 6 540 [.ref x, .int a0, .ref ou] h PR PX := by
  obtain ⟨vs, hx⟩ := hR.rc
  refine ct_LW_tick hx (ct_RC_tick hR
    (fun y0 => ⟨rfl, k 1 0 S h T (Or.inl ⟨rfl, rfl, y0⟩) hR (ExO.of Ext.rf ho hTo) (fun z => absurd z (by decide))⟩)
    (fun y0 y1 y2 y3 h1 rr ee => ⟨_, fo, rfl, ((ee.2.1 ou (zne ho) (by rw [hTo])).trans ho), k 0 _ _ _ T (Or.inr (Or.inl ⟨rfl, y0, y1, y2, y3, rfl, rfl⟩)) (RepC.put0 rr hTo) (ExO.put ee) (fun _ => ⟨_, zu_s, if_pos rfl⟩)⟩)
    (fun y0 y1 y2 y3 i v z1 z2 z3 h1 rr ee => ⟨_, fo, rfl, ((ee.2.1 ou (zne ho) (by rw [hTo])).trans ho), k 0 _ _ _ T (Or.inr (Or.inr (Or.inl ⟨rfl, y0, y1, y2, y3, ⟨i, v, z1, z2, z3⟩, rfl, rfl⟩))) (RepC.put0 rr hTo) (ExO.put ee) (fun _ => ⟨_, zu_s, if_pos rfl⟩)⟩)
    (fun y0 y1 y2 y3 i v y4 y5 y6 y7 h1 rr ee => ⟨_, fo, rfl, ((ee.2.1 ou (zne ho) (by rw [hTo])).trans ho), k 0 _ _ _ T (Or.inr (Or.inr (Or.inr (⟨rfl, i, v, y0, y1, y2, y3, y4, y5, y6, y7, rfl, rfl⟩)))) (RepC.put0 rr hTo) (ExO.put ee) (fun _ => ⟨_, zu_s, if_pos rfl⟩)⟩))
def oc_was (S : CS) (a0 a1 : Int32) (code ans : Int32) (S1 : CS) : Prop :=
  (code = 1 ∧ S1 = S ∧ (a0 < 0 ∨ nI S.ps.length ≤ a0)) ∨
  (code = 2 ∧ S1 = S ∧ ∃ (i : Nat) (e : PeT), (a0 = nI i) ∧ (S.ps[i]? = some e) ∧ ((a1 < 0 ∨ S.1 < a1))) ∨
  (code = 0 ∧ ∃ (i : Nat) (e : PeT), (a0 = nI i) ∧ (S.ps[i]? = some e) ∧ (¬ a1 < 0) ∧ (a1 ≤ S.1) ∧ ans = wasF a0 a1 S.mv.reverse ∧ S1 = S)
set_option maxRecDepth 100000 in
theorem wx_was {a0 a1 : Int32} (hR : RepC g T h x S) (ho : h ou = some (la g 1 fo)) (hTo : T ou = (0, 30)) (k : ∀ (code ans : Int32) (S1 : CS) (h1 : Hp) (T1 : Tg), oc_was S a0 a1 code ans S1 → RepC g T1 h1 x S1 → ExO g ou T h T1 h1 → (code = 0 → ∃ f, h1 ou = some (la g 1 f) ∧ f 0 = ans.toInt64) → PR (some (.int code)) h1) : Ct g y_LW_was w_LW_was 10 6 540 [.ref x, .int a0, .int a1, .ref ou] h PR PX := by
  obtain ⟨vs, hx⟩ := hR.rc
  refine ct_LW_was hx (ct_RC_was hR
    (fun y0 => Or.inl ⟨rfl, k 1 0 S h T (Or.inl ⟨rfl, rfl, y0⟩) hR (ExO.of Ext.rf ho hTo) (fun z => absurd z (by decide))⟩)
    (fun i e y0 y1 y2 => Or.inr (⟨rfl, k 2 0 S h T (Or.inr (Or.inl ⟨rfl, rfl, i, e, y0, y1, y2⟩)) hR (ExO.of Ext.rf ho hTo) (fun z => absurd z (by decide))⟩))
    (fun i e y0 y1 y2 y3 => ⟨_, fo, rfl, ho, k 0 _ _ _ T (Or.inr (Or.inr (⟨rfl, i, e, y0, y1, y2, y3, rfl, rfl⟩))) (RepC.put0 hR hTo) (ExO.put Ext.rf) (fun _ => ⟨_, zu_s, if_pos rfl⟩)⟩))
def oc_count (S : CS) (a0 : Int32) (code ans : Int32) (S1 : CS) : Prop :=
  (code = 1 ∧ S1 = S ∧ ((a0.toInt < 0 ∨ 5 < a0.toInt))) ∨
  (code = 0 ∧ (¬ (a0.toInt < 0 ∨ 5 < a0.toInt)) ∧ ans = coF S a0 ∧ S1 = S)
set_option maxRecDepth 100000 in
theorem wx_count {a0 : Int32} (hR : RepC g T h x S) (ho : h ou = some (la g 1 fo)) (hTo : T ou = (0, 30)) (k : ∀ (code ans : Int32) (S1 : CS) (h1 : Hp) (T1 : Tg), oc_count S a0 code ans S1 → RepC g T1 h1 x S1 → ExO g ou T h T1 h1 → (code = 0 → ∃ f, h1 ou = some (la g 1 f) ∧ f 0 = ans.toInt64) → PR (some (.int code)) h1) : Ct g y_LW_count w_LW_count 10 6 540 [.ref x, .int a0, .ref ou] h PR PX := by
  obtain ⟨vs, hx⟩ := hR.rc
  refine ct_LW_count hx (ct_RC_count hR
    (fun y0 => ⟨rfl, k 1 0 S h T (Or.inl ⟨rfl, rfl, y0⟩) hR (ExO.of Ext.rf ho hTo) (fun z => absurd z (by decide))⟩)
    (fun y0 => ⟨_, fo, rfl, ho, k 0 _ _ _ T (Or.inr (⟨rfl, y0, rfl, rfl⟩)) (RepC.put0 hR hTo) (ExO.put Ext.rf) (fun _ => ⟨_, zu_s, if_pos rfl⟩)⟩))
end LB
