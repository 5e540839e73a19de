/-! the reference's state on the heap: kind 0, its object (0, 0), its arrays (0, 1 + j) -/
def bI (b : Bool) : Int32 := if b = true then 1 else 0
theorem bI_nar (b : Bool) : vp_nar .boolean (bI b) = bI b := by cases b <;> rfl
theorem bI_nv (b : Bool) : narrow FieldType.boolean (.int (bI b)) = .int (bI b) := by cases b <;> rfl
theorem bI0 {b : Bool} (h : bI b = 0) : b = false := by
  cases b
  · rfl
  · exact absurd h (by decide)
theorem bI1 {b : Bool} (h : ¬ bI b = 0) : b = true := by
  cases b
  · exact absurd rfl h
  · rfl
theorem bI_t : bI true = 1 := rfl
theorem bI_f : bI false = 0 := rfl
def szA (j : Nat) : Nat := [10, 300, 300, 300, 40, 40, 40, 40, 40, 40, 2400, 2400, 2400, 400, 30, 30, 30, 30, 30, 20, 200].getD j 0
abbrev mmA (g : zG) (j : Nat) (f : Nat → Int32) : va_E := .inl (g.ca (if j = 10 ∨ j = 12 ∨ j = 14 then 1 else 0), szA j, .inl f)
abbrev mmK (A : Nat → Nat) (th now np nm nr nd ny ne : Int32) : va_E := .inr (8, [.int th, .int now, .int np, .ref (A 0), .int nm, .ref (A 1), .ref (A 2), .ref (A 3), .int nr, .ref (A 4), .ref (A 5), .ref (A 6), .ref (A 7), .ref (A 8), .ref (A 9), .ref (A 10), .ref (A 11), .ref (A 12), .int nd, .ref (A 13), .int ny, .ref (A 14), .ref (A 15), .ref (A 16), .ref (A 17), .ref (A 18), .int ne, .ref (A 19), .ref (A 20)])
abbrev mmC (A : Nat → Nat) (th : Int32) (S : CS) : va_E := mmK A th S.sec (nI S.ps.length) (nI S.mv.length) (nI S.ro.length) (nI S.db.length) (nI S.md.length) (nI S.ev.length)
abbrev FT : Type := Nat → Nat → Int32
def RepM (g : zG) (T : Tg) (h : Hp) (mo : Nat) (A : Nat → Nat) (th : Int32) (S : CS) (F : FT) : Prop := h mo = some (mmC A th S) ∧ T mo = (0, 0) ∧ ∀ j, j < 21 → h (A j) = some (mmA g j (F j)) ∧ T (A j) = (0, j + 1)
def sF (F : FT) (j : Nat) (f : Nat → Int32) : FT := fun i => if i = j then f else F i
theorem sF_s {F : FT} {j : Nat} {f : Nat → Int32} : sF F j f j = f := if_pos rfl
theorem sF_n {F : FT} {i j : Nat} {f : Nat → Int32} (h : i ≠ j) : sF F j f i = F i := if_neg h
def ExM (T : Tg) (h h1 : Hp) : Prop := (∀ q, ((T q).1 = 0 → 21 < (T q).2) → h1 q = h q) ∧ (∀ q, h q ≠ none → h1 q ≠ none)
theorem ExM.rf {T : Tg} {h : Hp} : ExM T h h := ⟨fun _ _ => rfl, fun _ q => q⟩
theorem ExM.trans {T : Tg} {h h1 h2 : Hp} (a : ExM T h h1) (b : ExM T h1 h2) : ExM T h h2 := ⟨fun q hq => (b.1 q hq).trans (a.1 q hq), fun q hq => b.2 q (a.2 q hq)⟩
theorem ExM.put {T : Tg} {h : Hp} {a j : Nat} {e : va_E} (hk : T a = (0, j)) (hj : j ≤ 21) : ExM T h (zu h a e) := ⟨fun q hq => zu_n (fun z => by
    subst z
    rw [hk] at hq
    have := hq rfl
    omega), fun q hq => by
    by_cases hqa : q = a
    · rw [hqa, zu_s]; exact zsm
    · rw [zu_n hqa]; exact hq⟩
section RM
variable {g : zG} {T : Tg} {h : Hp} {mo : Nat} {A : Nat → Nat} {th : Int32} {S : CS} {F : FT}
theorem RepM.put (hM : RepM g T h mo A th S F) {j : Nat} (hj : j < 21) (f : Nat → Int32) : RepM g T (zu h (A j) (mmA g j f)) mo A th S (sF F j f) := by
  obtain ⟨h1, h2, h3⟩ := hM
  have hn : mo ≠ A j := fun z => by rw [z, (h3 j hj).2] at h2; have := (Prod.mk.inj h2).2; omega
  refine ⟨(zu_n hn).trans h1, h2, fun i hi => ⟨?_, (h3 i hi).2⟩⟩
  by_cases hij : i = j
  · subst hij; rw [sF_s]; exact zu_s
  · have hn2 : A i ≠ A j := fun z => by have q := (h3 i hi).2; rw [z, (h3 j hj).2] at q; have := (Prod.mk.inj q).2; omega
    rw [sF_n hij, zu_n hn2]; exact (h3 i hi).1
theorem RepM.fld (hM : RepM g T h mo A th S F) (th1 : Int32) (S1 : CS) : RepM g T (zu h mo (mmC A th1 S1)) mo A th1 S1 F := by
  obtain ⟨h1, h2, h3⟩ := hM
  refine ⟨zu_s, h2, fun i hi => ⟨?_, (h3 i hi).2⟩⟩
  have hn : A i ≠ mo := fun z => by rw [← z, (h3 i hi).2] at h2; have := (Prod.mk.inj h2).2; omega
  rw [zu_n hn]; exact (h3 i hi).1
theorem RepM.exP (hM : RepM g T h mo A th S F) {j : Nat} (hj : j < 21) {e : va_E} : ExM T h (zu h (A j) e) := ExM.put (hM.2.2 j hj).2 (by omega)
theorem RepM.exF (hM : RepM g T h mo A th S F) {e : va_E} : ExM T h (zu h mo e) := ExM.put hM.2.1 (by decide)
theorem RepM.a0 (hM : RepM g T h mo A th S F) : h (A 0) = some (ia g 10 (F 0)) := (hM.2.2 0 (by decide)).1
theorem RepM.a1 (hM : RepM g T h mo A th S F) : h (A 1) = some (ia g 300 (F 1)) := (hM.2.2 1 (by decide)).1
theorem RepM.a2 (hM : RepM g T h mo A th S F) : h (A 2) = some (ia g 300 (F 2)) := (hM.2.2 2 (by decide)).1
theorem RepM.a3 (hM : RepM g T h mo A th S F) : h (A 3) = some (ia g 300 (F 3)) := (hM.2.2 3 (by decide)).1
theorem RepM.a4 (hM : RepM g T h mo A th S F) : h (A 4) = some (ia g 40 (F 4)) := (hM.2.2 4 (by decide)).1
theorem RepM.a5 (hM : RepM g T h mo A th S F) : h (A 5) = some (ia g 40 (F 5)) := (hM.2.2 5 (by decide)).1
theorem RepM.a6 (hM : RepM g T h mo A th S F) : h (A 6) = some (ia g 40 (F 6)) := (hM.2.2 6 (by decide)).1
theorem RepM.a7 (hM : RepM g T h mo A th S F) : h (A 7) = some (ia g 40 (F 7)) := (hM.2.2 7 (by decide)).1
theorem RepM.a8 (hM : RepM g T h mo A th S F) : h (A 8) = some (ia g 40 (F 8)) := (hM.2.2 8 (by decide)).1
theorem RepM.a9 (hM : RepM g T h mo A th S F) : h (A 9) = some (ia g 40 (F 9)) := (hM.2.2 9 (by decide)).1
theorem RepM.a10 (hM : RepM g T h mo A th S F) : h (A 10) = some (ba g 2400 (F 10)) := (hM.2.2 10 (by decide)).1
theorem RepM.a11 (hM : RepM g T h mo A th S F) : h (A 11) = some (ia g 2400 (F 11)) := (hM.2.2 11 (by decide)).1
theorem RepM.a12 (hM : RepM g T h mo A th S F) : h (A 12) = some (ba g 2400 (F 12)) := (hM.2.2 12 (by decide)).1
theorem RepM.a13 (hM : RepM g T h mo A th S F) : h (A 13) = some (ia g 400 (F 13)) := (hM.2.2 13 (by decide)).1
theorem RepM.a14 (hM : RepM g T h mo A th S F) : h (A 14) = some (ba g 30 (F 14)) := (hM.2.2 14 (by decide)).1
theorem RepM.a15 (hM : RepM g T h mo A th S F) : h (A 15) = some (ia g 30 (F 15)) := (hM.2.2 15 (by decide)).1
theorem RepM.a16 (hM : RepM g T h mo A th S F) : h (A 16) = some (ia g 30 (F 16)) := (hM.2.2 16 (by decide)).1
theorem RepM.a17 (hM : RepM g T h mo A th S F) : h (A 17) = some (ia g 30 (F 17)) := (hM.2.2 17 (by decide)).1
theorem RepM.a18 (hM : RepM g T h mo A th S F) : h (A 18) = some (ia g 30 (F 18)) := (hM.2.2 18 (by decide)).1
theorem RepM.a19 (hM : RepM g T h mo A th S F) : h (A 19) = some (ia g 20 (F 19)) := (hM.2.2 19 (by decide)).1
theorem RepM.a20 (hM : RepM g T h mo A th S F) : h (A 20) = some (ia g 200 (F 20)) := (hM.2.2 20 (by decide)).1
end RM
/-! the reference's small methods -/
def inB (x a b : Int32) : Bool := decide (a ≤ x) && decide (x ≤ b)
def inN (x : Int32) (n : Nat) : Bool := decide (¬ x < 0 ∧ x < nI n)
theorem inN_eq (x : Int32) {n : Nat} (hn : n ≤ 1000) : inB x 0 (nI n - 1) = inN x n := by
  unfold inB inN
  rw [← Bool.decide_and]
  congr 1
  rw [Int32.not_lt]
  have key : (x ≤ nI n - 1 ∧ 0 ≤ x) = (x < nI n ∧ 0 ≤ x) := by
    rcases Nat.eq_zero_or_pos n with rfl | hp
    · refine propext ⟨fun q => ?_, fun q => ?_⟩
      · exact absurd (Int32.le_trans q.2 q.1) (by decide)
      · exact absurd (Int32.lt_of_le_of_lt q.2 q.1) (by decide)
    · rw [znI_pred hp]
      have e1 : (nI (n - 1)).toInt = ((n - 1 : Nat) : Int) := nI_toInt (by omega)
      have e2 : (nI n).toInt = (n : Int) := nI_toInt (by omega)
      refine propext ⟨fun q => ⟨?_, q.2⟩, fun q => ⟨?_, q.2⟩⟩
      · rw [Int32.lt_iff_toInt_lt, e2]
        have := Int32.le_iff_toInt_le.mp q.1
        rw [e1] at this
        omega
      · rw [Int32.le_iff_toInt_le, e1]
        have := Int32.lt_iff_toInt_lt.mp q.1
        rw [e2] at this
        omega
  rw [And.comm, key, And.comm]
theorem inN10 (x : Int32) : inB x 0 9 = inN x 10 := inN_eq x (n := 10) (by decide)
theorem inN_t {x : Int32} {n : Nat} (hn : n ≤ 1000) (h : inN x n = true) : ∃ i, i < n ∧ x = nI i := by
  have h2 := of_decide_eq_true h
  obtain ⟨j, hj, e, -⟩ := pk_mu (L := n) h2.1 (Int32.not_le.mpr h2.2) (by omega)
  exact ⟨j, hj, e⟩
theorem inN_f {x : Int32} {n : Nat} (h : inN x n = false) : x < 0 ∨ nI n ≤ x := by
  have h2 := of_decide_eq_false h
  by_cases h3 : x < 0
  · exact Or.inl h3
  · right
    rcases Int32.le_total (nI n) x with q | q
    · exact q
    · by_cases h4 : x < nI n
      · exact absurd ⟨h3, h4⟩ h2
      · exact Int32.not_lt.mp h4
theorem inN_ft {x : Int32} {n : Nat} (h : x < 0 ∨ nI n ≤ x) : inN x n = false := decide_eq_false (fun q => by
  rcases h with h | h
  · exact q.1 h
  · exact Int32.not_lt.mpr h q.2)
theorem inN_nI {i n : Nat} (hi : i < n) (hn : n ≤ 1000) : inN (nI i) n = true := decide_eq_true ⟨nI_pos (by omega), nI_lt hi (by omega)⟩
def gc (k b : Int32) : Int32 := if k &&& b ≤ 0 then 0 else 1
def goT (k : Int32) (kn rg st rm : Bool) : Int32 := if kn = false then 0 + gc k 1 else if rg = false then 0 + gc k 1 + gc k 2 else if st = false then 0 + gc k 1 + gc k 2 + gc k 4 else if rm = false then 0 + gc k 1 + gc k 2 + gc k 4 + gc k 8 else 0
section MW
variable {g : zG} {T : Tg} {h : Hp} {PR : Option Value → Hp → Prop} {PX : String → Hp → Prop} {mo : Nat} {A : Nat → Nat} {th : Int32} {S : CS} {F : FT}
set_option maxRecDepth 100000 in
theorem ct_MM_thrown (hM : RepM g T h mo A th S F) (k : PR (some (.int th)) h) : Ct g y_MM_thrown w_MM_thrown 1 0 0 [.ref mo] h PR PX := by
  refine Ct_intro (cc := c_MM_thrown) (nL := 1) (ret := (some FieldType.int)) (ls := [some (.ref mo)]) (by decide) (Nat.le_of_ble_eq_true rfl) rfl rfl ?_
  intro p e R s m args below meth c C ht hname
  refine z_aload_n C d_MM_thrown_0 rfl rfl ?_
  refine z_get (ci := 8) (T := T_MM) (N := 29) C d_MM_thrown_1 0 i_MM rfl (by decide) k_747 (fun _ q => q) (hM.1) (by rfl) ?_
  refine z_iret C d_MM_thrown_4 ?_
  exact k
set_option maxRecDepth 100000 in
theorem ct_MM_in {x a b : Int32} (k : PR (some (.int (bI (inB x a b)))) h) : Ct g y_MM_in w_MM_in 1 0 0 [.int x, .int a, .int b] h PR PX := by
  refine Ct_intro (cc := c_MM_in) (nL := 3) (ret := (some FieldType.boolean)) (ls := [some (.int x), some (.int a), some (.int b)]) (by decide) (Nat.le_of_ble_eq_true rfl) rfl rfl ?_
  intro p e R s m args below meth c C ht hname
  refine z_iload_n C d_MM_in_0 rfl rfl ?_
  refine z_iload_n C d_MM_in_1 rfl rfl ?_
  refine z_icmp_lt 14 C d_MM_in_2 (by decide) (fun c2 => ?_) (fun c2 => ?_)
  · refine z_iconst (v := 0) C d_MM_in_14 (by decide) ?_
    refine z_zret C d_MM_in_15 (by first | rfl | assumption | exact bI_nv _) ?_
    rw [inB, decide_eq_false (Int32.not_le.mpr c2)] at k
    exact k
  · rw [inB, decide_eq_true (Int32.not_lt.mp c2)] at k
    refine z_iload_n C d_MM_in_5 rfl rfl ?_
    refine z_iload_n C d_MM_in_6 rfl rfl ?_
    refine z_icmp_gt 14 C d_MM_in_7 (by decide) (fun c7 => ?_) (fun c7 => ?_)
    · refine z_iconst (v := 0) C d_MM_in_14 (by decide) ?_
      refine z_zret C d_MM_in_15 (by first | rfl | assumption | exact bI_nv _) ?_
      rw [decide_eq_false (Int32.not_le.mpr c7)] at k
      exact k
    · rw [decide_eq_true (Int32.not_lt.mp c7)] at k
      refine z_iconst (v := 1) C d_MM_in_10 (by decide) ?_
      refine z_goto 15 C d_MM_in_11 (by decide) ?_
      refine z_zret C d_MM_in_15 (by first | rfl | assumption | exact bI_nv _) ?_
      exact k
set_option maxRecDepth 100000 in
theorem ct_MM_isPerson {x : Int32} (hM : RepM g T h mo A th S F) (hb : S.ps.length ≤ 60) (k : PR (some (.int (bI (inN x S.ps.length)))) h) : Ct g y_MM_isPerson w_MM_isPerson 2 0 0 [.ref mo, .int x] h PR PX := by
  refine Ct_intro (cc := c_MM_isPerson) (nL := 2) (ret := (some FieldType.boolean)) (ls := [some (.ref mo), some (.int x)]) (by decide) (Nat.le_of_ble_eq_true rfl) rfl rfl ?_
  intro p e R s m args below meth c C ht hname
  refine z_iload_n C d_MM_isPerson_0 rfl rfl ?_
  refine z_iconst (v := 0) C d_MM_isPerson_1 (by decide) ?_
  refine z_aload_n C d_MM_isPerson_2 rfl rfl ?_
  refine z_get (ci := 8) (T := T_MM) (N := 29) C d_MM_isPerson_3 2 i_MM rfl (by decide) k_749 (fun _ q => q) (hM.1) (by rfl) ?_
  refine z_iconst (v := 1) C d_MM_isPerson_6 (by decide) ?_
  refine z_isub C d_MM_isPerson_7 ?_
  refine z_callS (n := 3) (As := [.int x, .int 0, .int (nI S.ps.length - 1)]) (rest := []) (r1 := 1) (mc1 := 0) (ms1 := 0) C d_MM_isPerson_8 k_857 k_855 k_856 k_5 (by decide +kernel) rfl (by decide) (by decide) (Nat.le_of_ble_eq_true rfl) (by first | decide | omega) (by first | decide | omega) rfl ?_
  refine ct_MM_in ?_
  dsimp only [zps]
  rw [inN_eq x (by omega)]
  refine z_zret C d_MM_isPerson_11 (by first | rfl | assumption | exact bI_nv _) ?_
  exact k
set_option maxRecDepth 100000 in
theorem ct_MM_isRoll {x : Int32} (hM : RepM g T h mo A th S F) (hb : S.ro.length ≤ 40) (k : PR (some (.int (bI (inN x S.ro.length)))) h) : Ct g y_MM_isRoll w_MM_isRoll 2 0 0 [.ref mo, .int x] h PR PX := by
  refine Ct_intro (cc := c_MM_isRoll) (nL := 2) (ret := (some FieldType.boolean)) (ls := [some (.ref mo), some (.int x)]) (by decide) (Nat.le_of_ble_eq_true rfl) rfl rfl ?_
  intro p e R s m args below meth c C ht hname
  refine z_iload_n C d_MM_isRoll_0 rfl rfl ?_
  refine z_iconst (v := 0) C d_MM_isRoll_1 (by decide) ?_
  refine z_aload_n C d_MM_isRoll_2 rfl rfl ?_
  refine z_get (ci := 8) (T := T_MM) (N := 29) C d_MM_isRoll_3 8 i_MM rfl (by decide) k_755 (fun _ q => q) (hM.1) (by rfl) ?_
  refine z_iconst (v := 1) C d_MM_isRoll_6 (by decide) ?_
  refine z_isub C d_MM_isRoll_7 ?_
  refine z_callS (n := 3) (As := [.int x, .int 0, .int (nI S.ro.length - 1)]) (rest := []) (r1 := 1) (mc1 := 0) (ms1 := 0) C d_MM_isRoll_8 k_857 k_855 k_856 k_5 (by decide +kernel) rfl (by decide) (by decide) (Nat.le_of_ble_eq_true rfl) (by first | decide | omega) (by first | decide | omega) rfl ?_
  refine ct_MM_in ?_
  dsimp only [zps]
  rw [inN_eq x (by omega)]
  refine z_zret C d_MM_isRoll_11 (by first | rfl | assumption | exact bI_nv _) ?_
  exact k
set_option maxRecDepth 100000 in
theorem ct_MM_isSector {x : Int32} (k : PR (some (.int (bI (inN x 10)))) h) : Ct g y_MM_isSector w_MM_isSector 2 0 0 [.int x] h PR PX := by
  refine Ct_intro (cc := c_MM_isSector) (nL := 1) (ret := (some FieldType.boolean)) (ls := [some (.int x)]) (by decide) (Nat.le_of_ble_eq_true rfl) rfl rfl ?_
  intro p e R s m args below meth c C ht hname
  refine z_iload_n C d_MM_isSector_0 rfl rfl ?_
  refine z_iconst (v := 0) C d_MM_isSector_1 (by decide) ?_
  refine z_bipush (v := 9) C d_MM_isSector_2 (by decide) ?_
  refine z_callS (n := 3) (As := [.int x, .int 0, .int 9]) (rest := []) (r1 := 1) (mc1 := 0) (ms1 := 0) C d_MM_isSector_4 k_857 k_855 k_856 k_5 (by decide +kernel) rfl (by decide) (by decide) (Nat.le_of_ble_eq_true rfl) (by first | decide | omega) (by first | decide | omega) rfl ?_
  refine ct_MM_in ?_
  dsimp only [zps]
  rw [inN10]
  refine z_zret C d_MM_isSector_7 (by first | rfl | assumption | exact bI_nv _) ?_
  exact k
set_option maxRecDepth 100000 in
theorem ct_MM_goes {kk : Int32} {kn rg st rm : Bool} (hM : RepM g T h mo A th S F) (k : ∀ h1, RepM g T h1 mo A (goT kk kn rg st rm) S F → ExM T h h1 → PR (some (.int (bI (kn && rg && st && rm)))) h1) : Ct g y_MM_goes w_MM_goes 1 0 0 [.ref mo, .int kk, .int (bI kn), .int (bI rg), .int (bI st), .int (bI rm)] h PR PX := by
  refine Ct_intro (cc := c_MM_goes) (nL := 8) (ret := (some FieldType.boolean)) (ls := [some (.ref mo), some (.int kk), some (.int (bI kn)), some (.int (bI rg)), some (.int (bI st)), some (.int (bI rm)), none, none]) (by decide) (Nat.le_of_ble_eq_true rfl) rfl rfl ?_
  intro p e R s m args below meth c C ht hname
  have step : ∀ (h1 : Hp) (t b bit : Int32), b ≤ bit → RepM g T h1 mo A t S F → (∀ h2, ExM T h1 h2 → RepM g T h2 mo A (t + gc kk b) S F → Z g 8 0 0 p e R s m args below meth c (vx_MQ below (zQ g PR) (zX g PX) args s 0 0 (zA g)) 0 0 46 [some (.ref mo), some (.int kk), some (.int (bI kn)), some (.int (bI rg)), some (.int (bI st)), some (.int (bI rm)), some (.int bit), some (.int (2 * b))] [] h2) → Z g 8 0 0 p e R s m args below meth c (vx_MQ below (zQ g PR) (zX g PX) args s 0 0 (zA g)) 0 0 46 [some (.ref mo), some (.int kk), some (.int (bI kn)), some (.int (bI rg)), some (.int (bI st)), some (.int (bI rm)), some (.int bit), some (.int b)] [] h1 := by
    intro h1 t b bit hb h9 hk
    refine z_iload C d_MM_goes_46 rfl ?_
    refine z_iload C d_MM_goes_48 rfl ?_
    refine z_icmp_gt 79 C d_MM_goes_50 (by decide) (fun c50 => ?_) (fun c50 => ?_)
    · exact absurd c50 (Int32.not_lt.mpr hb)
    · refine z_iload_n C d_MM_goes_53 rfl rfl ?_
      refine z_iload C d_MM_goes_54 rfl ?_
      refine z_iand C d_MM_goes_56 ?_
      refine z_if_le 70 C d_MM_goes_57 (by decide) (fun c57 => ?_) (fun c57 => ?_)
      · refine z_iconst (v := 2) C d_MM_goes_70 (by decide) ?_
        refine z_iload C d_MM_goes_71 rfl ?_
        refine z_imul C d_MM_goes_73 ?_
        refine z_istore C d_MM_goes_74 (by decide) rfl ?_
        dsimp only [List.set]
        refine z_goto 46 C d_MM_goes_76 (by decide) ?_
        refine hk h1 ExM.rf ?_
        rw [gc, if_pos c57, Int32.add_zero]
        exact h9
      · refine z_aload_n C d_MM_goes_60 rfl rfl ?_
        refine z_dup C d_MM_goes_61 rfl ?_
        refine z_get (ci := 8) (T := T_MM) (N := 29) C d_MM_goes_62 0 i_MM rfl (by decide) k_747 (fun _ q => q) (h9.1) (by rfl) ?_
        refine z_iconst (v := 1) C d_MM_goes_65 (by decide) ?_
        refine z_iadd C d_MM_goes_66 ?_
        refine z_put (ci := 8) (T := T_MM) (N := 29) (ty := .int) C d_MM_goes_67 0 ty_MM t_MM n_MM i_MM rfl (by decide) k_747 (fun _ q => q) rfl (by decide +kernel) (by rfl) (by rfl) (h9.1) (by exact Nat.le_of_ble_eq_true rfl) ?_
        dsimp only [List.set]
        refine z_iconst (v := 2) C d_MM_goes_70 (by decide) ?_
        refine z_iload C d_MM_goes_71 rfl ?_
        refine z_imul C d_MM_goes_73 ?_
        refine z_istore C d_MM_goes_74 (by decide) rfl ?_
        dsimp only [List.set]
        refine z_goto 46 C d_MM_goes_76 (by decide) ?_
        refine hk _ h9.exF ?_
        rw [gc, if_neg c57]
        exact h9.fld (t + 1) S
  have fin : ∀ (h1 : Hp) (t b bit : Int32), bit < b → RepM g T h1 mo A t S F → ExM T h h1 → t = goT kk kn rg st rm → bI (decide (bit = 0)) = bI (kn && rg && st && rm) → Z g 8 0 0 p e R s m args below meth c (vx_MQ below (zQ g PR) (zX g PX) args s 0 0 (zA g)) 0 0 46 [some (.ref mo), some (.int kk), some (.int (bI kn)), some (.int (bI rg)), some (.int (bI st)), some (.int (bI rm)), some (.int bit), some (.int b)] [] h1 := by
    intro h1 t b bit hb h9 hE ht1 hbit
    subst ht1
    have k2 := k h1 h9 hE
    rw [← hbit] at k2
    refine z_iload C d_MM_goes_46 rfl ?_
    refine z_iload C d_MM_goes_48 rfl ?_
    refine z_icmp_gt 79 C d_MM_goes_50 (by decide) (fun c50 => ?_) (fun c50 => ?_)
    · refine z_iload C d_MM_goes_79 rfl ?_
      refine z_if_ne 88 C d_MM_goes_81 (by decide) (fun c81 => ?_) (fun c81 => ?_)
      · rw [decide_eq_false c81] at k2
        refine z_iconst (v := 0) C d_MM_goes_88 (by decide) ?_
        refine z_zret C d_MM_goes_89 (by first | rfl | assumption | exact bI_nv _) ?_
        exact k2
      · rw [decide_eq_true c81] at k2
        refine z_iconst (v := 1) C d_MM_goes_84 (by decide) ?_
        refine z_goto 89 C d_MM_goes_85 (by decide) ?_
        refine z_zret C d_MM_goes_89 (by first | rfl | assumption | exact bI_nv _) ?_
        exact k2
    · exact absurd hb c50
  have join : ∀ (bit : Int32), (∀ h1, RepM g T h1 mo A 0 S F → ExM T h h1 → Z g 8 0 0 p e R s m args below meth c (vx_MQ below (zQ g PR) (zX g PX) args s 0 0 (zA g)) 0 0 46 [some (.ref mo), some (.int kk), some (.int (bI kn)), some (.int (bI rg)), some (.int (bI st)), some (.int (bI rm)), some (.int bit), some (.int 1)] [] h1) → Z g 8 0 0 p e R s m args below meth c (vx_MQ below (zQ g PR) (zX g PX) args s 0 0 (zA g)) 0 0 36 [some (.ref mo), some (.int kk), some (.int (bI kn)), some (.int (bI rg)), some (.int (bI st)), some (.int (bI rm)), none, none] [.int bit] h := by
    intro bit hk
    refine z_istore C d_MM_goes_36 (by decide) rfl ?_
    dsimp only [List.set]
    refine z_aload_n C d_MM_goes_38 rfl rfl ?_
    refine z_iconst (v := 0) C d_MM_goes_39 (by decide) ?_
    refine z_put (ci := 8) (T := T_MM) (N := 29) (ty := .int) C d_MM_goes_40 0 ty_MM t_MM n_MM i_MM rfl (by decide) k_747 (fun _ q => q) rfl (by decide +kernel) (by rfl) (by rfl) (hM.1) (by exact Nat.le_of_ble_eq_true rfl) ?_
    dsimp only [List.set]
    refine z_iconst (v := 1) C d_MM_goes_43 (by decide) ?_
    refine z_istore C d_MM_goes_44 (by decide) rfl ?_
    dsimp only [List.set]
    exact hk _ (hM.fld 0 S) hM.exF
  refine z_iload_n C d_MM_goes_0 rfl rfl ?_
  refine z_if_ne 8 C d_MM_goes_1 (by decide) (fun c1 => ?_) (fun c1 => ?_)
  · cases bI1 c1
    refine z_iload_n C d_MM_goes_8 rfl rfl ?_
    refine z_if_ne 16 C d_MM_goes_9 (by decide) (fun c9 => ?_) (fun c9 => ?_)
    · cases bI1 c9
      refine z_iload C d_MM_goes_16 rfl ?_
      refine z_if_ne 25 C d_MM_goes_18 (by decide) (fun c18 => ?_) (fun c18 => ?_)
      · cases bI1 c18
        refine z_iload C d_MM_goes_25 rfl ?_
        refine z_if_ne 35 C d_MM_goes_27 (by decide) (fun c27 => ?_) (fun c27 => ?_)
        · cases bI1 c27
          refine z_iconst (v := 0) C d_MM_goes_35 (by decide) ?_
          refine join 0 (fun h1 r1 e1 => ?_)
          exact fin h1 0 1 0 (by decide) r1 e1 rfl rfl
        · cases bI0 c27
          refine z_bipush (v := 8) C d_MM_goes_30 (by decide) ?_
          refine z_goto 36 C d_MM_goes_32 (by decide) ?_
          refine join 8 (fun h1 r1 e1 => ?_)
          refine step h1 0 1 8 (by decide) r1 (fun h2 e2 r2 => ?_)
          refine step h2 _ (2 * 1) 8 (by decide) r2 (fun h3 e3 r3 => ?_)
          refine step h3 _ (2 * (2 * 1)) 8 (by decide) r3 (fun h4 e4 r4 => ?_)
          refine step h4 _ (2 * (2 * (2 * 1))) 8 (by decide) r4 (fun h5 e5 r5 => ?_)
          exact fin h5 _ _ 8 (by decide) r5 (((((e1.trans e2).trans e3).trans e4)).trans e5) rfl rfl
      · cases bI0 c18
        refine z_iconst (v := 4) C d_MM_goes_21 (by decide) ?_
        refine z_goto 36 C d_MM_goes_22 (by decide) ?_
        refine join 4 (fun h1 r1 e1 => ?_)
        refine step h1 0 1 4 (by decide) r1 (fun h2 e2 r2 => ?_)
        refine step h2 _ (2 * 1) 4 (by decide) r2 (fun h3 e3 r3 => ?_)
        refine step h3 _ (2 * (2 * 1)) 4 (by decide) r3 (fun h4 e4 r4 => ?_)
        exact fin h4 _ _ 4 (by decide) r4 (((e1.trans e2).trans e3).trans e4) rfl rfl
    · cases bI0 c9
      refine z_iconst (v := 2) C d_MM_goes_12 (by decide) ?_
      refine z_goto 36 C d_MM_goes_13 (by decide) ?_
      refine join 2 (fun h1 r1 e1 => ?_)
      refine step h1 0 1 2 (by decide) r1 (fun h2 e2 r2 => ?_)
      refine step h2 _ (2 * 1) 2 (by decide) r2 (fun h3 e3 r3 => ?_)
      exact fin h3 _ _ 2 (by decide) r3 ((e1.trans e2).trans e3) rfl rfl
  · cases bI0 c1
    refine z_iconst (v := 1) C d_MM_goes_4 (by decide) ?_
    refine z_goto 36 C d_MM_goes_5 (by decide) ?_
    refine join 1 (fun h1 r1 e1 => ?_)
    refine step h1 0 1 1 (by decide) r1 (fun h2 e2 r2 => ?_)
    exact fin h2 _ _ 1 (by decide) r2 (e1.trans e2) rfl rfl
end MW
