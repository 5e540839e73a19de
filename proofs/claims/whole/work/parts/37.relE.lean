/-! what keeps the relation: evacuate, confirm, tick; answers -/
theorem onM_eq {S : CS} {F : FT} (H : Rel S F) : onM S F = isOnE S.ev := by
  obtain ⟨⟨-, -, -, -, -, b6, -⟩, -, -, -, -, -, -, -, hE, -⟩ := H
  unfold onM isOnE
  by_cases h0 : S.ev = []
  · rw [h0]
    rfl
  · obtain ⟨v, hv, hv2⟩ := zlast h0
    have hp : 0 < S.ev.length := List.length_pos_iff.mpr h0
    rw [hv2, decide_eq_true hp, Bool.true_and]
    obtain ⟨-, -, r3, -⟩ := hE _ v hv
    have hle := cnt_le (fun q => F 20 ((S.ev.length - 1) * 10 + q) == -1) 10 0
    dsimp only
    rw [r3]
    generalize cnt (fun q => F 20 ((S.ev.length - 1) * 10 + q) == -1) 0 10 = c at hle
    refine decide_eq_decide.mpr ?_
    rw [← nI_0, nI_ltI (by omega) (by omega)]
theorem dmF_at (gf : Nat → Int32) (ps : List PeT) : ∀ (j i : Nat) (f : Nat → Int32) (q : Nat), dmF gf ps i j f q = if i ≤ q ∧ q < i + j ∧ dmB gf ps q = true then 1 else f q
  | 0, i, f, q => by rw [dmF, if_neg (fun z => by omega)]
  | j + 1, i, f, q => by
    rw [dmF, dmF_at gf ps j (i + 1)]
    by_cases hq : q = i
    · subst hq
      have n1 : ¬ (q + 1 ≤ q ∧ q < q + 1 + j ∧ dmB gf ps q = true) := fun z => by omega
      rw [if_neg n1]
      cases hb : dmB gf ps q with
      | true => rw [if_pos rfl, upd_e, if_pos ⟨Nat.le_refl _, by omega, rfl⟩]
      | false => rw [if_neg (by decide), if_neg (fun z => by cases z.2.2)]
    · have e8 : (if dmB gf ps i = true then upd f i 1 else f) q = f q := by
        split
        · exact upd_o hq
        · rfl
      rw [e8]
      by_cases hz : i + 1 ≤ q ∧ q < i + 1 + j ∧ dmB gf ps q = true
      · rw [if_pos hz, if_pos ⟨by omega, by omega, hz.2.2⟩]
      · rw [if_neg hz, if_neg (fun z => hz ⟨by omega, by omega, z.2.2⟩)]
theorem dmN_cnt (gf : Nat → Int32) (ps : List PeT) : ∀ (j i n : Nat), dmN gf ps i j (nI n) = nI (n + cnt (dmB gf ps) i j)
  | 0, i, n => rfl
  | j + 1, i, n => by
    rw [dmN, cnt]
    split
    · rw [nI_1, dmN_cnt gf ps j (i + 1) (n + 1), Nat.add_assoc]
    · rw [dmN_cnt gf ps j (i + 1) n, Nat.zero_add]
theorem dmN0 (gf : Nat → Int32) (ps : List PeT) : dmN gf ps 0 10 0 = nI (cnt (dmB gf ps) 0 10) := by
  have := dmN_cnt gf ps 10 0 0
  rw [nI_0, Nat.zero_add] at this
  exact this
/-- the class's evacuations that aren't on have nothing left -/
theorem off_row {S : CS} {F : FT} (hE : relE S F) (hoff : isOnE S.ev = false) {i : Nat} {v : EvT} (hv : S.ev[i]? = some v) : ¬ 0 < v.2.2.1 := fun z => by
  obtain ⟨-, -, -, r4⟩ := hE i v hv
  have h1 := (r4 z).2
  unfold isOnE at hoff
  have h0 : S.ev ≠ [] := fun y => by rw [y] at hv; cases hv
  obtain ⟨w, hw, hw2⟩ := zlast h0
  rw [hw2] at hoff
  rw [show S.ev.length - 1 = i from by omega, hv] at hw
  cases hw
  exact of_decide_eq_false hoff z
theorem Rel.evacuate {S : CS} {F : FT} (H : Rel S F) {a : Int32} {mu lt : Nat} (hl : S.ev.length < 20) (hoff : isOnE S.ev = false) (h1 : ¬ a < 1) (h2 : a ≤ 10000) : Rel (S.1, S.2.1, S.2.2.1, S.2.2.2.1, S.2.2.2.2.1, S.2.2.2.2.2.1, S.2.2.2.2.2.2.1, S.2.2.2.2.2.2.2 ++ [evN S a mu lt]) (evF S F a 10) := by
  obtain ⟨⟨b1, b2, b3, b4, b5, b6, b7, b8⟩, hG, hV, hP, hR, hC, hD, hY, hE, hU⟩ := H
  have hla : (S.2.2.2.2.2.2.2 ++ [evN S a mu lt]).length = S.ev.length + 1 := by rw [List.length_append]; rfl
  obtain ⟨s, hs1, hs2⟩ := nI_of2 (M := 99999) (n := 99999) (by decide) b7 b8
  obtain ⟨k, hk1, hk2⟩ := nI_of2 (x := a) (M := 10000) (n := 10000) (by decide) (fun z => h1 (Int32.lt_trans z (by decide))) h2
  have hk0 : 0 < k := by
    refine Nat.pos_of_ne_zero (fun z => h1 ?_)
    rw [hk2, z]
    decide
  have hsum : S.sec + a = nI (s + k) := by rw [hs2, hk2, nI_add]
  have f20 : ∀ q, q < 10 → evF S F a 10 20 (S.ev.length * 10 + q) = if dmB S.gf S.ps q = true then -1 else -2 := fun q hq => fil_in (v := fun q => if dmB S.gf S.ps q = true then -1 else -2) hq
  have f19 : evF S F a 10 19 S.ev.length = S.sec + a := upd_e
  have nlt : ¬ S.sec + a < S.sec := by
    rw [hsum, hs2]
    exact nI_nlt (by omega) (by omega)
  have npos : ¬ S.sec + a < 0 := by
    rw [hsum]
    exact nI_pos (by omega)
  refine ⟨⟨b1, b2, b3, b4, b5, zlen1 hl, b7, b8⟩, hG, hV, hP, hR, hC, hD, hY, fun i v hv => ?_, hU⟩
  rcases ga1 hv with h | ⟨rfl, rfl⟩
  · have hi : i < S.ev.length := ltl h
    have o20 : ∀ q, q < 10 → evF S F a 10 20 (i * 10 + q) = F 20 (i * 10 + q) := fun q hq => fil_out (f := F 20) (b := S.ev.length * 10) (n := 10) (v := fun q => if dmB S.gf S.ps q = true then -1 else -2) (q := i * 10 + q) (by omega)
    have o19 : evF S F a 10 19 i = F 19 i := upd_o (by omega)
    obtain ⟨r1, r2, r3, r4⟩ := hE i v h
    refine ⟨⟨o19.trans r1.1, r1.2⟩, fun q hq => ?_, ?_, fun z => absurd z (off_row hE hoff h)⟩
    · unfold ltM
      rw [o20 q hq, o19]
      exact r2 q hq
    · rw [cnt_congr (P := fun q => evF S F a 10 20 (i * 10 + q) == -1) (Q := fun q => F 20 (i * 10 + q) == -1) (fun q _ hq => by rw [o20 q (by omega)])]
      exact r3
  · refine ⟨⟨f19, npos⟩, fun q hq => ?_, ?_, fun _ => ⟨?_, hla.symm⟩⟩
    · have e1 : (evN S a mu lt).fm q = if dmB S.gf S.ps q = true then 1 else 0 := by
        show dmF S.gf S.ps 0 10 (fun _ => 0) q = _
        rw [dmF_at]
        by_cases hz : dmB S.gf S.ps q = true
        · rw [if_pos ⟨Nat.zero_le _, by omega, hz⟩, if_pos hz]
        · rw [if_neg (fun y => hz y.2.2), if_neg hz]
      show ((evN S a mu lt).fm q ≠ 0 ↔ evF S F a 10 20 (S.ev.length * 10 + q) = -1) ∧ ((0 : Int32) ≠ 0 ↔ (if evF S F a 10 20 (S.ev.length * 10 + q) = -1 then decide (evF S F a 10 19 S.ev.length < S.sec) else decide (evF S F a 10 19 S.ev.length < evF S F a 10 20 (S.ev.length * 10 + q))) = true) ∧ evF S F a 10 20 (S.ev.length * 10 + q) ≤ S.sec
      rw [e1, f20 q hq, f19]
      cases dmB S.gf S.ps q with
      | true =>
        rw [if_pos rfl, if_pos rfl, if_pos rfl, decide_eq_false nlt]
        refine ⟨by decide, by decide, ?_⟩
        exact Int32.le_trans (by decide : (-1 : Int32) ≤ 0) (Int32.not_lt.mp b7)
      | false =>
        rw [if_neg (by decide), if_neg (by decide), if_neg (by decide), decide_eq_false (fun z => npos (Int32.lt_trans z (by decide)))]
        refine ⟨by decide, by decide, ?_⟩
        exact Int32.le_trans (by decide : (-2 : Int32) ≤ 0) (Int32.not_lt.mp b7)
    · show dmN S.gf S.ps 0 10 0 = nI (cnt (fun q => evF S F a 10 20 (S.ev.length * 10 + q) == -1) 0 10)
      rw [dmN0]
      refine congrArg nI (cnt_congr (fun q _ hq => ?_))
      rw [f20 q (by omega)]
      cases dmB S.gf S.ps q with
      | true => rfl
      | false => rfl
    · show (0 : Int32) ≠ 0 ↔ S.sec + a < S.sec
      exact ⟨fun z => absurd rfl z, fun z => absurd z nlt⟩
theorem confirm_cnt {S : CS} {F : FT} (H : Rel S F) {i j : Nat} {v : EvT} (hv : S.ev[i]? = some v) (hj : j < 10) (hf : ¬ v.fm j = 0) : v.2.2.1 - 1 = nI (cnt (fun q => upd (F 20) (i * 10 + j) S.sec (i * 10 + q) == -1) 0 10) ∧ 0 < v.2.2.1 := by
  obtain ⟨⟨-, -, -, -, -, -, b7, -⟩, -, -, -, -, -, -, -, hE, -⟩ := H
  obtain ⟨-, r2, r3, -⟩ := hE i v hv
  have h20 : F 20 (i * 10 + j) = -1 := (r2 j hj).1.mp hf
  have hs : S.sec ≠ -1 := fun z => b7 (by rw [z]; decide)
  have := cnt_one (P := fun q => upd (F 20) (i * 10 + j) S.sec (i * 10 + q) == -1) (Q := fun q => F 20 (i * 10 + q) == -1) (k0 := j) (by rw [upd_e]; exact beq_eq_false_iff_ne.mpr hs) (beq_iff_eq.mpr h20) (fun k hk => by rw [upd_o (by omega)]) (j := 10) (i := 0) (by omega) (by omega)
  have hle := cnt_le (fun q => F 20 (i * 10 + q) == -1) 10 0
  rw [r3, this]
  refine ⟨nI_pred _, ?_⟩
  rw [← nI_0]
  exact nI_lt (by omega) (by omega)
theorem Rel.confirm {S : CS} {F : FT} (H : Rel S F) {i j : Nat} {v : EvT} (hv : S.ev[i]? = some v) (hj : j < 10) (hf : ¬ v.fm j = 0) : Rel (S.1, S.2.1, S.2.2.1, S.2.2.2.1, S.2.2.2.2.1, S.2.2.2.2.2.1, S.2.2.2.2.2.2.1, S.2.2.2.2.2.2.2.set i (v.1, (v.mu, v.lt, upd v.fm j 0, v.fl), (v.2.2.1 - 1, v.2.2.2))) (sF F 20 (upd (F 20) (i * 10 + j) S.sec)) := by
  obtain ⟨hc1, hc2⟩ := confirm_cnt H hv hj hf
  obtain ⟨⟨b1, b2, b3, b4, b5, b6, b7⟩, hG, hV, hP, hR, hC, hD, hY, hE, hU⟩ := H
  have hls : (S.2.2.2.2.2.2.2.set i ((v.1, (v.mu, v.lt, upd v.fm j 0, v.fl), (v.2.2.1 - 1, v.2.2.2)) : EvT)).length = S.ev.length := List.length_set ..
  have hs : S.sec ≠ -1 := fun z => b7.1 (by rw [z]; decide)
  refine ⟨⟨b1, b2, b3, b4, b5, zlen2 b6, b7⟩, hG, hV, hP, hR, hC, hD, hY, fun k w hw => ?_, hU⟩
  rcases gs1 hw with ⟨rfl, rfl, -⟩ | ⟨hki, h⟩
  · obtain ⟨r1, r2, r3, r4⟩ := hE k v hv
    refine ⟨r1, fun q hq => ?_, hc1, fun z => ⟨(r4 hc2).1, ?_⟩⟩
    · show (upd v.fm j 0 q ≠ 0 ↔ upd (F 20) (k * 10 + j) S.sec (k * 10 + q) = -1) ∧ (v.fl q ≠ 0 ↔ (if upd (F 20) (k * 10 + j) S.sec (k * 10 + q) = -1 then decide (F 19 k < S.sec) else decide (F 19 k < upd (F 20) (k * 10 + j) S.sec (k * 10 + q))) = true) ∧ upd (F 20) (k * 10 + j) S.sec (k * 10 + q) ≤ S.sec
      by_cases hqj : q = j
      · subst hqj
        rw [upd_e, upd_e, if_neg hs]
        refine ⟨⟨fun z => absurd rfl z, fun z => absurd z hs⟩, ?_, Int32.le_refl _⟩
        have := (r2 q hq).2.1
        rw [ltM, if_pos ((r2 q hq).1.mp hf)] at this
        exact this
      · rw [upd_o hqj, upd_o (by omega)]
        exact r2 q hq
    · rw [(r4 hc2).2]
      exact hls.symm
  · obtain ⟨r1, r2, r3, r4⟩ := hE k w h
    have o20 : ∀ q, q < 10 → upd (F 20) (i * 10 + j) S.sec (k * 10 + q) = F 20 (k * 10 + q) := fun q hq => upd_o (by omega)
    refine ⟨r1, fun q hq => ?_, ?_, fun z => ⟨(r4 z).1, ?_⟩⟩
    · show (w.fm q ≠ 0 ↔ upd (F 20) (i * 10 + j) S.sec (k * 10 + q) = -1) ∧ (w.fl q ≠ 0 ↔ (if upd (F 20) (i * 10 + j) S.sec (k * 10 + q) = -1 then decide (F 19 k < S.sec) else decide (F 19 k < upd (F 20) (i * 10 + j) S.sec (k * 10 + q))) = true) ∧ upd (F 20) (i * 10 + j) S.sec (k * 10 + q) ≤ S.sec
      rw [o20 q hq]
      exact r2 q hq
    · show w.2.2.1 = nI (cnt (fun q => upd (F 20) (i * 10 + j) S.sec (k * 10 + q) == -1) 0 10)
      rw [cnt_congr (P := fun q => upd (F 20) (i * 10 + j) S.sec (k * 10 + q) == -1) (Q := fun q => F 20 (k * 10 + q) == -1) (fun q _ hq => by rw [o20 q (by omega)])]
      exact r3
    · rw [(r4 z).2]
      exact hls.symm
theorem sec_add {S : CS} (hB : relB S) {a : Int32} (h1 : ¬ a < 1) (h2 : a ≤ 5000) (h3 : a ≤ 99999 - S.1) : ∃ s k, s ≤ 99999 ∧ 0 < k ∧ k ≤ 5000 ∧ S.1 = nI s ∧ a = nI k ∧ S.1 + a = nI (s + k) ∧ s + k ≤ 99999 := by
  obtain ⟨-, -, -, -, -, -, b7, b8⟩ := hB
  obtain ⟨s, hs1, hs2⟩ := nI_of2 (M := 99999) (n := 99999) (by decide) b7 b8
  obtain ⟨k, hk1, hk2⟩ := nI_of2 (x := a) (M := 5000) (n := 5000) (by decide) (fun z => h1 (Int32.lt_trans z (by decide))) h2
  have hk0 : 0 < k := by
    refine Nat.pos_of_ne_zero (fun z => h1 ?_)
    rw [hk2, z]
    decide
  have hs2' : S.1 = nI s := hs2
  have e1 : (99999 : Int32) - nI s = nI (99999 - s) := by
    have : nI (99999 - s) + nI s = 99999 := by
      rw [nI_add, show 99999 - s + s = 99999 from by omega]
      rfl
    rw [← this, Int32.add_sub_cancel]
  refine ⟨s, k, hs1, hk0, hk1, hs2', hk2, by rw [hs2', hk2, nI_add], ?_⟩
  rw [hs2', e1, hk2, nI_leI (by omega) (by omega)] at h3
  omega
/-- the parts that time alone changes -/
theorem Rel.time {S : CS} {F : FT} (H : Rel S F) {a : Int32} (h1 : ¬ a < 1) (h2 : a ≤ 5000) (h3 : a ≤ 99999 - S.1) {l : List EvT} (hl : l.length = S.ev.length) (hE1 : ∀ (i : Nat) (v : EvT), l[i]? = some v → rowE (S.1 + a, S.2) F i v) : Rel (S.1 + a, S.2.1, S.2.2.1, S.2.2.2.1, S.2.2.2.2.1, S.2.2.2.2.2.1, S.2.2.2.2.2.2.1, l) F := by
  obtain ⟨s, k, q1, q2, q3, q4, q5, q6, q7⟩ := sec_add H.1 h1 h2 h3
  obtain ⟨⟨b1, b2, b3, b4, b5, b6, b7, b8⟩, hG, ⟨hv, hmv⟩, hP, hR, hC, hD, hY, hE, hU⟩ := H
  have hle : S.sec ≤ S.1 + a := by
    show S.1 ≤ S.1 + a
    rw [q6, q4]
    exact nI_le (by omega) (by omega)
  refine ⟨⟨b1, b2, b3, b4, b5, by rw [← hl] at b6; exact b6, ?_, ?_⟩, hG, ⟨hv, fun e he => ⟨Int32.le_trans (hmv e he).1 hle, (hmv e he).2⟩⟩, fun i e he => ?_, hR, hC, hD, hY, fun i v hv => ?_, hU⟩
  · show ¬ S.1 + a < 0
    rw [q6]
    exact nI_pos (by omega)
  · show S.1 + a ≤ 99999
    rw [q6]
    exact nI_le (b := 99999) q7 (by omega)
  · obtain ⟨p1, p2⟩ := hP i e he
    refine ⟨?_, p2⟩
    show e.1 = wasF (nI i) (S.1 + a) S.mv.reverse
    rw [p1]
    exact wasF_sec (fun f hf => ⟨(hmv f (List.mem_reverse.mp hf)).1, Int32.le_trans (hmv f (List.mem_reverse.mp hf)).1 hle⟩)
  · obtain ⟨r1, r2, r3, r4⟩ := hE1 i v hv
    exact ⟨r1, r2, r3, fun z => ⟨(r4 z).1, (r4 z).2.trans hl.symm⟩⟩
theorem row_off {S : CS} {F : FT} {i : Nat} {v : EvT} (H : rowE S F i v) {u : Int32} (hle : S.sec ≤ u) (hoff : ¬ 0 < v.2.2.1) : rowE (u, S.2) F i v := by
  obtain ⟨r1, r2, r3, r4⟩ := H
  have hc : cnt (fun q => F 20 (i * 10 + q) == -1) 0 10 = 0 := Classical.byContradiction (fun z => hoff (by
    have hle := cnt_le (fun q => F 20 (i * 10 + q) == -1) 10 0
    rw [r3, ← nI_0]
    exact nI_lt (Nat.pos_of_ne_zero z) (by omega)))
  refine ⟨r1, fun q hq => ⟨(r2 q hq).1, ?_, Int32.le_trans (r2 q hq).2.2 hle⟩, r3, fun z => absurd z hoff⟩
  have hne : F 20 (i * 10 + q) ≠ -1 := fun z => by
    have := cnt_pos.mpr (anyN_i (P := fun q => F 20 (i * 10 + q) == -1) (j := 10) (i := 0) (k := q) (by omega) (by omega) (beq_iff_eq.mpr z))
    omega
  have := (r2 q hq).2.1
  unfold ltM at this ⊢
  rw [if_neg hne] at this ⊢
  exact this
theorem Rel.tick1 {S : CS} {F : FT} (H : Rel S F) {a : Int32} (h1 : ¬ a < 1) (h2 : a ≤ 5000) (h3 : a ≤ 99999 - S.1) (hq : isOnE S.ev = false ∨ ∃ (i : Nat) (v : EvT), S.ev.length = i + 1 ∧ S.ev[i]? = some v ∧ (¬ v.2.2.2 = 0 ∨ S.1 + a ≤ v.1)) : Rel (S.1 + a, S.2) F := by
  obtain ⟨s, k, q1, q2, q3, q4, q5, q6, q7⟩ := sec_add H.1 h1 h2 h3
  have hle : S.1 ≤ S.1 + a := by
    rw [q6, q4]
    exact nI_le (by omega) (by omega)
  have hE := H.2.2.2.2.2.2.2.2.1
  refine H.time h1 h2 h3 rfl (fun i v hv => ?_)
  by_cases hon : 0 < v.2.2.1
  · have hrow := hE i v hv
    rcases hq with z | ⟨i0, v0, e1, e2, e3⟩
    · exact absurd hon (off_row hE z hv)
    · obtain ⟨r1, r2, r3, r4⟩ := hrow
      obtain ⟨w1, w2⟩ := r4 hon
      have : i0 = i := by omega
      subst this
      have e2' : S.ev[i0]? = some v0 := e2
      have hv' : S.ev[i0]? = some v := hv
      rw [e2'] at hv'
      cases hv'
      have key : (v.1 < S.sec ↔ v.1 < S.1 + a) := by
        refine ⟨fun z => Int32.lt_of_lt_of_le z hle, fun z => ?_⟩
        rcases e3 with y | y
        · exact w1.mp y
        · exact absurd z (Int32.not_lt.mpr y)
      refine ⟨r1, fun q hq => ⟨(r2 q hq).1, ?_, Int32.le_trans (r2 q hq).2.2 hle⟩, r3, fun _ => ⟨w1.trans key, w2⟩⟩
      have := (r2 q hq).2.1
      unfold ltM at this ⊢
      rw [r1.1] at this ⊢
      rw [show decide (v.1 < CS.sec (S.1 + a, S.2)) = decide (v.1 < S.sec) from decide_eq_decide.mpr key.symm]
      exact this
  · exact row_off (hE i v hv) hle hon
theorem Rel.tick3 {S : CS} {F : FT} (H : Rel S F) {a : Int32} (h1 : ¬ a < 1) (h2 : a ≤ 5000) (h3 : a ≤ 99999 - S.1) (hon : isOnE S.ev = true) {i : Nat} {v : EvT} (hi : S.ev.length = i + 1) (hv : S.ev[i]? = some v) (ht : v.2.2.2 = 0) (hlt : v.1 < S.1 + a) : Rel (S.1 + a, S.2.1, S.2.2.1, S.2.2.2.1, S.2.2.2.2.1, S.2.2.2.2.2.1, S.2.2.2.2.2.2.1, S.2.2.2.2.2.2.2.set i (v.1, (v.mu, v.lt, v.fm, fun i => if i < 10 then v.fm i else v.fl i), (v.2.2.1, 1))) F := by
  obtain ⟨s, k, q1, q2, q3, q4, q5, q6, q7⟩ := sec_add H.1 h1 h2 h3
  have hle : S.1 ≤ S.1 + a := by
    rw [q6, q4]
    exact nI_le (by omega) (by omega)
  have hE := H.2.2.2.2.2.2.2.2.1
  obtain ⟨i0, v0, e1, e2, e3⟩ := isOnE_last hon
  have : i0 = i := by omega
  subst this
  rw [hv] at e2
  cases e2
  refine H.time h1 h2 h3 (List.length_set ..) (fun k w hw => ?_)
  rcases gs1 hw with ⟨rfl, rfl, -⟩ | ⟨hki, h⟩
  · obtain ⟨r1, r2, r3, r4⟩ := hE k v hv
    obtain ⟨w1, w2⟩ := r4 e3
    have hns : ¬ v.1 < S.sec := fun z => (w1.mpr z) ht
    refine ⟨r1, fun q hq => ⟨(r2 q hq).1, ?_, Int32.le_trans (r2 q hq).2.2 hle⟩, r3, fun _ => ⟨⟨fun _ => hlt, fun _ => (by decide : (1 : Int32) ≠ 0)⟩, w2⟩⟩
    show (if q < 10 then v.fm q else v.fl q) ≠ 0 ↔ ltM (S.1 + a, S.2) F k q = true
    rw [if_pos hq, (r2 q hq).1]
    unfold ltM
    rw [r1.1]
    by_cases hz : F 20 (k * 10 + q) = -1
    · rw [if_pos hz]
      exact ⟨fun _ => decide_eq_true hlt, fun _ => hz⟩
    · rw [if_neg hz]
      refine ⟨fun y => absurd y hz, fun y => ?_⟩
      have y2 := of_decide_eq_true y
      exact absurd (Int32.lt_of_lt_of_le y2 (r2 q hq).2.2) hns
  · have h' : S.ev[k]? = some w := h
    have hoff : ¬ 0 < w.2.2.1 := fun z => by
      have := ((hE k w h').2.2.2 z).2
      omega
    exact row_off (hE k w h') hle hoff
/-- answers -/
theorem miss_eq {S : CS} {F : FT} (H : Rel S F) {o fm : Nat} {r : RoT} {t : Int32} (hr : S.ro[o]? = some r) (hov : ¬ r.rd < 3) (hf1 : fm ≤ S.mv.length) (hf2 : F 6 o = nI fm) : miF r t 0 0 S.ps = msM (fun i => (F 12 (o * 60 + i) != 0) && !(anyN (fun p => !decide (F 11 (p * 60 + i) < 0)) (o + 1) (S.ro.length - (o + 1)) || coB S.mv (nI i) fm)) 0 S.ps.length t := by
  have hrow := H.2.2.2.2.1 o r hr
  have hfm := fm_eq hrow H.1.2.1 hf1 hf2
  have hC := H.2.2.2.2.2.1
  have ho : o < S.ro.length := ltl hr
  have b3 := H.1.2.2.1
  have h0 : t - nI 0 = t := by rw [nI_0, Int32.sub_zero]
  have := miF_ms (r := r) (t := t) (P := fun i => (F 12 (o * 60 + i) != 0) && !(anyN (fun p => !decide (F 11 (p * 60 + i) < 0)) (o + 1) (S.ro.length - (o + 1)) || coB S.mv (nI i) fm)) (l := S.ps) (i := 0) (b := 0) (fun k e hk => ?_)
  · rw [h0] at this
    exact this
  · rw [Nat.zero_add]
    show (opB r k e && decide (e.2.2 ≤ r.1.1)) = _
    rw [(hfm k e hk).2 hov, hrow.1.1]
    have hc := hC k e hk o (by omega)
    have e1 : decide (e.2.2 ≤ nI o) = !anyN (fun p => !decide (F 11 (p * 60 + k) < 0)) (o + 1) (S.ro.length - (o + 1)) := by
      cases ha : anyN (fun p => !decide (F 11 (p * 60 + k) < 0)) (o + 1) (S.ro.length - (o + 1)) with
      | true =>
        obtain ⟨p, p1, p2, p3⟩ := anyN_t ha
        refine decide_eq_false (Int32.not_le.mpr (hc.mpr ⟨p, by omega, by omega, ?_⟩))
        simpa using p3
      | false =>
        refine decide_eq_true (Int32.not_lt.mp (fun z => ?_))
        obtain ⟨p, p1, p2, p3⟩ := hc.mp z
        have := anyN_f ha p (by omega) (by omega)
        simp at this
        exact p3 this
    rw [e1]
    cases (F 12 (o * 60 + k) != 0) <;> cases coB S.mv (nI k) fm <;> cases anyN (fun p => !decide (F 11 (p * 60 + k) < 0)) (o + 1) (S.ro.length - (o + 1)) <;> rfl
theorem late_eq {S : CS} {F : FT} (H : Rel S F) {i : Nat} {v : EvT} {t : Int32} (hv : S.ev[i]? = some v) : laF v.fl t 0 0 10 = msM (ltM S F i) 0 10 t := by
  obtain ⟨-, r2, -⟩ := H.2.2.2.2.2.2.2.2.1 i v hv
  have := laF_ms (fl := v.fl) (t := t) (P := ltM S F i) (j := 10) (i := 0) (b := 0) (fun k _ hk => (r2 k (by omega)).2.1)
  rw [nI_0, Int32.sub_zero] at this
  exact this
theorem rollAt_eq {S : CS} {F : FT} (H : Rel S F) {o fm : Nat} {r : RoT} {t : Int32} (hr : S.ro[o]? = some r) (hf1 : fm ≤ S.mv.length) (hf2 : F 6 o = nI fm) : raF r S.ps t = raM S F o fm t := by
  have hrow := H.2.2.2.2.1 o r hr
  have b1 := H.1.1
  have hfm := fm_eq hrow H.1.2.1 hf1 hf2
  have e3 : (if r.rd < 3 then nI (opC r 0 S.ps) else r.2.2.2.2.2.2.2.2) = nI (cnt (opM F S.mv o fm) 0 S.ps.length) := by
    by_cases hon : r.rd < 3
    · rw [if_pos hon, open_on hrow b1 hon hfm]
    · rw [if_neg hon]
      exact open_over hrow b1 hon
  obtain ⟨r1, r2, -, r4, -⟩ := hrow
  unfold raF raM
  rw [e3, r1.2.2.2.1, r2.1, r2.2.1, r2.2.2, r4.1, r4.2]
