/-! what keeps the relation: answer, round, roll -/
theorem rowR.keep {S : CS} {F F1 : FT} {o : Nat} {r : RoT} (hb : S.ps.length ≤ 60) (h4 : F1 4 o = F 4 o ∧ F1 5 o = F 5 o ∧ F1 6 o = F 6 o ∧ F1 7 o = F 7 o ∧ F1 8 o = F 8 o ∧ F1 9 o = F 9 o) (h10 : ∀ i, i < 60 → F1 10 (o * 60 + i) = F 10 (o * 60 + i) ∧ F1 11 (o * 60 + i) = F 11 (o * 60 + i) ∧ F1 12 (o * 60 + i) = F 12 (o * 60 + i)) (H : rowR S F o r) : rowR S F1 o r := by
  obtain ⟨q4, q5, q6, q7, q8, q9⟩ := h4
  obtain ⟨r1, r2, r3, r4, ⟨fm, f1, f2, f3⟩, r6, r7⟩ := H
  refine ⟨?_, ?_, fun i hi => ?_, ?_, ⟨fm, f1, by rw [q6]; exact f2, fun i e he => ?_⟩, fun hn => ?_, fun i hi hq => ?_⟩
  · rw [q4, q5]; exact r1
  · rw [q7, q8, q9]; exact r2
  · rw [(h10 i hi).1, (h10 i hi).2.1]; exact r3 i hi
  · rw [cnt_congr (P := fun i => F1 10 (o * 60 + i) != 0) (Q := fun i => F 10 (o * 60 + i) != 0) (fun k _ hk => by rw [(h10 k (by omega)).1]), cnt_congr (P := fun i => (F1 10 (o * 60 + i) != 0) && !decide (F1 11 (o * 60 + i) < 0)) (Q := fun i => (F 10 (o * 60 + i) != 0) && !decide (F 11 (o * 60 + i) < 0)) (fun k _ hk => by rw [(h10 k (by omega)).1, (h10 k (by omega)).2.1])]
    exact r4
  · have hi := ltl he
    rw [(h10 i (by omega)).2.2]
    exact f3 i e he
  · rw [cnt_congr (P := fun i => F1 12 (o * 60 + i) != 0) (Q := fun i => F 12 (o * 60 + i) != 0) (fun k _ hk => by rw [(h10 k (by omega)).2.2])]
    exact r6 hn
  · rw [(h10 i hi).2.2]
    exact r7 i hi hq
/-- one roll is replaced by another of the same number -/
theorem Rel.row {S : CS} {F F1 : FT} (H : Rel S F) {j : Nat} {r r1 : RoT} (hr : S.ro[j]? = some r) (hF : ∀ k, k < 4 ∨ 13 ≤ k → F1 k = F k) (h4 : ∀ o, o ≠ j → F1 4 o = F 4 o ∧ F1 5 o = F 5 o ∧ F1 6 o = F 6 o ∧ F1 7 o = F 7 o ∧ F1 8 o = F 8 o ∧ F1 9 o = F 9 o) (h10 : ∀ o, o ≠ j → ∀ i, i < 60 → F1 10 (o * 60 + i) = F 10 (o * 60 + i) ∧ F1 11 (o * 60 + i) = F 11 (o * 60 + i) ∧ F1 12 (o * 60 + i) = F 12 (o * 60 + i)) (hn : rowR S F1 j r1) (hC1 : relC S F1) : Rel (S.1, S.2.1, S.2.2.1, S.2.2.2.1, S.2.2.2.2.1.set j r1, S.2.2.2.2.2) F1 := by
  obtain ⟨⟨b1, b2, b3, b4⟩, hG, hV, hP, hR, hC, hD, hY, hE, hU⟩ := H
  have hls : (S.2.2.2.2.1.set j r1).length = S.ro.length := List.length_set ..
  have hj := ltl hr
  refine ⟨⟨b1, b2, zlen2 b3, b4⟩, ?_, ?_, fun i e he => ?_, fun o r2 hr2 => ?_, fun i e he o ho => ?_, ?_, ?_, ?_, fun o h1 h2 => ?_⟩
  · intro q hq
    rw [hF 0 (by omega)]
    exact hG q hq
  · refine ⟨⟨hV.1.1, fun k e hk => ?_⟩, hV.2⟩
    rw [hF 1 (by omega), hF 2 (by omega), hF 3 (by omega)]
    exact hV.1.2 k e hk
  · obtain ⟨p1, p2, p3⟩ := hP i e he
    refine ⟨p1, p2, ?_⟩
    show ¬ nI (S.2.2.2.2.1.set j r1).length < e.2.1
    rw [hls]
    exact p3
  · rcases gs1 hr2 with ⟨rfl, rfl, -⟩ | ⟨hji, h⟩
    · exact hn
    · exact (hR o r2 h).keep b1 (h4 o hji) (h10 o hji)
  · have := hC1 i e he o ho
    show nI o < e.2.2 ↔ ∃ p, o < p ∧ p < (S.2.2.2.2.1.set j r1).length ∧ ¬ F1 11 (p * 60 + i) < 0
    rw [hls]
    exact this
  · intro q d hd
    rw [hF 13 (by omega)]
    exact hD q d hd
  · unfold relY
    rw [hF 14 (by omega), hF 15 (by omega), hF 16 (by omega), hF 17 (by omega), hF 18 (by omega)]
    exact hY
  · intro q v hv
    have := hE q v hv
    unfold rowE ltM at this ⊢
    rw [hF 19 (by omega), hF 20 (by omega)]
    exact this
  · have h1' : S.ro.length ≤ o := hls ▸ h1
    obtain ⟨u1, u2, u3, u4⟩ := hU o h1' h2
    have hoj : o ≠ j := by omega
    obtain ⟨k4, k5, k6, k7, k8, k9⟩ := h4 o hoj
    refine ⟨k7.trans u1, k8.trans u2, k9.trans u3, fun i hi => ((h10 o hoj i hi).2.2).trans (u4 i hi)⟩
/-- persons' last numbers don't matter to a roll -/
theorem rowR.ps {S : CS} {F : FT} {o : Nat} {r : RoT} (H : rowR S F o r) {i : Nat} {e0 : PeT} {v : Int32} (he0 : S.ps[i]? = some e0) : rowR (S.1, S.2.1, S.2.2.1.set i (e0.1, e0.2.1, v), S.2.2.2) F o r := by
  have hls : (S.2.2.1.set i ((e0.1, e0.2.1, v) : PeT)).length = S.ps.length := List.length_set ..
  obtain ⟨r1, r2, r3, r4, ⟨fm, f1, f2, f3⟩, r6, r7⟩ := H
  refine ⟨⟨r1.1, by have := r1.2.1; show r.n ≤ (S.2.2.1.set i ((e0.1, e0.2.1, v) : PeT)).length; omega, r1.2.2⟩, r2, r3, r4, ⟨fm, f1, f2, fun j e he => ?_⟩, r6, fun j hj hq => r7 j hj (hq.imp id (fun z => by have z2 : (S.2.2.1.set i ((e0.1, e0.2.1, v) : PeT)).length ≤ j := z; omega))⟩
  rcases gs1 he with ⟨rfl, rfl, -⟩ | ⟨hji, h⟩
  · exact f3 j e0 he0
  · exact f3 j e h
theorem Rel.stranger {S : CS} {F : FT} (H : Rel S F) {j : Nat} {r : RoT} (hr : S.ro[j]? = some r) : Rel (S.1, S.2.1, S.2.2.1, S.2.2.2.1, S.2.2.2.2.1.set j (r.1, r.2.1, r.2.2.1, r.2.2.2.1, r.2.2.2.2.1, r.2.2.2.2.2.1, r.2.2.2.2.2.2.1, r.2.2.2.2.2.2.2.1 + 1, r.2.2.2.2.2.2.2.2), S.2.2.2.2.2) (sF F 9 (upd (F 9) j (F 9 j + 1))) := by
  have hrow := H.2.2.2.2.1 j r hr
  refine H.row hr (fun k hk => sF_n (by omega)) (fun o ho => ⟨rfl, rfl, rfl, rfl, rfl, upd_o ho⟩) (fun o ho i hi => ⟨rfl, rfl, rfl⟩) ?_ H.2.2.2.2.2.1
  obtain ⟨r1, r2, r3⟩ := hrow
  refine ⟨r1, ⟨r2.1, r2.2.1, ?_⟩, r3⟩
  show upd (F 9) j (F 9 j + 1) j = r.2.2.2.2.2.2.2.1 + 1
  rw [upd_e, r2.2.2]
theorem mxI_lt (a b c : Int32) : c < mxI a b ↔ c < a ∨ c < b := by
  unfold mxI
  by_cases h : a < b
  · rw [if_pos h]
    exact ⟨Or.inr, fun z => z.elim (fun y => Int32.lt_trans y h) id⟩
  · rw [if_neg h]
    exact ⟨Or.inl, fun z => z.elim id (fun y => Int32.lt_of_lt_of_le y (Int32.not_lt.mp h))⟩
theorem Rel.counted {S : CS} {F : FT} (H : Rel S F) {j i : Nat} {r : RoT} {e0 : PeT} {b : Int32} (hr : S.ro[j]? = some r) (he0 : S.ps[i]? = some e0) (hon : r.rd < 3) (hin : i < r.n) (hf : r.f i = -1) (hb0 : ¬ b < 0) : Rel (S.1, S.2.1, S.2.2.1.set i (e0.1, e0.2.1, mxI e0.2.2 (nI j)), S.2.2.2.1, S.2.2.2.2.1.set j (r.1, (r.ct, r.n, upd r.f i b), r.2.2.1, r.2.2.2.1, r.2.2.2.2.1 + 1, r.2.2.2.2.2.1, r.2.2.2.2.2.2.1, r.2.2.2.2.2.2.2.1, r.2.2.2.2.2.2.2.2), S.2.2.2.2.2) (sF F 11 (upd (F 11) (j * 60 + i) b)) := by
  obtain ⟨⟨b1, b2, b3, b4⟩, hG, ⟨hv, hmv⟩, hP, hR, hC, hD, hY, hE, hU⟩ := H
  have hi := ltl he0
  have hj := ltl hr
  have hls : (S.2.2.1.set i ((e0.1, e0.2.1, mxI e0.2.2 (nI j)) : PeT)).length = S.ps.length := List.length_set ..
  have hb2 : b ≠ -2 := fun z => hb0 (by rw [z]; decide)
  obtain ⟨r1, r2, r3, r4, ⟨fm, f1, f2, f3⟩, r6, r7⟩ := hR j r hr
  have hne : ∀ o, o ≠ j → ∀ q, q < 60 → o * 60 + q ≠ j * 60 + i := fun o ho q hq z => by omega
  have hci : cofN r i = -1 := (cof_in hin (by omega)).trans hf
  have f10 : F 10 (j * 60 + i) = 1 := by
    rw [(r3 i (by omega)).1, hci]
    rfl
  have f11 : F 11 (j * 60 + i) = -1 := by
    rw [(r3 i (by omega)).2.1, hci]
    rfl
  refine ⟨⟨zlen2 b1, b2, zlen2 b3, b4⟩, hG, ⟨hv, fun e he => ?_⟩, ?_, ?_, ?_, hD, hY, hE, ?_⟩
  · obtain ⟨q1, k, hk, h1⟩ := hmv e he
    exact ⟨q1, k, by show k < (S.2.2.1.set i ((e0.1, e0.2.1, mxI e0.2.2 (nI j)) : PeT)).length; omega, h1⟩
  · intro q e he
    have hlr : (S.2.2.2.2.1.set j ((r.1, (r.ct, r.n, upd r.f i b), r.2.2.1, r.2.2.2.1, r.2.2.2.2.1 + 1, r.2.2.2.2.2.1, r.2.2.2.2.2.2.1, r.2.2.2.2.2.2.2.1, r.2.2.2.2.2.2.2.2) : RoT)).length = S.ro.length := List.length_set ..
    have key : ∃ e1, S.ps[q]? = some e1 ∧ e.1 = e1.1 ∧ e.2.1 = e1.2.1 := by
      rcases gs1 he with ⟨rfl, rfl, -⟩ | ⟨hji, h⟩
      · exact ⟨e0, he0, rfl, rfl⟩
      · exact ⟨e, h, rfl, rfl⟩
    obtain ⟨e1, k1, k2, k3⟩ := key
    obtain ⟨p1, p2, p3⟩ := hP q e1 k1
    refine ⟨k2.trans p1, by rw [k2]; exact p2, ?_⟩
    show ¬ nI (S.2.2.2.2.1.set j ((r.1, (r.ct, r.n, upd r.f i b), r.2.2.1, r.2.2.2.1, r.2.2.2.2.1 + 1, r.2.2.2.2.2.1, r.2.2.2.2.2.2.1, r.2.2.2.2.2.2.2.1, r.2.2.2.2.2.2.2.2) : RoT)).length < e.2.1
    rw [hlr, k3]
    exact p3
  · intro o r5 hr5
    rcases gs1 hr5 with ⟨rfl, rfl, -⟩ | ⟨hoj, h⟩
    · refine rowR.ps (S := (S.1, S.2.1, S.2.2.1, S.2.2.2.1, S.2.2.2.2.1.set o (r.1, (r.ct, r.n, upd r.f i b), r.2.2.1, r.2.2.2.1, r.2.2.2.2.1 + 1, r.2.2.2.2.2.1, r.2.2.2.2.2.2.1, r.2.2.2.2.2.2.2.1, r.2.2.2.2.2.2.2.2), S.2.2.2.2.2)) (v := mxI e0.2.2 (nI o)) ?_ he0
      have cN : ∀ q, q < 60 → cofN ((r.1, (r.ct, r.n, upd r.f i b), r.2.2.1, r.2.2.2.1, r.2.2.2.2.1 + 1, r.2.2.2.2.2.1, r.2.2.2.2.2.2.1, r.2.2.2.2.2.2.2.1, r.2.2.2.2.2.2.2.2) : RoT) q = if q = i then b else cofN r q := by
        intro q hq
        show cof r.n (upd r.f i b) (nI q) = _
        by_cases hqi : q = i
        · rw [if_pos hqi, hqi, cof_in hin (by omega), upd_e]
        · rw [if_neg hqi]
          rcases Nat.lt_or_ge q r.n with z | z
          · rw [cof_in z (by omega), upd_o hqi, cofN, cof_in z (by omega)]
          · rw [cof_out z (by omega), cofN, cof_out z (by omega)]
      refine ⟨r1, r2, fun q hq => ?_, ⟨r4.1, ?_⟩, ⟨fm, f1, f2, fun q e he => ⟨fun z => (f3 q e he).1 z, fun z => absurd hon z⟩⟩, fun z => absurd hon z, r7⟩
      · rw [cN q hq]
        show F 10 (o * 60 + q) = _ ∧ upd (F 11) (o * 60 + i) b (o * 60 + q) = _ ∧ _
        by_cases hqi : q = i
        · rw [if_pos hqi, hqi, f10, upd_e, if_neg hb2]
          refine ⟨?_, rfl, Or.inr (Or.inr hb0)⟩
          rw [show (b != -2) = true from bne_iff_ne.mpr hb2]
          rfl
        · rw [if_neg hqi, upd_o (by omega)]
          exact r3 q hq
      · show r.2.2.2.2.1 + 1 = nI (cnt (fun q => (F 10 (o * 60 + q) != 0) && !decide (upd (F 11) (o * 60 + i) b (o * 60 + q) < 0)) 0 60)
        rw [cnt_one (P := fun q => (F 10 (o * 60 + q) != 0) && !decide (F 11 (o * 60 + q) < 0)) (k0 := i) ?_ ?_ ?_ (by omega) (by omega), ← nI_1, r4.2]
        · show ((F 10 (o * 60 + i) != 0) && !decide (F 11 (o * 60 + i) < 0)) = false
          rw [f11]
          simp
        · show ((F 10 (o * 60 + i) != 0) && !decide (upd (F 11) (o * 60 + i) b (o * 60 + i) < 0)) = true
          rw [f10, upd_e, decide_eq_false hb0]
          rfl
        · intro q hq
          show _ = ((F 10 (o * 60 + q) != 0) && !decide (upd (F 11) (o * 60 + i) b (o * 60 + q) < 0))
          rw [upd_o (by omega)]
    · refine rowR.ps (S := (S.1, S.2.1, S.2.2.1, S.2.2.2.1, S.2.2.2.2.1.set j (r.1, (r.ct, r.n, upd r.f i b), r.2.2.1, r.2.2.2.1, r.2.2.2.2.1 + 1, r.2.2.2.2.2.1, r.2.2.2.2.2.2.1, r.2.2.2.2.2.2.2.1, r.2.2.2.2.2.2.2.2), S.2.2.2.2.2)) (v := mxI e0.2.2 (nI j)) ?_ he0
      have hro : rowR S F o r5 := hR o r5 h
      exact rowR.keep (F := F) b1 ⟨rfl, rfl, rfl, rfl, rfl, rfl⟩ (fun q hq => ⟨rfl, upd_o (hne o hoj q hq), rfl⟩) hro
  · intro q e he o ho
    have hlr : (S.2.2.2.2.1.set j ((r.1, (r.ct, r.n, upd r.f i b), r.2.2.1, r.2.2.2.1, r.2.2.2.2.1 + 1, r.2.2.2.2.2.1, r.2.2.2.2.2.2.1, r.2.2.2.2.2.2.2.1, r.2.2.2.2.2.2.2.2) : RoT)).length = S.ro.length := List.length_set ..
    show nI o < e.2.2 ↔ ∃ p, o < p ∧ p < (S.2.2.2.2.1.set j ((r.1, (r.ct, r.n, upd r.f i b), r.2.2.1, r.2.2.2.1, r.2.2.2.2.1 + 1, r.2.2.2.2.2.1, r.2.2.2.2.2.2.1, r.2.2.2.2.2.2.2.1, r.2.2.2.2.2.2.2.2) : RoT)).length ∧ ¬ upd (F 11) (j * 60 + i) b (p * 60 + q) < 0
    rw [hlr]
    rcases gs1 he with ⟨rfl, rfl, -⟩ | ⟨hqi, h⟩
    · show nI o < mxI e0.2.2 (nI j) ↔ _
      rw [mxI_lt, hC q e0 he0 o ho, nI_ltI (by omega) (by have : j < S.ro.length := hj; omega)]
      constructor
      · rintro (⟨p, p1, p2, p3⟩ | hoj)
        · refine ⟨p, p1, p2, ?_⟩
          by_cases hpj : p = j
          · rw [hpj, upd_e]
            exact hb0
          · rw [upd_o (by omega)]
            exact p3
        · exact ⟨j, hoj, hj, by rw [upd_e]; exact hb0⟩
      · rintro ⟨p, p1, p2, p3⟩
        by_cases hpj : p = j
        · exact Or.inr (by omega)
        · rw [upd_o (by omega)] at p3
          exact Or.inl ⟨p, p1, p2, p3⟩
    · have hq := ltl h
      have hq2 : q < S.ps.length := hq
      rw [hC q e h o ho]
      have hx : ∀ p, upd (F 11) (j * 60 + i) b (p * 60 + q) = F 11 (p * 60 + q) := fun p => upd_o (fun z => hqi (by omega))
      constructor
      · rintro ⟨p, p1, p2, p3⟩
        exact ⟨p, p1, p2, by rw [hx]; exact p3⟩
      · rintro ⟨p, p1, p2, p3⟩
        exact ⟨p, p1, p2, by rw [hx] at p3; exact p3⟩
  · intro o h1 h2
    have hlr : (S.2.2.2.2.1.set j ((r.1, (r.ct, r.n, upd r.f i b), r.2.2.1, r.2.2.2.1, r.2.2.2.2.1 + 1, r.2.2.2.2.2.1, r.2.2.2.2.2.2.1, r.2.2.2.2.2.2.2.1, r.2.2.2.2.2.2.2.2) : RoT)).length = S.ro.length := List.length_set ..
    exact hU o (hlr ▸ h1) h2
theorem Rel.double {S : CS} {F : FT} (H : Rel S F) {d v b a : Int32} (hl : S.db.length < 100) : Rel (S.1, S.2.1, S.2.2.1, S.2.2.2.1, S.2.2.2.2.1, S.2.2.2.2.2.1 ++ [(d, v, b, a)], S.2.2.2.2.2.2) (twG S F d v b a) := by
  obtain ⟨⟨b1, b2, b3, b4, b5⟩, hG, hV, hP, hR, hC, hD, hY, hE, hU⟩ := H
  refine ⟨⟨b1, b2, b3, zlen1 hl, b5⟩, hG, hV, hP, hR, hC, fun i x hx => ?_, hY, hE, hU⟩
  generalize hn : S.db.length = n at hl
  rw [show twG S F d v b a 13 = upd (upd (upd (upd (F 13) (4 * n) d) (4 * n + 1) v) (4 * n + 2) b) (4 * n + 3) a from by rw [← hn]; exact sF_s]
  rcases ga1 hx with h | ⟨h, rfl⟩
  · have hi : i < n := hn ▸ ltl h
    rw [upd_o (by omega), upd_o (by omega), upd_o (by omega), upd_o (by omega), upd_o (by omega), upd_o (by omega), upd_o (by omega), upd_o (by omega), upd_o (by omega), upd_o (by omega), upd_o (by omega), upd_o (by omega), upd_o (by omega), upd_o (by omega), upd_o (by omega), upd_o (by omega)]
    exact hD i x h
  · have hi : i = n := hn ▸ h
    subst hi
    refine ⟨?_, ?_, ?_, ?_⟩
    · rw [upd_o (by omega), upd_o (by omega), upd_o (by omega), upd_e]
    · rw [upd_o (by omega), upd_o (by omega), upd_e]
    · rw [upd_o (by omega), upd_e]
    · rw [upd_e]
