/-! the reference's public methods: confirm, evacuate, serve, mayday, answered -/
def fil (f : Nat → Int32) (b n : Nat) (v : Nat → Int32) : Nat → Int32 := fun q => if b ≤ q ∧ q < b + n then v (q - b) else f q
theorem fil_0 (f : Nat → Int32) (b : Nat) (v : Nat → Int32) : fil f b 0 v = f := by
  funext q
  exact if_neg (fun z => by omega)
theorem fil_s (f : Nat → Int32) (b n : Nat) (v : Nat → Int32) : upd (fil f b n v) (b + n) (v n) = fil f b (n + 1) v := by
  funext q
  unfold upd fil
  by_cases hq : q = b + n
  · rw [if_pos hq, if_pos (by omega), show q - b = n from by omega]
  · rw [if_neg hq]
    by_cases h2 : b ≤ q ∧ q < b + n
    · rw [if_pos h2, if_pos (by omega)]
    · rw [if_neg h2, if_neg (by omega)]
theorem anyN_snoc (P : Nat → Bool) : ∀ (j k : Nat), anyN P k (j + 1) = (anyN P k j || P (k + j))
  | 0, k => by simp [anyN]
  | j + 1, k => by
    rw [anyN, anyN_snoc P j (k + 1), anyN, Bool.or_assoc, show k + 1 + j = k + (j + 1) from by omega]
def frB (op tm : Nat → Int32) (n t : Nat) : Bool := !anyN (fun k => op k != 0 && tm k == nI t) 0 n
def svI (op : Nat → Int32) (n m : Nat) : Nat → Nat → (Nat → Int32) → (Nat → Int32)
  | 0, _, tm => tm
  | j + 1, t, tm => if op m ≠ 0 ∧ tm m < 0 then svI op n m j (t + 1) (if frB op tm n t = true then upd tm m (nI t) else tm) else tm
def svO (op : Nat → Int32) (n : Nat) : Nat → Nat → (Nat → Int32) → (Nat → Int32)
  | 0, _, tm => tm
  | j + 1, m, tm => svO op n j (m + 1) (svI op n m 4 0 tm)
section NA
variable {g : zG} {T : Tg} {h : Hp} {PR : Option Value → Hp → Prop} {PX : String → Hp → Prop} {mo : Nat} {A : Nat → Nat} {th : Int32} {S : CS} {F : FT}
theorem RepM.cg (hM : RepM g T h mo A th S F) {S1 : CS} (h0 : S1.sec = S.sec) (h1 : S1.ps.length = S.ps.length) (h2 : S1.mv.length = S.mv.length) (h3 : S1.ro.length = S.ro.length) (h4 : S1.db.length = S.db.length) (h5 : S1.md.length = S.md.length) (h6 : S1.ev.length = S.ev.length) : RepM g T h mo A th S1 F := by
  obtain ⟨a, b⟩ := hM
  refine ⟨?_, b⟩
  rw [a, mmC, mmC, h0, h1, h2, h3, h4, h5, h6]
theorem sF_sF {F : FT} {j : Nat} {f f1 : Nat → Int32} : sF (sF F j f) j f1 = sF F j f1 := by
  funext i
  unfold sF
  split <;> rfl
theorem sF_id {F : FT} {j : Nat} : sF F j (F j) = F := by
  funext i
  unfold sF
  split
  · next h => rw [h]
  · rfl
set_option maxRecDepth 100000 in
theorem ct_MM_confirm {a : Int32} (hM : RepM g T h mo A th S F) (hb : S.ev.length ≤ 20)
    (kf : ∀ st, st = (inN a 10 && onM S F && (F 20 ((S.ev.length - 1) * 10 + a.toNatClampNeg) == -1)) → (inN a 10 && true && st && true) = false → ∀ h1, RepM g T h1 mo A (goT 5 (inN a 10) true st true) S F → ExM T h h1 → PR (some (.int 0)) h1)
    (ks : ∀ j, j < 10 → a = nI j → onM S F = true → F 20 ((S.ev.length - 1) * 10 + j) = -1 → ∀ h1, RepM g T h1 mo A 0 S (sF F 20 (upd (F 20) ((S.ev.length - 1) * 10 + j) S.sec)) → ExM T h h1 → PR (some (.int (nI (cnt (fun q => upd (F 20) ((S.ev.length - 1) * 10 + j) S.sec ((S.ev.length - 1) * 10 + q) == -1) 0 10)))) h1) : Ct g y_MM_confirm w_MM_confirm 3 0 0 [.ref mo, .int a] h PR PX := by
  refine Ct_intro (cc := c_MM_confirm) (nL := 3) (ret := (some FieldType.int)) (ls := [some (.ref mo), some (.int a), none]) (by decide) (Nat.le_of_ble_eq_true rfl) rfl rfl ?_
  intro p e R s m args below meth c C ht hname
  have onp : onM S F = true → 0 < S.ev.length := fun z => by
    rw [onM, Bool.and_eq_true_iff] at z
    exact of_decide_eq_true z.1
  have J : ∀ st, st = (inN a 10 && onM S F && (F 20 ((S.ev.length - 1) * 10 + a.toNatClampNeg) == -1)) → Z g 3 0 0 p e R s m args below meth c (vx_MQ below (zQ g PR) (zX g PX) args s 0 0 (zA g)) 0 0 61 [some (.ref mo), some (.int a), none] [.int (bI st)] h := by
    intro st h1
    refine z_istore_n C d_MM_confirm_61 rfl (by decide) rfl ?_
    dsimp only [List.set]
    refine z_aload_n C d_MM_confirm_62 rfl rfl ?_
    refine z_iconst (v := 5) C d_MM_confirm_63 (by decide) ?_
    refine z_iload_n C d_MM_confirm_64 rfl rfl ?_
    refine z_callS (n := 1) (As := [.int a]) (rest := [.int 5, .ref mo]) (r1 := 2) (mc1 := 0) (ms1 := 0) C d_MM_confirm_65 k_860 k_858 k_859 k_5 (by decide +kernel) rfl (by decide) (by decide) (Nat.le_of_ble_eq_true rfl) (by first | decide | omega) (by first | decide | omega) rfl ?_
    refine ct_MM_isSector ?_
    dsimp only [zps]
    refine z_iconst (v := 1) C d_MM_confirm_68 (by decide) ?_
    refine z_iload_n C d_MM_confirm_69 rfl rfl ?_
    refine z_iconst (v := 1) C d_MM_confirm_70 (by decide) ?_
    refine z_callV (n := 5) (As := [.int 5, .int (bI (inN a 10)), .int 1, .int (bI st), .int 1]) (rest := []) (r1 := 1) (mc1 := 0) (ms1 := 0) (ci := 8) (T0 := T_MM) C d_MM_confirm_71 k_846 k_843 k_845 ks_25 k_5 (by decide +kernel) rfl rfl (hM.1) (by decide) (by decide) (Nat.le_of_ble_eq_true rfl) (by first | decide | omega) (by first | decide | omega) rfl ?_
    refine ct_MM_goes (kn := inN a 10) (rg := true) (st := st) (rm := true) hM (fun h5 r1 e1 => ?_)
    dsimp only [zps]
    refine z_if_ne 79 C d_MM_confirm_74 (by decide) (fun c74 => ?_) (fun c74 => ?_)
    · obtain ⟨g1, -, g3, -⟩ := b4f (bI1 c74)
      subst g3
      rw [g1, Bool.true_and] at h1
      rw [g1] at r1
      obtain ⟨j, hj, rfl⟩ := inN_t (by decide) g1
      rw [nI_clamp (by omega)] at h1
      have i1 := (Bool.and_eq_true_iff.mp h1.symm)
      have h0 := onp i1.1
      have k := ks j hj rfl i1.1 (beq_iff_eq.mp i1.2)
      clear kf ks
      refine z_aload_n C d_MM_confirm_79 rfl rfl ?_
      refine z_get (ci := 8) (T := T_MM) (N := 29) C d_MM_confirm_80 28 i_MM rfl (by decide) k_775 (fun _ q => q) (r1.1) (by rfl) ?_
      refine z_aload_n C d_MM_confirm_83 rfl rfl ?_
      refine z_get (ci := 8) (T := T_MM) (N := 29) C d_MM_confirm_84 26 i_MM rfl (by decide) k_773 (fun _ q => q) (r1.1) (by rfl) ?_
      refine z_iconst (v := 1) C d_MM_confirm_87 (by decide) ?_
      refine z_isub C d_MM_confirm_88 ?_
      rw [znI_pred h0]
      refine z_bipush (v := 10) C d_MM_confirm_89 (by decide) ?_
      refine z_imul C d_MM_confirm_91 ?_
      refine z_iload_n C d_MM_confirm_92 rfl rfl ?_
      refine z_iadd C d_MM_confirm_93 ?_
      rw [nI10]
      refine z_aload_n C d_MM_confirm_94 rfl rfl ?_
      refine z_get (ci := 8) (T := T_MM) (N := 29) C d_MM_confirm_95 1 i_MM rfl (by decide) k_748 (fun _ q => q) (r1.1) (by rfl) ?_
      refine z_iast C d_MM_confirm_98 (r1.a20) (vp_in_nI (by omega) (by decide)) ?_
      rw [nI_clamp (by omega)]
      have r2 := r1.put (j := 20) (by decide) (upd (F 20) ((S.ev.length - 1) * 10 + j) S.sec)
      refine z_aload_n C d_MM_confirm_99 rfl rfl ?_
      refine z_aload_n C d_MM_confirm_100 rfl rfl ?_
      refine z_get (ci := 8) (T := T_MM) (N := 29) C d_MM_confirm_101 26 i_MM rfl (by decide) k_773 (fun _ q => q) (r2.1) (by rfl) ?_
      refine z_iconst (v := 1) C d_MM_confirm_104 (by decide) ?_
      refine z_isub C d_MM_confirm_105 ?_
      rw [znI_pred h0]
      refine z_callV (n := 1) (As := [.int (nI (S.ev.length - 1))]) (rest := []) (r1 := 1) (mc1 := 0) (ms1 := 0) (ci := 8) (T0 := T_MM) C d_MM_confirm_106 k_964 k_961 k_963 ks_39 k_5 (by decide +kernel) rfl rfl (r2.1) (by decide) (by decide) (Nat.le_of_ble_eq_true rfl) (by first | decide | omega) (by first | decide | omega) rfl ?_
      refine ct_MM_left r2 (by omega) ?_
      dsimp only [zps]
      refine z_iret C d_MM_confirm_109 ?_
      exact k _ r2 (e1.trans (r1.exP (by decide)))
    · refine z_iconst (v := 0) C d_MM_confirm_77 (by decide) ?_
      refine z_iret C d_MM_confirm_78 ?_
      exact kf st h1 (bI0 c74) h5 r1 e1
  refine z_iload_n C d_MM_confirm_0 rfl rfl ?_
  refine z_callS (n := 1) (As := [.int a]) (rest := []) (r1 := 2) (mc1 := 0) (ms1 := 0) C d_MM_confirm_1 k_860 k_858 k_859 k_5 (by decide +kernel) rfl (by decide) (by decide) (Nat.le_of_ble_eq_true rfl) (by first | decide | omega) (by first | decide | omega) rfl ?_
  refine ct_MM_isSector ?_
  dsimp only [zps]
  refine z_if_eq 60 C d_MM_confirm_4 (by decide) (fun c4 => ?_) (fun c4 => ?_)
  · refine z_iconst (v := 0) C d_MM_confirm_60 (by decide) ?_
    exact J false (by rw [bI0 c4]; rfl)
  · have g1 := bI1 c4
    obtain ⟨j, hj, hja⟩ := inN_t (by decide) g1
    refine z_aload_n C d_MM_confirm_7 rfl rfl ?_
    refine z_callV (n := 0) (As := []) (rest := []) (r1 := 2) (mc1 := 0) (ms1 := 0) (ci := 8) (T0 := T_MM) C d_MM_confirm_8 k_960 k_957 k_959 ks_38 k_5 (by decide +kernel) rfl rfl (hM.1) (by decide) (by decide) (Nat.le_of_ble_eq_true rfl) (by first | decide | omega) (by first | decide | omega) rfl ?_
    refine ct_MM_isOn hM hb ?_
    dsimp only [zps]
    refine z_if_eq 60 C d_MM_confirm_11 (by decide) (fun c11 => ?_) (fun c11 => ?_)
    · refine z_iconst (v := 0) C d_MM_confirm_60 (by decide) ?_
      exact J false (by rw [bI0 c11, Bool.and_false, Bool.false_and])
    · have g2 := bI1 c11
      have h0 := onp g2
      refine z_aload_n C d_MM_confirm_14 rfl rfl ?_
      refine z_get (ci := 8) (T := T_MM) (N := 29) C d_MM_confirm_15 28 i_MM rfl (by decide) k_775 (fun _ q => q) (hM.1) (by rfl) ?_
      refine z_aload_n C d_MM_confirm_18 rfl rfl ?_
      refine z_get (ci := 8) (T := T_MM) (N := 29) C d_MM_confirm_19 26 i_MM rfl (by decide) k_773 (fun _ q => q) (hM.1) (by rfl) ?_
      refine z_if_le 34 C d_MM_confirm_22 (by decide) (fun c22 => ?_) (fun c22 => ?_)
      · exact absurd c22 (nI_nle h0 (by omega))
      · refine z_aload_n C d_MM_confirm_25 rfl rfl ?_
        refine z_get (ci := 8) (T := T_MM) (N := 29) C d_MM_confirm_26 26 i_MM rfl (by decide) k_773 (fun _ q => q) (hM.1) (by rfl) ?_
        refine z_iconst (v := 1) C d_MM_confirm_29 (by decide) ?_
        refine z_isub C d_MM_confirm_30 ?_
        rw [znI_pred h0]
        refine z_goto 35 C d_MM_confirm_31 (by decide) ?_
        refine z_bipush (v := 10) C d_MM_confirm_35 (by decide) ?_
        refine z_imul C d_MM_confirm_37 ?_
        refine z_iload_n C d_MM_confirm_38 rfl rfl ?_
        refine z_callS (n := 1) (As := [.int a]) (rest := [.int (nI (S.ev.length - 1) * 10), .ref (A 20)]) (r1 := 2) (mc1 := 0) (ms1 := 0) C d_MM_confirm_39 k_860 k_858 k_859 k_5 (by decide +kernel) rfl (by decide) (by decide) (Nat.le_of_ble_eq_true rfl) (by first | decide | omega) (by first | decide | omega) rfl ?_
        refine ct_MM_isSector ?_
        dsimp only [zps]
        refine z_if_eq 49 C d_MM_confirm_42 (by decide) (fun c42 => ?_) (fun c42 => ?_)
        · exact absurd c42 (by rw [g1]; decide)
        · refine z_iload_n C d_MM_confirm_45 rfl rfl ?_
          refine z_goto 50 C d_MM_confirm_46 (by decide) ?_
          rw [hja]
          refine z_iadd C d_MM_confirm_50 ?_
          rw [nI10]
          refine z_iald C d_MM_confirm_51 (hM.a20) (vp_in_nI (by omega) (by decide)) ?_
          rw [nI_clamp (by omega), ← hja]
          have hcl : a.toNatClampNeg = j := by rw [hja, nI_clamp (by omega)]
          refine z_iconst (v := (-1)) C d_MM_confirm_52 (by decide) ?_
          refine z_icmp_ne 60 C d_MM_confirm_53 (by decide) (fun c53 => ?_) (fun c53 => ?_)
          · refine z_iconst (v := 0) C d_MM_confirm_60 (by decide) ?_
            refine J false ?_
            rw [hcl, show (F 20 ((S.ev.length - 1) * 10 + j) == -1) = false from beq_eq_false_iff_ne.mpr c53, Bool.and_false]
          · refine z_iconst (v := 1) C d_MM_confirm_56 (by decide) ?_
            refine z_goto 61 C d_MM_confirm_57 (by decide) ?_
            refine J true ?_
            rw [hcl, show (F 20 ((S.ev.length - 1) * 10 + j) == -1) = true from beq_iff_eq.mpr c53, g1, g2]
            rfl
abbrev evF (S : CS) (F : FT) (a : Int32) (i : Nat) : FT := sF (sF F 19 (upd (F 19) S.ev.length (S.sec + a))) 20 (fil (F 20) (S.ev.length * 10) i (fun q => if dmB S.gf S.ps q = true then -1 else -2))
set_option maxRecDepth 100000 in
theorem ct_MM_evacuate {a : Int32} (hM : RepM g T h mo A th S F) (hv : mvR S F) (hb : S.ev.length ≤ 20) (hb1 : S.ps.length ≤ 60) (hh : ∀ (i : Nat) (e : PeT), S.ps[i]? = some e → e.1 = wasF (nI i) S.sec S.mv.reverse) (hg : ∀ j, j < 10 → F 0 j = S.gf j)
    (kf : ∀ st rm, st = (anyN (dmB S.gf S.ps) 0 10 && !onM S F) → rm = decide (S.ev.length < 20) → (true && inB a 1 10000 && st && rm) = false → ∀ h1, RepM g T h1 mo A (goT 14 true (inB a 1 10000) st rm) S F → ExM T h h1 → PR (some (.int 0)) h1)
    (ks : inB a 1 10000 = true → anyN (dmB S.gf S.ps) 0 10 = true → onM S F = false → S.ev.length < 20 → ∀ (v : EvT) h1, RepM g T h1 mo A 0 (S.1, S.2.1, S.2.2.1, S.2.2.2.1, S.2.2.2.2.1, S.2.2.2.2.2.1, S.2.2.2.2.2.2.1, S.2.2.2.2.2.2.2 ++ [v]) (evF S F a 10) → ExM T h h1 → PR (some (.int (nI S.ev.length))) h1) (v0 : EvT) : Ct g y_MM_evacuate w_MM_evacuate 4 0 0 [.ref mo, .int a] h PR PX := by
  refine Ct_intro (cc := c_MM_evacuate) (nL := 4) (ret := (some FieldType.int)) (ls := [some (.ref mo), some (.int a), none, none]) (by decide) (Nat.le_of_ble_eq_true rfl) rfl rfl ?_
  intro p e R s m args below meth c C ht hname
  have loop2 : ∀ (z2 : Option Value) (j i : Nat) (h5 : Hp), i + j = 10 → S.ev.length < 20 → RepM g T h5 mo A 0 S (evF S F a i) → (∀ h6, RepM g T h6 mo A 0 S (evF S F a 10) → ExM T h5 h6 → Z g 4 0 0 p e R s m args below meth c (vx_MQ below (zQ g PR) (zX g PX) args s 0 0 (zA g)) 0 0 141 [some (.ref mo), some (.int a), z2, some (.int (nI 10))] [] h6) → Z g 4 0 0 p e R s m args below meth c (vx_MQ below (zQ g PR) (zX g PX) args s 0 0 (zA g)) 0 0 101 [some (.ref mo), some (.int a), z2, some (.int (nI i))] [] h5 := by
    intro z2 j
    induction j with
    | zero =>
      intro i h5 hi hl r1 hk
      have : i = 10 := by omega
      subst this
      refine z_iload_n C d_MM_evacuate_101 rfl rfl ?_
      refine z_bipush (v := 10) C d_MM_evacuate_102 (by decide) ?_
      refine z_icmp_ge 141 C d_MM_evacuate_104 (by decide) (fun c104 => ?_) (fun c104 => ?_)
      · exact hk h5 r1 ExM.rf
      · exact absurd (by decide) c104
    | succ j ih =>
      intro i h5 hi hl r1 hk
      refine z_iload_n C d_MM_evacuate_101 rfl rfl ?_
      refine z_bipush (v := 10) C d_MM_evacuate_102 (by decide) ?_
      refine z_icmp_ge 141 C d_MM_evacuate_104 (by decide) (fun c104 => ?_) (fun c104 => ?_)
      · exact absurd c104 (by rw [show (10 : Int32) = nI 10 from rfl]; exact nI_ge (by omega) (by omega))
      · refine z_aload_n C d_MM_evacuate_107 rfl rfl ?_
        refine z_get (ci := 8) (T := T_MM) (N := 29) C d_MM_evacuate_108 28 i_MM rfl (by decide) k_775 (fun _ q => q) (r1.1) (by rfl) ?_
        refine z_aload_n C d_MM_evacuate_111 rfl rfl ?_
        refine z_get (ci := 8) (T := T_MM) (N := 29) C d_MM_evacuate_112 26 i_MM rfl (by decide) k_773 (fun _ q => q) (r1.1) (by rfl) ?_
        refine z_bipush (v := 10) C d_MM_evacuate_115 (by decide) ?_
        refine z_imul C d_MM_evacuate_117 ?_
        refine z_iload_n C d_MM_evacuate_118 rfl rfl ?_
        refine z_iadd C d_MM_evacuate_119 ?_
        rw [nI10]
        refine z_aload_n C d_MM_evacuate_120 rfl rfl ?_
        refine z_iload_n C d_MM_evacuate_121 rfl rfl ?_
        refine z_callV (n := 1) (As := [.int (nI i)]) (rest := [.int (nI (S.ev.length * 10 + i)), .ref (A 20)]) (r1 := 3) (mc1 := 0) (ms1 := 0) (ci := 8) (T0 := T_MM) C d_MM_evacuate_122 k_956 k_953 k_955 ks_37 k_5 (by decide +kernel) rfl rfl (r1.1) (by decide) (by decide) (Nat.le_of_ble_eq_true rfl) (by first | decide | omega) (by first | decide | omega) rfl ?_
        refine ct_MM_isFull r1 hv hb1 (by omega) hh (hg i (by omega)) ?_
        dsimp only [zps]
        have st9 : ∀ w, w = (if dmB S.gf S.ps i = true then (-1 : Int32) else -2) → Z g 4 0 0 p e R s m args below meth c (vx_MQ below (zQ g PR) (zX g PX) args s 0 0 (zA g)) 0 0 134 [some (.ref mo), some (.int a), z2, some (.int (nI i))] [.int w, .int (nI (S.ev.length * 10 + i)), .ref (A 20)] h5 := by
          intro w hw
          refine z_iast C d_MM_evacuate_134 (r1.a20) (vp_in_nI (by omega) (by decide)) ?_
          rw [nI_clamp (by omega)]
          have r2 := r1.put (j := 20) (by decide) (upd (evF S F a i 20) (S.ev.length * 10 + i) w)
          have e9 : upd (evF S F a i 20) (S.ev.length * 10 + i) w = fil (F 20) (S.ev.length * 10) (i + 1) (fun q => if dmB S.gf S.ps q = true then -1 else -2) := by
            rw [hw, show evF S F a i 20 = fil (F 20) (S.ev.length * 10) i (fun q => if dmB S.gf S.ps q = true then -1 else -2) from sF_s]
            exact fil_s (F 20) (S.ev.length * 10) i (fun q => if dmB S.gf S.ps q = true then -1 else -2)
          have e8 := r1.exP (j := 20) (by decide) (e := mmA g 20 (upd (evF S F a i 20) (S.ev.length * 10 + i) w))
          rw [e9, sF_sF] at r2
          rw [e9] at e8
          rw [e9]
          refine z_iinc C d_MM_evacuate_135 rfl (by decide) rfl ?_
          simp only [List.set, zi1, zim1]
          rw [nI_1]
          refine z_goto 101 C d_MM_evacuate_138 (by decide) ?_
          exact ih (i + 1) _ (by omega) hl r2 (fun h6 r6 e6 => hk h6 r6 (e8.trans e6))
        refine z_if_eq 132 C d_MM_evacuate_125 (by decide) (fun c125 => ?_) (fun c125 => ?_)
        · refine z_bipush (v := (-2)) C d_MM_evacuate_132 (by decide) ?_
          exact st9 (-2) (by rw [bI0 c125]; rfl)
        · refine z_iconst (v := (-1)) C d_MM_evacuate_128 (by decide) ?_
          refine z_goto 134 C d_MM_evacuate_129 (by decide) ?_
          exact st9 (-1) (by rw [bI1 c125]; rfl)
  have J76 : ∀ st rm, st = (anyN (dmB S.gf S.ps) 0 10 && !onM S F) → rm = decide (S.ev.length < 20) → ∀ (z2 z3 : Option Value), Z g 4 0 0 p e R s m args below meth c (vx_MQ below (zQ g PR) (zX g PX) args s 0 0 (zA g)) 0 0 76 [some (.ref mo), some (.int a), z2, z3] [.int (bI rm), .int (bI st), .int (bI (inB a 1 10000)), .int 1, .int 14, .ref mo] h := by
    intro st rm h1 h2 z2 z3
    refine z_callV (n := 5) (As := [.int 14, .int 1, .int (bI (inB a 1 10000)), .int (bI st), .int (bI rm)]) (rest := []) (r1 := 1) (mc1 := 0) (ms1 := 0) (ci := 8) (T0 := T_MM) C d_MM_evacuate_76 k_846 k_843 k_845 ks_25 k_5 (by decide +kernel) rfl rfl (hM.1) (by decide) (by decide) (Nat.le_of_ble_eq_true rfl) (by first | decide | omega) (by first | decide | omega) rfl ?_
    refine ct_MM_goes (kn := true) (rg := inB a 1 10000) (st := st) (rm := rm) hM (fun h5 r1 e1 => ?_)
    dsimp only [zps]
    refine z_if_ne 84 C d_MM_evacuate_79 (by decide) (fun c79 => ?_) (fun c79 => ?_)
    · obtain ⟨-, g2, g3, g4⟩ := b4f (bI1 c79)
      subst g3 g4
      rw [g2] at r1
      have hl : S.ev.length < 20 := of_decide_eq_true h2.symm
      have i1 := (Bool.and_eq_true_iff.mp h1.symm)
      have k := ks g2 i1.1 (by simpa using i1.2) hl v0
      clear kf ks
      refine z_aload_n C d_MM_evacuate_84 rfl rfl ?_
      refine z_get (ci := 8) (T := T_MM) (N := 29) C d_MM_evacuate_85 27 i_MM rfl (by decide) k_774 (fun _ q => q) (r1.1) (by rfl) ?_
      refine z_aload_n C d_MM_evacuate_88 rfl rfl ?_
      refine z_get (ci := 8) (T := T_MM) (N := 29) C d_MM_evacuate_89 26 i_MM rfl (by decide) k_773 (fun _ q => q) (r1.1) (by rfl) ?_
      refine z_aload_n C d_MM_evacuate_92 rfl rfl ?_
      refine z_get (ci := 8) (T := T_MM) (N := 29) C d_MM_evacuate_93 1 i_MM rfl (by decide) k_748 (fun _ q => q) (r1.1) (by rfl) ?_
      refine z_iload_n C d_MM_evacuate_96 rfl rfl ?_
      refine z_iadd C d_MM_evacuate_97 ?_
      refine z_iast C d_MM_evacuate_98 (r1.a19) (vp_in_nI (by omega) (by decide)) ?_
      rw [nI_clamp (by omega)]
      have r2 := r1.put (j := 19) (by decide) (upd (F 19) S.ev.length (S.sec + a))
      have r3 : RepM g T (zu h5 (A 19) (mmA g 19 (upd (F 19) S.ev.length (S.sec + a)))) mo A 0 S (evF S F a 0) := by
        rw [evF, fil_0]
        rw [show F 20 = sF F 19 (upd (F 19) S.ev.length (S.sec + a)) 20 from rfl, sF_id]
        exact r2
      refine z_iconst (v := 0) C d_MM_evacuate_99 (by decide) ?_
      refine z_istore_n C d_MM_evacuate_100 rfl (by decide) rfl ?_
      dsimp only [List.set]
      refine loop2 z2 10 0 _ (by omega) hl r3 (fun h6 r6 e6 => ?_)
      refine z_aload_n C d_MM_evacuate_141 rfl rfl ?_
      refine z_dup C d_MM_evacuate_142 rfl ?_
      refine z_get (ci := 8) (T := T_MM) (N := 29) C d_MM_evacuate_143 26 i_MM rfl (by decide) k_773 (fun _ q => q) (r6.1) (by rfl) ?_
      refine z_iconst (v := 1) C d_MM_evacuate_146 (by decide) ?_
      refine z_iadd C d_MM_evacuate_147 ?_
      refine z_put (ci := 8) (T := T_MM) (N := 29) (ty := .int) C d_MM_evacuate_148 26 ty_MM t_MM n_MM i_MM rfl (by decide) k_773 (fun _ q => q) rfl (by decide +kernel) (by rfl) (by rfl) (r6.1) (by exact Nat.le_of_ble_eq_true rfl) ?_
      dsimp only [List.set]
      rw [nI_1]
      have r7 := r6.fldE 0 (S.1, S.2.1, S.2.2.1, S.2.2.2.1, S.2.2.2.2.1, S.2.2.2.2.2.1, S.2.2.2.2.2.2.1, S.2.2.2.2.2.2.2 ++ [v0]) (v := mmK A 0 S.sec (nI S.ps.length) (nI S.mv.length) (nI S.ro.length) (nI S.db.length) (nI S.md.length) (nI (S.ev.length + 1))) (by unfold mmC CS.ev; rw [la1])
      refine z_aload_n C d_MM_evacuate_151 rfl rfl ?_
      refine z_get (ci := 8) (T := T_MM) (N := 29) C d_MM_evacuate_152 26 i_MM rfl (by decide) k_773 (fun _ q => q) (zu_s) (by rfl) ?_
      refine z_iconst (v := 1) C d_MM_evacuate_155 (by decide) ?_
      refine z_isub C d_MM_evacuate_156 ?_
      rw [nI_pred]
      refine z_iret C d_MM_evacuate_157 ?_
      exact k _ r7 (((e1.trans (r1.exP (by decide))).trans e6).trans r6.exF)
    · refine z_iconst (v := 0) C d_MM_evacuate_82 (by decide) ?_
      refine z_iret C d_MM_evacuate_83 ?_
      exact kf st rm h1 h2 (bI0 c79) h5 r1 e1
  have J62 : ∀ st, st = (anyN (dmB S.gf S.ps) 0 10 && !onM S F) → ∀ (z2 z3 : Option Value), Z g 4 0 0 p e R s m args below meth c (vx_MQ below (zQ g PR) (zX g PX) args s 0 0 (zA g)) 0 0 62 [some (.ref mo), some (.int a), z2, z3] [.int (bI st), .int (bI (inB a 1 10000)), .int 1, .int 14, .ref mo] h := by
    intro st h1 z2 z3
    refine z_aload_n C d_MM_evacuate_62 rfl rfl ?_
    refine z_get (ci := 8) (T := T_MM) (N := 29) C d_MM_evacuate_63 26 i_MM rfl (by decide) k_773 (fun _ q => q) (hM.1) (by rfl) ?_
    refine z_bipush (v := 20) C d_MM_evacuate_66 (by decide) ?_
    refine z_icmp_ge 75 C d_MM_evacuate_68 (by decide) (fun c68 => ?_) (fun c68 => ?_)
    · refine z_iconst (v := 0) C d_MM_evacuate_75 (by decide) ?_
      exact J76 st false h1 (nlt_dec (b := 20) (by omega) (by omega) c68).symm z2 z3
    · refine z_iconst (v := 1) C d_MM_evacuate_71 (by decide) ?_
      refine z_goto 76 C d_MM_evacuate_72 (by decide) ?_
      exact J76 st true h1 (lt_dec (b := 20) (by omega) (by omega) c68).symm z2 z3
  have loop1 : ∀ (j i : Nat), i + j = 10 → Z g 4 0 0 p e R s m args below meth c (vx_MQ below (zQ g PR) (zX g PX) args s 0 0 (zA g)) 0 0 4 [some (.ref mo), some (.int a), some (.int (bI (anyN (dmB S.gf S.ps) 0 i))), some (.int (nI i))] [] h := by
    intro j
    induction j with
    | zero =>
      intro i hi
      have : i = 10 := by omega
      subst this
      refine z_iload_n C d_MM_evacuate_4 rfl rfl ?_
      refine z_bipush (v := 10) C d_MM_evacuate_5 (by decide) ?_
      refine z_icmp_ge 34 C d_MM_evacuate_7 (by decide) (fun c7 => ?_) (fun c7 => ?_)
      · refine z_aload_n C d_MM_evacuate_34 rfl rfl ?_
        refine z_bipush (v := 14) C d_MM_evacuate_35 (by decide) ?_
        refine z_iconst (v := 1) C d_MM_evacuate_37 (by decide) ?_
        refine z_iload_n C d_MM_evacuate_38 rfl rfl ?_
        refine z_iconst (v := 1) C d_MM_evacuate_39 (by decide) ?_
        refine z_sipush (v := 10000) C d_MM_evacuate_40 (by decide) ?_
        refine z_callS (n := 3) (As := [.int a, .int 1, .int 10000]) (rest := [.int 1, .int 14, .ref mo]) (r1 := 1) (mc1 := 0) (ms1 := 0) C d_MM_evacuate_43 k_857 k_855 k_856 k_5 (by decide +kernel) rfl (by decide) (by decide) (Nat.le_of_ble_eq_true rfl) (by first | decide | omega) (by first | decide | omega) rfl ?_
        refine ct_MM_in ?_
        dsimp only [zps]
        refine z_iload_n C d_MM_evacuate_46 rfl rfl ?_
        refine z_if_eq 61 C d_MM_evacuate_47 (by decide) (fun c47 => ?_) (fun c47 => ?_)
        · refine z_iconst (v := 0) C d_MM_evacuate_61 (by decide) ?_
          exact J62 false (by rw [bI0 c47]; rfl) _ _
        · refine z_aload_n C d_MM_evacuate_50 rfl rfl ?_
          refine z_callV (n := 0) (As := []) (rest := [.int (bI (inB a 1 10000)), .int 1, .int 14, .ref mo]) (r1 := 2) (mc1 := 0) (ms1 := 0) (ci := 8) (T0 := T_MM) C d_MM_evacuate_51 k_960 k_957 k_959 ks_38 k_5 (by decide +kernel) rfl rfl (hM.1) (by decide) (by decide) (Nat.le_of_ble_eq_true rfl) (by first | decide | omega) (by first | decide | omega) rfl ?_
          refine ct_MM_isOn hM hb ?_
          dsimp only [zps]
          refine z_if_ne 61 C d_MM_evacuate_54 (by decide) (fun c54 => ?_) (fun c54 => ?_)
          · refine z_iconst (v := 0) C d_MM_evacuate_61 (by decide) ?_
            exact J62 false (by rw [bI1 c54, Bool.not_true, Bool.and_false]) _ _
          · refine z_iconst (v := 1) C d_MM_evacuate_57 (by decide) ?_
            refine z_goto 62 C d_MM_evacuate_58 (by decide) ?_
            exact J62 true (by rw [bI1 c47, bI0 c54]; rfl) _ _
      · exact absurd (by decide) c7
    | succ j ih =>
      intro i hi
      have ih2 := ih (i + 1) (by omega)
      rw [anyN_snoc, Nat.zero_add] at ih2
      refine z_iload_n C d_MM_evacuate_4 rfl rfl ?_
      refine z_bipush (v := 10) C d_MM_evacuate_5 (by decide) ?_
      refine z_icmp_ge 34 C d_MM_evacuate_7 (by decide) (fun c7 => ?_) (fun c7 => ?_)
      · exact absurd c7 (by rw [show (10 : Int32) = nI 10 from rfl]; exact nI_ge (by omega) (by omega))
      · refine z_iload_n C d_MM_evacuate_10 rfl rfl ?_
        refine z_if_ne 22 C d_MM_evacuate_11 (by decide) (fun c11 => ?_) (fun c11 => ?_)
        · rw [bI1 c11, Bool.true_or] at ih2
          refine z_iconst (v := 1) C d_MM_evacuate_22 (by decide) ?_
          refine z_goto 27 C d_MM_evacuate_23 (by decide) ?_
          refine z_istore_n C d_MM_evacuate_27 rfl (by decide) rfl ?_
          dsimp only [List.set]
          refine z_iinc C d_MM_evacuate_28 rfl (by decide) rfl ?_
          simp only [List.set, zi1, zim1]
          rw [nI_1]
          refine z_goto 4 C d_MM_evacuate_31 (by decide) ?_
          exact ih2
        · rw [bI0 c11, Bool.false_or] at ih2
          refine z_aload_n C d_MM_evacuate_14 rfl rfl ?_
          refine z_iload_n C d_MM_evacuate_15 rfl rfl ?_
          refine z_callV (n := 1) (As := [.int (nI i)]) (rest := []) (r1 := 3) (mc1 := 0) (ms1 := 0) (ci := 8) (T0 := T_MM) C d_MM_evacuate_16 k_956 k_953 k_955 ks_37 k_5 (by decide +kernel) rfl rfl (hM.1) (by decide) (by decide) (Nat.le_of_ble_eq_true rfl) (by first | decide | omega) (by first | decide | omega) rfl ?_
          refine ct_MM_isFull hM hv hb1 (by omega) hh (hg i (by omega)) ?_
          dsimp only [zps]
          refine z_if_eq 26 C d_MM_evacuate_19 (by decide) (fun c19 => ?_) (fun c19 => ?_)
          · rw [bI0 c19] at ih2
            refine z_iconst (v := 0) C d_MM_evacuate_26 (by decide) ?_
            refine z_istore_n C d_MM_evacuate_27 rfl (by decide) rfl ?_
            dsimp only [List.set]
            refine z_iinc C d_MM_evacuate_28 rfl (by decide) rfl ?_
            simp only [List.set, zi1, zim1]
            rw [nI_1]
            refine z_goto 4 C d_MM_evacuate_31 (by decide) ?_
            exact ih2
          · rw [bI1 c19] at ih2
            refine z_iconst (v := 1) C d_MM_evacuate_22 (by decide) ?_
            refine z_goto 27 C d_MM_evacuate_23 (by decide) ?_
            refine z_istore_n C d_MM_evacuate_27 rfl (by decide) rfl ?_
            dsimp only [List.set]
            refine z_iinc C d_MM_evacuate_28 rfl (by decide) rfl ?_
            simp only [List.set, zi1, zim1]
            rw [nI_1]
            refine z_goto 4 C d_MM_evacuate_31 (by decide) ?_
            exact ih2
  refine z_iconst (v := 0) C d_MM_evacuate_0 (by decide) ?_
  refine z_istore_n C d_MM_evacuate_1 rfl (by decide) rfl ?_
  dsimp only [List.set]
  refine z_iconst (v := 0) C d_MM_evacuate_2 (by decide) ?_
  refine z_istore_n C d_MM_evacuate_3 rfl (by decide) rfl ?_
  dsimp only [List.set]
  exact loop1 10 0 (by omega)
set_option maxRecDepth 100000 in
theorem ct_MM_serve (hM : RepM g T h mo A th S F) (hb : S.md.length ≤ 30) (k : ∀ h1, RepM g T h1 mo A th S (sF F 15 (svO (F 14) S.md.length S.md.length 0 (F 15))) → ExM T h h1 → PR none h1) : Ct g y_MM_serve w_MM_serve 1 0 0 [.ref mo] h PR PX := by
  refine Ct_intro (cc := c_MM_serve) (nL := 5) (ret := none) (ls := [some (.ref mo), none, none, none, none]) (by decide) (Nat.le_of_ble_eq_true rfl) rfl rfl ?_
  intro p e R s m args below meth c C ht hname
  have free : ∀ (h5 : Hp) (tm : Nat → Int32), RepM g T h5 mo A th S (sF F 15 tm) → ∀ (mi t : Nat), (∀ z4, Z g 5 0 0 p e R s m args below meth c (vx_MQ below (zQ g PR) (zX g PX) args s 0 0 (zA g)) 0 0 78 [some (.ref mo), some (.int (nI mi)), some (.int (nI t)), some (.int (bI (frB (F 14) tm S.md.length t))), z4] [] h5) → ∀ (j i : Nat) (b : Bool), i + j = S.md.length → frB (F 14) tm S.md.length t = (b && !anyN (fun k => F 14 k != 0 && tm k == nI t) i j) → Z g 5 0 0 p e R s m args below meth c (vx_MQ below (zQ g PR) (zX g PX) args s 0 0 (zA g)) 0 0 40 [some (.ref mo), some (.int (nI mi)), some (.int (nI t)), some (.int (bI b)), some (.int (nI i))] [] h5 := by
    intro h5 tm r1 mi t hk j
    have a15 : h5 (A 15) = some (ia g 30 tm) := r1.a15
    have a14 : h5 (A 14) = some (ba g 30 (F 14)) := r1.a14
    induction j with
    | zero =>
      intro i b hi hp
      have : i = S.md.length := by omega
      subst this
      rw [anyN, Bool.not_false, Bool.and_true] at hp
      rw [hp] at hk
      refine z_iload C d_MM_serve_40 rfl ?_
      refine z_aload_n C d_MM_serve_42 rfl rfl ?_
      refine z_get (ci := 8) (T := T_MM) (N := 29) C d_MM_serve_43 20 i_MM rfl (by decide) k_767 (fun _ q => q) (r1.1) (by rfl) ?_
      refine z_icmp_ge 78 C d_MM_serve_46 (by decide) (fun c46 => ?_) (fun c46 => ?_)
      · exact hk _
      · exact absurd (Int32.le_refl _) c46
    | succ j ih =>
      intro i b hi hp
      rw [anyN] at hp
      have next : ∀ b, frB (F 14) tm S.md.length t = (b && !anyN (fun k => F 14 k != 0 && tm k == nI t) (i + 1) j) → Z g 5 0 0 p e R s m args below meth c (vx_MQ below (zQ g PR) (zX g PX) args s 0 0 (zA g)) 0 0 72 [some (.ref mo), some (.int (nI mi)), some (.int (nI t)), some (.int (bI b)), some (.int (nI i))] [] h5 := by
        intro b hp2
        refine z_iinc C d_MM_serve_72 rfl (by decide) rfl ?_
        simp only [List.set, zi1, zim1]
        rw [nI_1]
        refine z_goto 40 C d_MM_serve_75 (by decide) ?_
        exact ih (i + 1) b (by omega) hp2
      refine z_iload C d_MM_serve_40 rfl ?_
      refine z_aload_n C d_MM_serve_42 rfl rfl ?_
      refine z_get (ci := 8) (T := T_MM) (N := 29) C d_MM_serve_43 20 i_MM rfl (by decide) k_767 (fun _ q => q) (r1.1) (by rfl) ?_
      refine z_icmp_ge 78 C d_MM_serve_46 (by decide) (fun c46 => ?_) (fun c46 => ?_)
      · exact absurd c46 (nI_ge (by omega) (by omega))
      · refine z_aload_n C d_MM_serve_49 rfl rfl ?_
        refine z_get (ci := 8) (T := T_MM) (N := 29) C d_MM_serve_50 21 i_MM rfl (by decide) k_768 (fun _ q => q) (r1.1) (by rfl) ?_
        refine z_iload C d_MM_serve_53 rfl ?_
        refine z_zald C d_MM_serve_55 (a14) (vp_in_nI (by omega) (by decide)) ?_
        rw [nI_clamp (by omega)]
        refine z_if_eq 72 C d_MM_serve_56 (by decide) (fun c56 => ?_) (fun c56 => ?_)
        · rw [c56] at hp
          exact next b hp
        · rw [show (F 14 i != 0) = true from bne_iff_ne.mpr c56, Bool.true_and] at hp
          refine z_aload_n C d_MM_serve_59 rfl rfl ?_
          refine z_get (ci := 8) (T := T_MM) (N := 29) C d_MM_serve_60 22 i_MM rfl (by decide) k_769 (fun _ q => q) (r1.1) (by rfl) ?_
          refine z_iload C d_MM_serve_63 rfl ?_
          refine z_iald C d_MM_serve_65 (a15) (vp_in_nI (by omega) (by decide)) ?_
          rw [nI_clamp (by omega)]
          refine z_iload_n C d_MM_serve_66 rfl rfl ?_
          refine z_icmp_ne 72 C d_MM_serve_67 (by decide) (fun c67 => ?_) (fun c67 => ?_)
          · rw [show (tm i == nI t) = false from beq_eq_false_iff_ne.mpr c67, Bool.false_or] at hp
            exact next b hp
          · rw [show (tm i == nI t) = true from beq_iff_eq.mpr c67, Bool.true_or, Bool.not_true, Bool.and_false] at hp
            refine z_iconst (v := 0) C d_MM_serve_70 (by decide) ?_
            refine z_istore_n C d_MM_serve_71 rfl (by decide) rfl ?_
            dsimp only [List.set]
            exact next false (by rw [hp]; rfl)
  have inner : ∀ (mi : Nat), mi < S.md.length → ∀ (j t : Nat), t + j = 4 → ∀ (h5 : Hp) (tm : Nat → Int32), RepM g T h5 mo A th S (sF F 15 tm) → (∀ h6 z2 z3 z4, RepM g T h6 mo A th S (sF F 15 (svI (F 14) S.md.length mi j t tm)) → ExM T h5 h6 → Z g 5 0 0 p e R s m args below meth c (vx_MQ below (zQ g PR) (zX g PX) args s 0 0 (zA g)) 0 0 95 [some (.ref mo), some (.int (nI mi)), z2, z3, z4] [] h6) → ∀ z3 z4, Z g 5 0 0 p e R s m args below meth c (vx_MQ below (zQ g PR) (zX g PX) args s 0 0 (zA g)) 0 0 12 [some (.ref mo), some (.int (nI mi)), some (.int (nI t)), z3, z4] [] h5 := by
    intro mi hmi j
    induction j with
    | zero =>
      intro t ht h5 tm r1 hk z3 z4
      have : t = 4 := by omega
      subst this
      refine z_iload_n C d_MM_serve_12 rfl rfl ?_
      refine z_iconst (v := 4) C d_MM_serve_13 (by decide) ?_
      refine z_icmp_ge 95 C d_MM_serve_14 (by decide) (fun c14 => ?_) (fun c14 => ?_)
      · exact hk h5 _ _ _ r1 ExM.rf
      · exact absurd (by decide) c14
    | succ j ih =>
      intro t ht1 h5 tm r1 hk z3 z4
      have a15 : h5 (A 15) = some (ia g 30 tm) := r1.a15
      have a14 : h5 (A 14) = some (ba g 30 (F 14)) := r1.a14
      rw [svI] at hk
      refine z_iload_n C d_MM_serve_12 rfl rfl ?_
      refine z_iconst (v := 4) C d_MM_serve_13 (by decide) ?_
      refine z_icmp_ge 95 C d_MM_serve_14 (by decide) (fun c14 => ?_) (fun c14 => ?_)
      · exact absurd c14 (by rw [show (4 : Int32) = nI 4 from rfl]; exact nI_ge (by omega) (by omega))
      · refine z_aload_n C d_MM_serve_17 rfl rfl ?_
        refine z_get (ci := 8) (T := T_MM) (N := 29) C d_MM_serve_18 21 i_MM rfl (by decide) k_768 (fun _ q => q) (r1.1) (by rfl) ?_
        refine z_iload_n C d_MM_serve_21 rfl rfl ?_
        refine z_zald C d_MM_serve_22 (a14) (vp_in_nI (by omega) (by decide)) ?_
        rw [nI_clamp (by omega)]
        refine z_if_eq 95 C d_MM_serve_23 (by decide) (fun c23 => ?_) (fun c23 => ?_)
        · rw [if_neg (fun z => z.1 c23)] at hk
          exact hk h5 _ _ _ r1 ExM.rf
        · refine z_aload_n C d_MM_serve_26 rfl rfl ?_
          refine z_get (ci := 8) (T := T_MM) (N := 29) C d_MM_serve_27 22 i_MM rfl (by decide) k_769 (fun _ q => q) (r1.1) (by rfl) ?_
          refine z_iload_n C d_MM_serve_30 rfl rfl ?_
          refine z_iald C d_MM_serve_31 (a15) (vp_in_nI (by omega) (by decide)) ?_
          rw [nI_clamp (by omega)]
          refine z_if_ge 95 C d_MM_serve_32 (by decide) (fun c32 => ?_) (fun c32 => ?_)
          · rw [if_neg (fun z => Int32.not_lt.mpr c32 z.2)] at hk
            exact hk h5 _ _ _ r1 ExM.rf
          · rw [if_pos ⟨c23, Int32.not_le.mp c32⟩] at hk
            refine z_iconst (v := 1) C d_MM_serve_35 (by decide) ?_
            refine z_istore_n C d_MM_serve_36 rfl (by decide) rfl ?_
            dsimp only [List.set]
            refine z_iconst (v := 0) C d_MM_serve_37 (by decide) ?_
            refine z_istore C d_MM_serve_38 (by decide) rfl ?_
            dsimp only [List.set]
            refine free h5 tm r1 mi t (fun z4 => ?_) S.md.length 0 true (by omega) (by rw [frB, Bool.true_and])
            refine z_iload_n C d_MM_serve_78 rfl rfl ?_
            refine z_if_eq 89 C d_MM_serve_79 (by decide) (fun c79 => ?_) (fun c79 => ?_)
            · rw [bI0 c79, if_neg (by decide)] at hk
              refine z_iinc C d_MM_serve_89 rfl (by decide) rfl ?_
              simp only [List.set, zi1, zim1]
              rw [nI_1]
              refine z_goto 12 C d_MM_serve_92 (by decide) ?_
              exact ih (t + 1) (by omega) h5 tm r1 hk _ _
            · rw [bI1 c79, if_pos rfl] at hk
              refine z_aload_n C d_MM_serve_82 rfl rfl ?_
              refine z_get (ci := 8) (T := T_MM) (N := 29) C d_MM_serve_83 22 i_MM rfl (by decide) k_769 (fun _ q => q) (r1.1) (by rfl) ?_
              refine z_iload_n C d_MM_serve_86 rfl rfl ?_
              refine z_iload_n C d_MM_serve_87 rfl rfl ?_
              refine z_iast C d_MM_serve_88 (a15) (vp_in_nI (by omega) (by decide)) ?_
              rw [nI_clamp (by omega)]
              have r2 := r1.put (j := 15) (by decide) (upd tm mi (nI t))
              rw [sF_sF] at r2
              have e2 := r1.exP (j := 15) (by decide) (e := mmA g 15 (upd tm mi (nI t)))
              refine z_iinc C d_MM_serve_89 rfl (by decide) rfl ?_
              simp only [List.set, zi1, zim1]
              rw [nI_1]
              refine z_goto 12 C d_MM_serve_92 (by decide) ?_
              exact ih (t + 1) (by omega) _ _ r2 (fun h6 z2 z3 z4 r6 e6 => hk h6 z2 z3 z4 r6 (e2.trans e6)) _ _
  have outer : ∀ (j mi : Nat), mi + j = S.md.length → ∀ (h5 : Hp) (tm : Nat → Int32), RepM g T h5 mo A th S (sF F 15 tm) → ExM T h h5 → svO (F 14) S.md.length j mi tm = svO (F 14) S.md.length S.md.length 0 (F 15) → ∀ z2 z3 z4, Z g 5 0 0 p e R s m args below meth c (vx_MQ below (zQ g PR) (zX g PX) args s 0 0 (zA g)) 0 0 2 [some (.ref mo), some (.int (nI mi)), z2, z3, z4] [] h5 := by
    intro j
    induction j with
    | zero =>
      intro mi hmi h5 tm r1 e1 hs z2 z3 z4
      have : mi = S.md.length := by omega
      subst this
      rw [svO] at hs
      rw [hs] at r1
      refine z_iload_n C d_MM_serve_2 rfl rfl ?_
      refine z_aload_n C d_MM_serve_3 rfl rfl ?_
      refine z_get (ci := 8) (T := T_MM) (N := 29) C d_MM_serve_4 20 i_MM rfl (by decide) k_767 (fun _ q => q) (r1.1) (by rfl) ?_
      refine z_icmp_ge 101 C d_MM_serve_7 (by decide) (fun c7 => ?_) (fun c7 => ?_)
      · refine z_vret C d_MM_serve_101 ?_
        exact k h5 r1 e1
      · exact absurd (Int32.le_refl _) c7
    | succ j ih =>
      intro mi hmi h5 tm r1 e1 hs z2 z3 z4
      rw [svO] at hs
      refine z_iload_n C d_MM_serve_2 rfl rfl ?_
      refine z_aload_n C d_MM_serve_3 rfl rfl ?_
      refine z_get (ci := 8) (T := T_MM) (N := 29) C d_MM_serve_4 20 i_MM rfl (by decide) k_767 (fun _ q => q) (r1.1) (by rfl) ?_
      refine z_icmp_ge 101 C d_MM_serve_7 (by decide) (fun c7 => ?_) (fun c7 => ?_)
      · exact absurd c7 (nI_ge (by omega) (by omega))
      · refine z_iconst (v := 0) C d_MM_serve_10 (by decide) ?_
        refine z_istore_n C d_MM_serve_11 rfl (by decide) rfl ?_
        dsimp only [List.set]
        refine inner mi (by omega) 4 0 (by omega) h5 tm r1 (fun h6 z2 z3 z4 r6 e6 => ?_) _ _
        refine z_iinc C d_MM_serve_95 rfl (by decide) rfl ?_
        simp only [List.set, zi1, zim1]
        rw [nI_1]
        refine z_goto 2 C d_MM_serve_98 (by decide) ?_
        exact ih (mi + 1) (by omega) h6 _ r6 (e1.trans e6) hs _ _ _
  refine z_iconst (v := 0) C d_MM_serve_0 (by decide) ?_
  refine z_istore_n C d_MM_serve_1 rfl (by decide) rfl ?_
  dsimp only [List.set]
  exact outer S.md.length 0 (by omega) h (F 15) (by rw [sF_id]; exact hM) ExM.rf rfl _ _ _
abbrev mdF (S : CS) (F : FT) (a b : Int32) : FT := sF (sF (sF (sF (sF F 14 (upd (F 14) S.md.length 1)) 15 (upd (F 15) S.md.length (-1))) 16 (upd (F 16) S.md.length a)) 17 (upd (F 17) S.md.length b)) 18 (upd (F 18) S.md.length S.sec)
set_option maxRecDepth 100000 in
theorem ct_MM_mayday {a b : Int32} (hM : RepM g T h mo A th S F) (hv : mvR S F) (hb : S.ps.length ≤ 60) (hb2 : S.md.length ≤ 30) (hmd : ∀ (i : Nat) (e : MdT), S.md[i]? = some e → F 14 i = e.op ∧ F 16 i = e.1)
    (kf : ∀ st rm, st = ((inN a S.ps.length && !decide (wasF a S.sec S.mv.reverse < 0)) && !S.md.any (fun e => e.op != 0 && e.1 == a)) → rm = decide (S.md.length < 30) → (inN a S.ps.length && inB b 0 999 && st && rm) = false → ∀ h1, RepM g T h1 mo A (goT 15 (inN a S.ps.length) (inB b 0 999) st rm) S F → ExM T h h1 → PR (some (.int 0)) h1)
    (ks : inN a S.ps.length = true → inB b 0 999 = true → ¬ wasF a S.sec S.mv.reverse < 0 → S.md.any (fun e => e.op != 0 && e.1 == a) = false → S.md.length < 30 → ∀ (v : MdT) h1, RepM g T h1 mo A 0 (S.1, S.2.1, S.2.2.1, S.2.2.2.1, S.2.2.2.2.1, S.2.2.2.2.2.1, S.2.2.2.2.2.2.1 ++ [v], S.2.2.2.2.2.2.2) (sF (mdF S F a b) 15 (svO (upd (F 14) S.md.length 1) (S.md.length + 1) (S.md.length + 1) 0 (upd (F 15) S.md.length (-1)))) → ExM T h h1 → PR (some (.int (nI S.md.length))) h1) (v0 : MdT) : Ct g y_MM_mayday w_MM_mayday 3 0 0 [.ref mo, .int a, .int b] h PR PX := by
  refine Ct_intro (cc := c_MM_mayday) (nL := 5) (ret := (some FieldType.int)) (ls := [some (.ref mo), some (.int a), some (.int b), none, none]) (by decide) (Nat.le_of_ble_eq_true rfl) rfl rfl ?_
  intro p e R s m args below meth c C ht hname
  have J94 : ∀ st rm, st = ((inN a S.ps.length && !decide (wasF a S.sec S.mv.reverse < 0)) && !S.md.any (fun e => e.op != 0 && e.1 == a)) → rm = decide (S.md.length < 30) → ∀ (z3 z4 : Option Value), Z g 5 0 0 p e R s m args below meth c (vx_MQ below (zQ g PR) (zX g PX) args s 0 0 (zA g)) 0 0 94 [some (.ref mo), some (.int a), some (.int b), z3, z4] [.int (bI rm), .int (bI st), .int (bI (inB b 0 999)), .int (bI (inN a S.ps.length)), .int 15, .ref mo] h := by
    intro st rm h1 h2 z3 z4
    refine z_callV (n := 5) (As := [.int 15, .int (bI (inN a S.ps.length)), .int (bI (inB b 0 999)), .int (bI st), .int (bI rm)]) (rest := []) (r1 := 1) (mc1 := 0) (ms1 := 0) (ci := 8) (T0 := T_MM) C d_MM_mayday_94 k_846 k_843 k_845 ks_25 k_5 (by decide +kernel) rfl rfl (hM.1) (by decide) (by decide) (Nat.le_of_ble_eq_true rfl) (by first | decide | omega) (by first | decide | omega) rfl ?_
    refine ct_MM_goes (kn := inN a S.ps.length) (rg := inB b 0 999) (st := st) (rm := rm) hM (fun h5 r0 e0 => ?_)
    dsimp only [zps]
    refine z_if_ne 102 C d_MM_mayday_97 (by decide) (fun c97 => ?_) (fun c97 => ?_)
    · obtain ⟨g1, g2, g3, g4⟩ := b4f (bI1 c97)
      subst g3 g4
      rw [g1, g2] at r0
      rw [g1, Bool.true_and] at h1
      have hl : S.md.length < 30 := of_decide_eq_true h2.symm
      have i1 := (Bool.and_eq_true_iff.mp h1.symm)
      have q1 : ¬ wasF a S.sec S.mv.reverse < 0 := by simpa using i1.1
      have q2 : S.md.any (fun e => e.op != 0 && e.1 == a) = false := by
        cases hq : S.md.any (fun e => e.op != 0 && e.1 == a) with
        | false => rfl
        | true => rw [hq] at i1; exact absurd i1.2 (by decide)
      have k := ks g1 g2 q1 q2 hl v0
      clear kf ks
      have hin : vp_in (nI S.md.length) 30 := vp_in_nI (by omega) (by decide)
      have hcl : (nI S.md.length).toNatClampNeg = S.md.length := nI_clamp (by omega)
      refine z_aload_n C d_MM_mayday_102 rfl rfl ?_
      refine z_get (ci := 8) (T := T_MM) (N := 29) C d_MM_mayday_103 21 i_MM rfl (by decide) k_768 (fun _ q => q) (r0.1) (by rfl) ?_
      refine z_aload_n C d_MM_mayday_106 rfl rfl ?_
      refine z_get (ci := 8) (T := T_MM) (N := 29) C d_MM_mayday_107 20 i_MM rfl (by decide) k_767 (fun _ q => q) (r0.1) (by rfl) ?_
      refine z_iconst (v := 1) C d_MM_mayday_110 (by decide) ?_
      refine z_zast C d_MM_mayday_111 (r0.a14) hin (by first | rfl | assumption | exact bI_nar _) ?_
      rw [hcl]
      have r1 := r0.put (j := 14) (by decide) (upd (F 14) S.md.length 1)
      have e1 := e0.trans (r0.exP (j := 14) (by decide) (e := mmA g 14 (upd (F 14) S.md.length 1)))
      refine z_aload_n C d_MM_mayday_112 rfl rfl ?_
      refine z_get (ci := 8) (T := T_MM) (N := 29) C d_MM_mayday_113 22 i_MM rfl (by decide) k_769 (fun _ q => q) (r1.1) (by rfl) ?_
      refine z_aload_n C d_MM_mayday_116 rfl rfl ?_
      refine z_get (ci := 8) (T := T_MM) (N := 29) C d_MM_mayday_117 20 i_MM rfl (by decide) k_767 (fun _ q => q) (r1.1) (by rfl) ?_
      refine z_iconst (v := (-1)) C d_MM_mayday_120 (by decide) ?_
      refine z_iast C d_MM_mayday_121 (r1.a15) hin ?_
      rw [hcl]
      have r2 := r1.put (j := 15) (by decide) (upd (F 15) S.md.length (-1))
      have e2 := e1.trans (r1.exP (j := 15) (by decide) (e := mmA g 15 (upd (F 15) S.md.length (-1))))
      refine z_aload_n C d_MM_mayday_122 rfl rfl ?_
      refine z_get (ci := 8) (T := T_MM) (N := 29) C d_MM_mayday_123 23 i_MM rfl (by decide) k_770 (fun _ q => q) (r2.1) (by rfl) ?_
      refine z_aload_n C d_MM_mayday_126 rfl rfl ?_
      refine z_get (ci := 8) (T := T_MM) (N := 29) C d_MM_mayday_127 20 i_MM rfl (by decide) k_767 (fun _ q => q) (r2.1) (by rfl) ?_
      refine z_iload_n C d_MM_mayday_130 rfl rfl ?_
      refine z_iast C d_MM_mayday_131 (r2.a16) hin ?_
      rw [hcl]
      have r3 := r2.put (j := 16) (by decide) (upd (F 16) S.md.length a)
      have e3 := e2.trans (r2.exP (j := 16) (by decide) (e := mmA g 16 (upd (F 16) S.md.length a)))
      refine z_aload_n C d_MM_mayday_132 rfl rfl ?_
      refine z_get (ci := 8) (T := T_MM) (N := 29) C d_MM_mayday_133 24 i_MM rfl (by decide) k_771 (fun _ q => q) (r3.1) (by rfl) ?_
      refine z_aload_n C d_MM_mayday_136 rfl rfl ?_
      refine z_get (ci := 8) (T := T_MM) (N := 29) C d_MM_mayday_137 20 i_MM rfl (by decide) k_767 (fun _ q => q) (r3.1) (by rfl) ?_
      refine z_iload_n C d_MM_mayday_140 rfl rfl ?_
      refine z_iast C d_MM_mayday_141 (r3.a17) hin ?_
      rw [hcl]
      have r4 := r3.put (j := 17) (by decide) (upd (F 17) S.md.length b)
      have e4 := e3.trans (r3.exP (j := 17) (by decide) (e := mmA g 17 (upd (F 17) S.md.length b)))
      refine z_aload_n C d_MM_mayday_142 rfl rfl ?_
      refine z_get (ci := 8) (T := T_MM) (N := 29) C d_MM_mayday_143 25 i_MM rfl (by decide) k_772 (fun _ q => q) (r4.1) (by rfl) ?_
      refine z_aload_n C d_MM_mayday_146 rfl rfl ?_
      refine z_get (ci := 8) (T := T_MM) (N := 29) C d_MM_mayday_147 20 i_MM rfl (by decide) k_767 (fun _ q => q) (r4.1) (by rfl) ?_
      refine z_aload_n C d_MM_mayday_150 rfl rfl ?_
      refine z_get (ci := 8) (T := T_MM) (N := 29) C d_MM_mayday_151 1 i_MM rfl (by decide) k_748 (fun _ q => q) (r4.1) (by rfl) ?_
      refine z_iast C d_MM_mayday_154 (r4.a18) hin ?_
      rw [hcl]
      have r5 := r4.put (j := 18) (by decide) (upd (F 18) S.md.length S.sec)
      have e5 := e4.trans (r4.exP (j := 18) (by decide) (e := mmA g 18 (upd (F 18) S.md.length S.sec)))
      clear r1 r2 r3 r4 e1 e2 e3 e4
      refine z_aload_n C d_MM_mayday_155 rfl rfl ?_
      refine z_dup C d_MM_mayday_156 rfl ?_
      refine z_get (ci := 8) (T := T_MM) (N := 29) C d_MM_mayday_157 20 i_MM rfl (by decide) k_767 (fun _ q => q) (r5.1) (by rfl) ?_
      refine z_iconst (v := 1) C d_MM_mayday_160 (by decide) ?_
      refine z_iadd C d_MM_mayday_161 ?_
      refine z_put (ci := 8) (T := T_MM) (N := 29) (ty := .int) C d_MM_mayday_162 20 ty_MM t_MM n_MM i_MM rfl (by decide) k_767 (fun _ q => q) rfl (by decide +kernel) (by rfl) (by rfl) (r5.1) (by exact Nat.le_of_ble_eq_true rfl) ?_
      dsimp only [List.set]
      rw [nI_1]
      have r6 := r5.fldE 0 (S.1, S.2.1, S.2.2.1, S.2.2.2.1, S.2.2.2.2.1, S.2.2.2.2.2.1, S.2.2.2.2.2.2.1 ++ [v0], S.2.2.2.2.2.2.2) (v := mmK A 0 S.sec (nI S.ps.length) (nI S.mv.length) (nI S.ro.length) (nI S.db.length) (nI (S.md.length + 1)) (nI S.ev.length)) (by unfold mmC CS.md; rw [la1])
      have e6 := e5.trans (r5.exF (e := mmK A 0 S.sec (nI S.ps.length) (nI S.mv.length) (nI S.ro.length) (nI S.db.length) (nI (S.md.length + 1)) (nI S.ev.length)))
      refine z_aload_n C d_MM_mayday_165 rfl rfl ?_
      refine z_callV (n := 0) (As := []) (rest := []) (r1 := 1) (mc1 := 0) (ms1 := 0) (ci := 8) (T0 := T_MM) C d_MM_mayday_166 k_940 k_937 k_939 ks_36 k_5 (by decide +kernel) rfl rfl (zu_s) (by decide) (by decide) (Nat.le_of_ble_eq_true rfl) (by first | decide | omega) (by first | decide | omega) rfl ?_
      refine ct_MM_serve r6 (zlen1 hl) (fun h7 r7 e7 => ?_)
      dsimp only [zps]
      have hm7 := r7.1
      unfold mmC CS.md at hm7
      dsimp only at hm7
      rw [la1] at hm7
      refine z_aload_n C d_MM_mayday_169 rfl rfl ?_
      refine z_get (ci := 8) (T := T_MM) (N := 29) C d_MM_mayday_170 20 i_MM rfl (by decide) k_767 (fun _ q => q) (hm7) (by rfl) ?_
      refine z_iconst (v := 1) C d_MM_mayday_173 (by decide) ?_
      refine z_isub C d_MM_mayday_174 ?_
      rw [nI_pred]
      refine z_iret C d_MM_mayday_175 ?_
      have ee : (S.2.2.2.2.2.2.1 ++ [v0]).length = S.md.length + 1 := by rw [List.length_append]; rfl
      unfold CS.md at r7
      dsimp only at r7
      rw [ee] at r7
      exact k h7 r7 (e6.trans e7)
    · refine z_iconst (v := 0) C d_MM_mayday_100 (by decide) ?_
      refine z_iret C d_MM_mayday_101 ?_
      exact kf st rm h1 h2 (bI0 c97) h5 r0 e0
  have loop : ∀ (j i : Nat) (b1 : Bool), i + j = S.md.length → ((inN a S.ps.length && !decide (wasF a S.sec S.mv.reverse < 0)) && !S.md.any (fun e => e.op != 0 && e.1 == a)) = (b1 && !(S.md.drop i).any (fun e => e.op != 0 && e.1 == a)) → Z g 5 0 0 p e R s m args below meth c (vx_MQ below (zQ g PR) (zX g PX) args s 0 0 (zA g)) 0 0 25 [some (.ref mo), some (.int a), some (.int b), some (.int (bI b1)), some (.int (nI i))] [] h := by
    intro j
    induction j with
    | zero =>
      intro i b1 hi hp
      have : i = S.md.length := by omega
      subst this
      rw [List.drop_length, List.any_nil, Bool.not_false, Bool.and_true] at hp
      refine z_iload C d_MM_mayday_25 rfl ?_
      refine z_aload_n C d_MM_mayday_27 rfl rfl ?_
      refine z_get (ci := 8) (T := T_MM) (N := 29) C d_MM_mayday_28 20 i_MM rfl (by decide) k_767 (fun _ q => q) (hM.1) (by rfl) ?_
      refine z_icmp_ge 63 C d_MM_mayday_31 (by decide) (fun c31 => ?_) (fun c31 => ?_)
      · refine z_aload_n C d_MM_mayday_63 rfl rfl ?_
        refine z_bipush (v := 15) C d_MM_mayday_64 (by decide) ?_
        refine z_aload_n C d_MM_mayday_66 rfl rfl ?_
        refine z_iload_n C d_MM_mayday_67 rfl rfl ?_
        refine z_callV (n := 1) (As := [.int a]) (rest := [.int 15, .ref mo]) (r1 := 2) (mc1 := 0) (ms1 := 0) (ci := 8) (T0 := T_MM) C d_MM_mayday_68 k_854 k_851 k_853 ks_26 k_5 (by decide +kernel) rfl rfl (hM.1) (by decide) (by decide) (Nat.le_of_ble_eq_true rfl) (by first | decide | omega) (by first | decide | omega) rfl ?_
        refine ct_MM_isPerson hM hb ?_
        dsimp only [zps]
        refine z_iload_n C d_MM_mayday_71 rfl rfl ?_
        refine z_iconst (v := 0) C d_MM_mayday_72 (by decide) ?_
        refine z_sipush (v := 999) C d_MM_mayday_73 (by decide) ?_
        refine z_callS (n := 3) (As := [.int b, .int 0, .int 999]) (rest := [.int (bI (inN a S.ps.length)), .int 15, .ref mo]) (r1 := 1) (mc1 := 0) (ms1 := 0) C d_MM_mayday_76 k_857 k_855 k_856 k_5 (by decide +kernel) rfl (by decide) (by decide) (Nat.le_of_ble_eq_true rfl) (by first | decide | omega) (by first | decide | omega) rfl ?_
        refine ct_MM_in ?_
        dsimp only [zps]
        refine z_iload_n C d_MM_mayday_79 rfl rfl ?_
        refine z_aload_n C d_MM_mayday_80 rfl rfl ?_
        refine z_get (ci := 8) (T := T_MM) (N := 29) C d_MM_mayday_81 20 i_MM rfl (by decide) k_767 (fun _ q => q) (hM.1) (by rfl) ?_
        refine z_bipush (v := 30) C d_MM_mayday_84 (by decide) ?_
        refine z_icmp_ge 93 C d_MM_mayday_86 (by decide) (fun c86 => ?_) (fun c86 => ?_)
        · refine z_iconst (v := 0) C d_MM_mayday_93 (by decide) ?_
          exact J94 b1 false hp.symm (nlt_dec (b := 30) (by omega) (by omega) c86).symm _ _
        · refine z_iconst (v := 1) C d_MM_mayday_89 (by decide) ?_
          refine z_goto 94 C d_MM_mayday_90 (by decide) ?_
          exact J94 b1 true hp.symm (lt_dec (b := 30) (by omega) (by omega) c86).symm _ _
      · exact absurd (Int32.le_refl _) c31
    | succ j ih =>
      intro i b1 hi hp
      obtain ⟨e0, he, hd⟩ := zdrop (l := S.md) (k := i) (by omega)
      obtain ⟨w1, w2⟩ := hmd i e0 he
      rw [hd, List.any_cons] at hp
      have next : ∀ b1, ((inN a S.ps.length && !decide (wasF a S.sec S.mv.reverse < 0)) && !S.md.any (fun e => e.op != 0 && e.1 == a)) = (b1 && !(S.md.drop (i + 1)).any (fun e => e.op != 0 && e.1 == a)) → Z g 5 0 0 p e R s m args below meth c (vx_MQ below (zQ g PR) (zX g PX) args s 0 0 (zA g)) 0 0 57 [some (.ref mo), some (.int a), some (.int b), some (.int (bI b1)), some (.int (nI i))] [] h := by
        intro b1 hp2
        refine z_iinc C d_MM_mayday_57 rfl (by decide) rfl ?_
        simp only [List.set, zi1, zim1]
        rw [nI_1]
        refine z_goto 25 C d_MM_mayday_60 (by decide) ?_
        exact ih (i + 1) b1 (by omega) hp2
      refine z_iload C d_MM_mayday_25 rfl ?_
      refine z_aload_n C d_MM_mayday_27 rfl rfl ?_
      refine z_get (ci := 8) (T := T_MM) (N := 29) C d_MM_mayday_28 20 i_MM rfl (by decide) k_767 (fun _ q => q) (hM.1) (by rfl) ?_
      refine z_icmp_ge 63 C d_MM_mayday_31 (by decide) (fun c31 => ?_) (fun c31 => ?_)
      · exact absurd c31 (nI_ge (by omega) (by omega))
      · refine z_aload_n C d_MM_mayday_34 rfl rfl ?_
        refine z_get (ci := 8) (T := T_MM) (N := 29) C d_MM_mayday_35 21 i_MM rfl (by decide) k_768 (fun _ q => q) (hM.1) (by rfl) ?_
        refine z_iload C d_MM_mayday_38 rfl ?_
        refine z_zald C d_MM_mayday_40 (hM.a14) (vp_in_nI (by omega) (by decide)) ?_
        rw [nI_clamp (by omega), w1]
        refine z_if_eq 57 C d_MM_mayday_41 (by decide) (fun c41 => ?_) (fun c41 => ?_)
        · rw [show (e0.op != 0) = false from bne_eq_false_iff_eq.mpr c41, Bool.false_and, Bool.false_or] at hp
          exact next b1 hp
        · rw [show (e0.op != 0) = true from bne_iff_ne.mpr c41, Bool.true_and] at hp
          refine z_aload_n C d_MM_mayday_44 rfl rfl ?_
          refine z_get (ci := 8) (T := T_MM) (N := 29) C d_MM_mayday_45 23 i_MM rfl (by decide) k_770 (fun _ q => q) (hM.1) (by rfl) ?_
          refine z_iload C d_MM_mayday_48 rfl ?_
          refine z_iald C d_MM_mayday_50 (hM.a16) (vp_in_nI (by omega) (by decide)) ?_
          rw [nI_clamp (by omega), w2]
          refine z_iload_n C d_MM_mayday_51 rfl rfl ?_
          refine z_icmp_ne 57 C d_MM_mayday_52 (by decide) (fun c52 => ?_) (fun c52 => ?_)
          · rw [show (e0.1 == a) = false from beq_eq_false_iff_ne.mpr c52, Bool.false_or] at hp
            exact next b1 hp
          · rw [show (e0.1 == a) = true from beq_iff_eq.mpr c52, Bool.true_or, Bool.not_true, Bool.and_false] at hp
            refine z_iconst (v := 0) C d_MM_mayday_55 (by decide) ?_
            refine z_istore_n C d_MM_mayday_56 rfl (by decide) rfl ?_
            dsimp only [List.set]
            exact next false (by rw [hp]; rfl)
  have start : ∀ b1, b1 = (inN a S.ps.length && !decide (wasF a S.sec S.mv.reverse < 0)) → Z g 5 0 0 p e R s m args below meth c (vx_MQ below (zQ g PR) (zX g PX) args s 0 0 (zA g)) 0 0 21 [some (.ref mo), some (.int a), some (.int b), none, none] [.int (bI b1)] h := by
    intro b1 hb1
    refine z_istore_n C d_MM_mayday_21 rfl (by decide) rfl ?_
    dsimp only [List.set]
    refine z_iconst (v := 0) C d_MM_mayday_22 (by decide) ?_
    refine z_istore C d_MM_mayday_23 (by decide) rfl ?_
    dsimp only [List.set]
    exact loop S.md.length 0 b1 (by omega) (by rw [hb1, List.drop_zero])
  refine z_aload_n C d_MM_mayday_0 rfl rfl ?_
  refine z_iload_n C d_MM_mayday_1 rfl rfl ?_
  refine z_callV (n := 1) (As := [.int a]) (rest := []) (r1 := 2) (mc1 := 0) (ms1 := 0) (ci := 8) (T0 := T_MM) C d_MM_mayday_2 k_854 k_851 k_853 ks_26 k_5 (by decide +kernel) rfl rfl (hM.1) (by decide) (by decide) (Nat.le_of_ble_eq_true rfl) (by first | decide | omega) (by first | decide | omega) rfl ?_
  refine ct_MM_isPerson hM hb ?_
  dsimp only [zps]
  refine z_if_eq 20 C d_MM_mayday_5 (by decide) (fun c5 => ?_) (fun c5 => ?_)
  · refine z_iconst (v := 0) C d_MM_mayday_20 (by decide) ?_
    exact start false (by rw [bI0 c5]; rfl)
  · refine z_aload_n C d_MM_mayday_8 rfl rfl ?_
    refine z_iload_n C d_MM_mayday_9 rfl rfl ?_
    refine z_callV (n := 1) (As := [.int a]) (rest := []) (r1 := 2) (mc1 := 0) (ms1 := 0) (ci := 8) (T0 := T_MM) C d_MM_mayday_10 k_864 k_861 k_863 ks_27 k_5 (by decide +kernel) rfl rfl (hM.1) (by decide) (by decide) (Nat.le_of_ble_eq_true rfl) (by first | decide | omega) (by first | decide | omega) rfl ?_
    refine ct_MM_here hM hv ?_
    dsimp only [zps]
    refine z_if_lt 20 C d_MM_mayday_13 (by decide) (fun c13 => ?_) (fun c13 => ?_)
    · refine z_iconst (v := 0) C d_MM_mayday_20 (by decide) ?_
      exact start false (by rw [decide_eq_true c13, Bool.not_true, Bool.and_false])
    · refine z_iconst (v := 1) C d_MM_mayday_16 (by decide) ?_
      refine z_goto 21 C d_MM_mayday_17 (by decide) ?_
      exact start true (by rw [bI1 c5, decide_eq_false c13]; rfl)
abbrev anF (F : FT) (j : Nat) : FT := sF (sF F 14 (upd (F 14) j 0)) 15 (upd (F 15) j (-1))
set_option maxRecDepth 100000 in
theorem ct_MM_answered {a : Int32} (hM : RepM g T h mo A th S F) (hb : S.md.length ≤ 30)
    (kf : ∀ st, st = (inN a S.md.length && (F 14 a.toNatClampNeg != 0)) → (inN a S.md.length && true && st && true) = false → ∀ h1, RepM g T h1 mo A (goT 5 (inN a S.md.length) true st true) S F → ExM T h h1 → PR none h1)
    (ks : ∀ j, j < S.md.length → a = nI j → F 14 j ≠ 0 → ∀ h1, RepM g T h1 mo A 0 S (sF (anF F j) 15 (svO (upd (F 14) j 0) S.md.length S.md.length 0 (upd (F 15) j (-1)))) → ExM T h h1 → PR none h1) : Ct g y_MM_answered w_MM_answered 3 0 0 [.ref mo, .int a] h PR PX := by
  refine Ct_intro (cc := c_MM_answered) (nL := 3) (ret := none) (ls := [some (.ref mo), some (.int a), none]) (by decide) (Nat.le_of_ble_eq_true rfl) rfl rfl ?_
  intro p e R s m args below meth c C ht hname
  have J : ∀ st, st = (inN a S.md.length && (F 14 a.toNatClampNeg != 0)) → Z g 3 0 0 p e R s m args below meth c (vx_MQ below (zQ g PR) (zX g PX) args s 0 0 (zA g)) 0 0 34 [some (.ref mo), some (.int a), some (.int (bI (inN a S.md.length)))] [.int (bI st), .int 1, .int (bI (inN a S.md.length)), .int 5, .ref mo] h := by
    intro st h1
    refine z_iconst (v := 1) C d_MM_answered_34 (by decide) ?_
    refine z_callV (n := 5) (As := [.int 5, .int (bI (inN a S.md.length)), .int 1, .int (bI st), .int 1]) (rest := []) (r1 := 1) (mc1 := 0) (ms1 := 0) (ci := 8) (T0 := T_MM) C d_MM_answered_35 k_846 k_843 k_845 ks_25 k_5 (by decide +kernel) rfl rfl (hM.1) (by decide) (by decide) (Nat.le_of_ble_eq_true rfl) (by first | decide | omega) (by first | decide | omega) rfl ?_
    refine ct_MM_goes (kn := inN a S.md.length) (rg := true) (st := st) (rm := true) hM (fun h5 r0 e0 => ?_)
    dsimp only [zps]
    refine z_if_ne 42 C d_MM_answered_38 (by decide) (fun c38 => ?_) (fun c38 => ?_)
    · obtain ⟨g1, -, g3, -⟩ := b4f (bI1 c38)
      subst g3
      rw [g1] at r0
      rw [g1, Bool.true_and] at h1
      obtain ⟨j, hj, rfl⟩ := inN_t (by omega) g1
      rw [nI_clamp (by omega)] at h1
      have k := ks j hj rfl (bne_iff_ne.mp h1.symm)
      refine z_aload_n C d_MM_answered_42 rfl rfl ?_
      refine z_get (ci := 8) (T := T_MM) (N := 29) C d_MM_answered_43 21 i_MM rfl (by decide) k_768 (fun _ q => q) (r0.1) (by rfl) ?_
      refine z_iload_n C d_MM_answered_46 rfl rfl ?_
      refine z_iconst (v := 0) C d_MM_answered_47 (by decide) ?_
      refine z_zast C d_MM_answered_48 (r0.a14) (vp_in_nI (by omega) (by decide)) (by first | rfl | assumption | exact bI_nar _) ?_
      rw [nI_clamp (by omega)]
      have r1 := r0.put (j := 14) (by decide) (upd (F 14) j 0)
      have e1 := e0.trans (r0.exP (j := 14) (by decide) (e := mmA g 14 (upd (F 14) j 0)))
      refine z_aload_n C d_MM_answered_49 rfl rfl ?_
      refine z_get (ci := 8) (T := T_MM) (N := 29) C d_MM_answered_50 22 i_MM rfl (by decide) k_769 (fun _ q => q) (r1.1) (by rfl) ?_
      refine z_iload_n C d_MM_answered_53 rfl rfl ?_
      refine z_iconst (v := (-1)) C d_MM_answered_54 (by decide) ?_
      refine z_iast C d_MM_answered_55 (r1.a15) (vp_in_nI (by omega) (by decide)) ?_
      rw [nI_clamp (by omega)]
      have r2 := r1.put (j := 15) (by decide) (upd (F 15) j (-1))
      have e2 := e1.trans (r1.exP (j := 15) (by decide) (e := mmA g 15 (upd (F 15) j (-1))))
      refine z_aload_n C d_MM_answered_56 rfl rfl ?_
      refine z_callV (n := 0) (As := []) (rest := []) (r1 := 1) (mc1 := 0) (ms1 := 0) (ci := 8) (T0 := T_MM) C d_MM_answered_57 k_940 k_937 k_939 ks_36 k_5 (by decide +kernel) rfl rfl (r2.1) (by decide) (by decide) (Nat.le_of_ble_eq_true rfl) (by first | decide | omega) (by first | decide | omega) rfl ?_
      refine ct_MM_serve r2 hb (fun h7 r7 e7 => ?_)
      dsimp only [zps]
      refine z_vret C d_MM_answered_60 ?_
      exact k h7 r7 (e2.trans e7)
    · refine z_vret C d_MM_answered_41 ?_
      exact kf st h1 (bI0 c38) h5 r0 e0
  refine z_iload_n C d_MM_answered_0 rfl rfl ?_
  refine z_iconst (v := 0) C d_MM_answered_1 (by decide) ?_
  refine z_aload_n C d_MM_answered_2 rfl rfl ?_
  refine z_get (ci := 8) (T := T_MM) (N := 29) C d_MM_answered_3 20 i_MM rfl (by decide) k_767 (fun _ q => q) (hM.1) (by rfl) ?_
  refine z_iconst (v := 1) C d_MM_answered_6 (by decide) ?_
  refine z_isub C d_MM_answered_7 ?_
  refine z_callS (n := 3) (As := [.int a, .int 0, .int (nI S.md.length - 1)]) (rest := []) (r1 := 1) (mc1 := 0) (ms1 := 0) C d_MM_answered_8 k_857 k_855 k_856 k_5 (by decide +kernel) rfl (by decide) (by decide) (Nat.le_of_ble_eq_true rfl) (by first | decide | omega) (by first | decide | omega) rfl ?_
  refine ct_MM_in ?_
  dsimp only [zps]
  rw [inN_eq a (by omega)]
  refine z_istore_n C d_MM_answered_11 rfl (by decide) rfl ?_
  dsimp only [List.set]
  refine z_aload_n C d_MM_answered_12 rfl rfl ?_
  refine z_iconst (v := 5) C d_MM_answered_13 (by decide) ?_
  refine z_iload_n C d_MM_answered_14 rfl rfl ?_
  refine z_iconst (v := 1) C d_MM_answered_15 (by decide) ?_
  refine z_iload_n C d_MM_answered_16 rfl rfl ?_
  refine z_if_eq 33 C d_MM_answered_17 (by decide) (fun c17 => ?_) (fun c17 => ?_)
  · refine z_iconst (v := 0) C d_MM_answered_33 (by decide) ?_
    exact J false (by rw [bI0 c17]; rfl)
  · have g1 := bI1 c17
    obtain ⟨j, hj, hja⟩ := inN_t (by omega) g1
    have hin : vp_in a 30 := by rw [hja]; exact vp_in_nI (by omega) (by decide)
    refine z_aload_n C d_MM_answered_20 rfl rfl ?_
    refine z_get (ci := 8) (T := T_MM) (N := 29) C d_MM_answered_21 21 i_MM rfl (by decide) k_768 (fun _ q => q) (hM.1) (by rfl) ?_
    refine z_iload_n C d_MM_answered_24 rfl rfl ?_
    refine z_zald C d_MM_answered_25 (hM.a14) hin ?_
    refine z_if_eq 33 C d_MM_answered_26 (by decide) (fun c26 => ?_) (fun c26 => ?_)
    · refine z_iconst (v := 0) C d_MM_answered_33 (by decide) ?_
      exact J false (by rw [c26, g1]; rfl)
    · refine z_iconst (v := 1) C d_MM_answered_29 (by decide) ?_
      refine z_goto 34 C d_MM_answered_30 (by decide) ?_
      exact J true (by rw [g1, Bool.true_and]; exact (bne_iff_ne.mpr c26).symm)
end NA
