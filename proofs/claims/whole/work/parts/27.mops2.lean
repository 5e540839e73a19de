/-! the reference's public methods: twice, maydayAt, seen, count, missing, late, tick, confirm -/
theorem inN4 (x : Int32) : inB x 0 3 = inN x 4 := inN_eq x (n := 4) (by decide)
theorem inN5 (x : Int32) : inB x 0 4 = inN x 5 := inN_eq x (n := 5) (by decide)
theorem inN6 (x : Int32) : inB x 0 5 = inN x 6 := inN_eq x (n := 6) (by decide)
theorem inN7 (x : Int32) : inB x 0 6 = inN x 7 := inN_eq x (n := 7) (by decide)
theorem nI4 (r i : Nat) : 4 * nI r + nI i = nI (4 * r + i) := by rw [show (4 : Int32) = nI 4 from rfl, pk_mul, nI_add]
def msM (P : Nat → Bool) : Nat → Nat → Int32 → Int32
  | _, 0, _ => -1
  | i, j + 1, l => if P i = true then (if l = 0 then nI i else msM P (i + 1) j (l - 1)) else msM P (i + 1) j l
section MZ
variable {g : zG} {T : Tg} {h : Hp} {PR : Option Value → Hp → Prop} {PX : String → Hp → Prop} {mo : Nat} {A : Nat → Nat} {th : Int32} {S : CS} {F : FT}
set_option maxRecDepth 100000 in
theorem ct_MM_twice {a t : Int32} (hM : RepM g T h mo A th S F) (hb : S.db.length ≤ 100)
    (kf : (inN a S.db.length && inN t 4) = false → ∀ h1, RepM g T h1 mo A 1 S F → ExM T h h1 → PR (some (.int 0)) h1)
    (ks : ∀ j w, j < S.db.length → a = nI j → w < 4 → t = nI w → ∀ h1, RepM g T h1 mo A 0 S F → ExM T h h1 → PR (some (.int (F 13 (4 * j + w)))) h1) : Ct g y_MM_twice w_MM_twice 2 0 0 [.ref mo, .int a, .int t] h PR PX := by
  refine Ct_intro (cc := c_MM_twice) (nL := 3) (ret := (some FieldType.int)) (ls := [some (.ref mo), some (.int a), some (.int t)]) (by decide) (Nat.le_of_ble_eq_true rfl) rfl rfl ?_
  intro p e R s m args below meth c C ht hname
  have J : ∀ kn, kn = (inN a S.db.length && inN t 4) → Z g 3 0 0 p e R s m args below meth c (vx_MQ below (zQ g PR) (zX g PX) args s 0 0 (zA g)) 0 0 30 [some (.ref mo), some (.int a), some (.int t)] [.int (bI kn), .int 1, .ref mo] h := by
    intro kn h1
    refine z_iconst (v := 1) C d_MM_twice_30 (by decide) ?_
    refine z_iconst (v := 1) C d_MM_twice_31 (by decide) ?_
    refine z_iconst (v := 1) C d_MM_twice_32 (by decide) ?_
    refine z_callV (n := 5) (As := [.int 1, .int (bI kn), .int 1, .int 1, .int 1]) (rest := []) (r1 := 1) (mc1 := 0) (ms1 := 0) (ci := 8) (T0 := T_MM) C d_MM_twice_33 k_846 k_843 k_845 ks_25 k_5 (by decide +kernel) rfl rfl (hM.1) (by decide) (by decide) (Nat.le_of_ble_eq_true rfl) (by first | decide | omega) (by first | decide | omega) rfl ?_
    refine ct_MM_goes (kn := kn) (rg := true) (st := true) (rm := true) hM (fun h5 r1 e1 => ?_)
    dsimp only [zps]
    refine z_if_ne 41 C d_MM_twice_36 (by decide) (fun c36 => ?_) (fun c36 => ?_)
    · obtain ⟨g1, -, -, -⟩ := b4f (bI1 c36)
      subst g1
      have i1 := (Bool.and_eq_true_iff.mp h1.symm)
      obtain ⟨j, hj, rfl⟩ := inN_t (by omega) i1.1
      obtain ⟨w, hw, rfl⟩ := inN_t (by decide) i1.2
      refine z_aload_n C d_MM_twice_41 rfl rfl ?_
      refine z_get (ci := 8) (T := T_MM) (N := 29) C d_MM_twice_42 19 i_MM rfl (by decide) k_766 (fun _ q => q) (r1.1) (by rfl) ?_
      refine z_iconst (v := 4) C d_MM_twice_45 (by decide) ?_
      refine z_iload_n C d_MM_twice_46 rfl rfl ?_
      refine z_imul C d_MM_twice_47 ?_
      refine z_iload_n C d_MM_twice_48 rfl rfl ?_
      refine z_iadd C d_MM_twice_49 ?_
      rw [nI4]
      refine z_iald C d_MM_twice_50 (r1.a13) (vp_in_nI (by omega) (by decide)) ?_
      rw [nI_clamp (by omega)]
      refine z_iret C d_MM_twice_51 ?_
      exact ks j w hj rfl hw rfl h5 r1 e1
    · have h9 := bI0 c36
      rw [Bool.and_true, Bool.and_true, Bool.and_true] at h9
      subst h9
      refine z_iconst (v := 0) C d_MM_twice_39 (by decide) ?_
      refine z_iret C d_MM_twice_40 ?_
      exact kf h1.symm h5 r1 e1
  refine z_aload_n C d_MM_twice_0 rfl rfl ?_
  refine z_iconst (v := 1) C d_MM_twice_1 (by decide) ?_
  refine z_iload_n C d_MM_twice_2 rfl rfl ?_
  refine z_iconst (v := 0) C d_MM_twice_3 (by decide) ?_
  refine z_aload_n C d_MM_twice_4 rfl rfl ?_
  refine z_get (ci := 8) (T := T_MM) (N := 29) C d_MM_twice_5 18 i_MM rfl (by decide) k_765 (fun _ q => q) (hM.1) (by rfl) ?_
  refine z_iconst (v := 1) C d_MM_twice_8 (by decide) ?_
  refine z_isub C d_MM_twice_9 ?_
  refine z_callS (n := 3) (As := [.int a, .int 0, .int (nI S.db.length - 1)]) (rest := [.int 1, .ref mo]) (r1 := 1) (mc1 := 0) (ms1 := 0) C d_MM_twice_10 k_857 k_855 k_856 k_5 (by decide +kernel) rfl (by decide) (by decide) (Nat.le_of_ble_eq_true rfl) (by first | decide | omega) (by first | decide | omega) rfl ?_
  refine ct_MM_in ?_
  dsimp only [zps]
  rw [inN_eq a (by omega)]
  refine z_if_eq 29 C d_MM_twice_13 (by decide) (fun c13 => ?_) (fun c13 => ?_)
  · refine z_iconst (v := 0) C d_MM_twice_29 (by decide) ?_
    exact J false (by rw [bI0 c13]; rfl)
  · refine z_iload_n C d_MM_twice_16 rfl rfl ?_
    refine z_iconst (v := 0) C d_MM_twice_17 (by decide) ?_
    refine z_iconst (v := 3) C d_MM_twice_18 (by decide) ?_
    refine z_callS (n := 3) (As := [.int t, .int 0, .int 3]) (rest := [.int 1, .ref mo]) (r1 := 1) (mc1 := 0) (ms1 := 0) C d_MM_twice_19 k_857 k_855 k_856 k_5 (by decide +kernel) rfl (by decide) (by decide) (Nat.le_of_ble_eq_true rfl) (by first | decide | omega) (by first | decide | omega) rfl ?_
    refine ct_MM_in ?_
    dsimp only [zps]
    rw [inN4]
    refine z_if_eq 29 C d_MM_twice_22 (by decide) (fun c22 => ?_) (fun c22 => ?_)
    · refine z_iconst (v := 0) C d_MM_twice_29 (by decide) ?_
      exact J false (by rw [bI0 c22, Bool.and_false])
    · refine z_iconst (v := 1) C d_MM_twice_25 (by decide) ?_
      refine z_goto 30 C d_MM_twice_26 (by decide) ?_
      exact J true (by rw [bI1 c13, bI1 c22]; rfl)
def maM (F : FT) (j : Nat) (t : Int32) : Int32 := if t = 0 then (if F 14 j = 0 then 0 else 1) else if t = 1 then F 15 j else if t = 2 then F 16 j else if t = 3 then F 17 j else F 18 j
set_option maxRecDepth 100000 in
theorem ct_MM_maydayAt {a t : Int32} (hM : RepM g T h mo A th S F) (hb : S.md.length ≤ 30)
    (kf : (inN a S.md.length && inN t 5) = false → ∀ h1, RepM g T h1 mo A 1 S F → ExM T h h1 → PR (some (.int 0)) h1)
    (ks : ∀ j, j < S.md.length → a = nI j → inN t 5 = true → ∀ h1, RepM g T h1 mo A 0 S F → ExM T h h1 → PR (some (.int (maM F j t))) h1) : Ct g y_MM_maydayAt w_MM_maydayAt 2 0 0 [.ref mo, .int a, .int t] h PR PX := by
  refine Ct_intro (cc := c_MM_maydayAt) (nL := 3) (ret := (some FieldType.int)) (ls := [some (.ref mo), some (.int a), some (.int t)]) (by decide) (Nat.le_of_ble_eq_true rfl) rfl rfl ?_
  intro p e R s m args below meth c C ht hname
  have J : ∀ kn, kn = (inN a S.md.length && inN t 5) → Z g 3 0 0 p e R s m args below meth c (vx_MQ below (zQ g PR) (zX g PX) args s 0 0 (zA g)) 0 0 30 [some (.ref mo), some (.int a), some (.int t)] [.int (bI kn), .int 1, .ref mo] h := by
    intro kn h1
    refine z_iconst (v := 1) C d_MM_maydayAt_30 (by decide) ?_
    refine z_iconst (v := 1) C d_MM_maydayAt_31 (by decide) ?_
    refine z_iconst (v := 1) C d_MM_maydayAt_32 (by decide) ?_
    refine z_callV (n := 5) (As := [.int 1, .int (bI kn), .int 1, .int 1, .int 1]) (rest := []) (r1 := 1) (mc1 := 0) (ms1 := 0) (ci := 8) (T0 := T_MM) C d_MM_maydayAt_33 k_846 k_843 k_845 ks_25 k_5 (by decide +kernel) rfl rfl (hM.1) (by decide) (by decide) (Nat.le_of_ble_eq_true rfl) (by first | decide | omega) (by first | decide | omega) rfl ?_
    refine ct_MM_goes (kn := kn) (rg := true) (st := true) (rm := true) hM (fun h5 r1 e1 => ?_)
    dsimp only [zps]
    refine z_if_ne 41 C d_MM_maydayAt_36 (by decide) (fun c36 => ?_) (fun c36 => ?_)
    · obtain ⟨g1, -, -, -⟩ := b4f (bI1 c36)
      subst g1
      have i1 := (Bool.and_eq_true_iff.mp h1.symm)
      obtain ⟨j, hj, rfl⟩ := inN_t (by omega) i1.1
      have k := ks j hj rfl i1.2 h5 r1 e1
      rw [maM] at k
      refine z_iload_n C d_MM_maydayAt_41 rfl rfl ?_
      refine z_if_ne 62 C d_MM_maydayAt_42 (by decide) (fun c42 => ?_) (fun c42 => ?_)
      · rw [if_neg c42] at k
        refine z_iload_n C d_MM_maydayAt_62 rfl rfl ?_
        refine z_iconst (v := 1) C d_MM_maydayAt_63 (by decide) ?_
        refine z_icmp_ne 76 C d_MM_maydayAt_64 (by decide) (fun c64 => ?_) (fun c64 => ?_)
        · rw [if_neg c64] at k
          refine z_iload_n C d_MM_maydayAt_76 rfl rfl ?_
          refine z_iconst (v := 2) C d_MM_maydayAt_77 (by decide) ?_
          refine z_icmp_ne 90 C d_MM_maydayAt_78 (by decide) (fun c78 => ?_) (fun c78 => ?_)
          · rw [if_neg c78] at k
            refine z_iload_n C d_MM_maydayAt_90 rfl rfl ?_
            refine z_iconst (v := 3) C d_MM_maydayAt_91 (by decide) ?_
            refine z_icmp_ne 104 C d_MM_maydayAt_92 (by decide) (fun c92 => ?_) (fun c92 => ?_)
            · rw [if_neg c92] at k
              refine z_aload_n C d_MM_maydayAt_104 rfl rfl ?_
              refine z_get (ci := 8) (T := T_MM) (N := 29) C d_MM_maydayAt_105 25 i_MM rfl (by decide) k_772 (fun _ q => q) (r1.1) (by rfl) ?_
              refine z_iload_n C d_MM_maydayAt_108 rfl rfl ?_
              refine z_iald C d_MM_maydayAt_109 (r1.a18) (vp_in_nI (by omega) (by decide)) ?_
              rw [nI_clamp (by omega)]
              refine z_iret C d_MM_maydayAt_110 ?_
              exact k
            · rw [if_pos c92] at k
              refine z_aload_n C d_MM_maydayAt_95 rfl rfl ?_
              refine z_get (ci := 8) (T := T_MM) (N := 29) C d_MM_maydayAt_96 24 i_MM rfl (by decide) k_771 (fun _ q => q) (r1.1) (by rfl) ?_
              refine z_iload_n C d_MM_maydayAt_99 rfl rfl ?_
              refine z_iald C d_MM_maydayAt_100 (r1.a17) (vp_in_nI (by omega) (by decide)) ?_
              rw [nI_clamp (by omega)]
              refine z_goto 110 C d_MM_maydayAt_101 (by decide) ?_
              refine z_iret C d_MM_maydayAt_110 ?_
              exact k
          · rw [if_pos c78] at k
            refine z_aload_n C d_MM_maydayAt_81 rfl rfl ?_
            refine z_get (ci := 8) (T := T_MM) (N := 29) C d_MM_maydayAt_82 23 i_MM rfl (by decide) k_770 (fun _ q => q) (r1.1) (by rfl) ?_
            refine z_iload_n C d_MM_maydayAt_85 rfl rfl ?_
            refine z_iald C d_MM_maydayAt_86 (r1.a16) (vp_in_nI (by omega) (by decide)) ?_
            rw [nI_clamp (by omega)]
            refine z_goto 110 C d_MM_maydayAt_87 (by decide) ?_
            refine z_iret C d_MM_maydayAt_110 ?_
            exact k
        · rw [if_pos c64] at k
          refine z_aload_n C d_MM_maydayAt_67 rfl rfl ?_
          refine z_get (ci := 8) (T := T_MM) (N := 29) C d_MM_maydayAt_68 22 i_MM rfl (by decide) k_769 (fun _ q => q) (r1.1) (by rfl) ?_
          refine z_iload_n C d_MM_maydayAt_71 rfl rfl ?_
          refine z_iald C d_MM_maydayAt_72 (r1.a15) (vp_in_nI (by omega) (by decide)) ?_
          rw [nI_clamp (by omega)]
          refine z_goto 110 C d_MM_maydayAt_73 (by decide) ?_
          refine z_iret C d_MM_maydayAt_110 ?_
          exact k
      · rw [if_pos c42] at k
        refine z_aload_n C d_MM_maydayAt_45 rfl rfl ?_
        refine z_get (ci := 8) (T := T_MM) (N := 29) C d_MM_maydayAt_46 21 i_MM rfl (by decide) k_768 (fun _ q => q) (r1.1) (by rfl) ?_
        refine z_iload_n C d_MM_maydayAt_49 rfl rfl ?_
        refine z_zald C d_MM_maydayAt_50 (r1.a14) (vp_in_nI (by omega) (by decide)) ?_
        rw [nI_clamp (by omega)]
        refine z_if_eq 58 C d_MM_maydayAt_51 (by decide) (fun c51 => ?_) (fun c51 => ?_)
        · rw [if_pos c51] at k
          refine z_iconst (v := 0) C d_MM_maydayAt_58 (by decide) ?_
          refine z_goto 110 C d_MM_maydayAt_59 (by decide) ?_
          refine z_iret C d_MM_maydayAt_110 ?_
          exact k
        · rw [if_neg c51] at k
          refine z_iconst (v := 1) C d_MM_maydayAt_54 (by decide) ?_
          refine z_goto 110 C d_MM_maydayAt_55 (by decide) ?_
          refine z_iret C d_MM_maydayAt_110 ?_
          exact k
    · have h9 := bI0 c36
      rw [Bool.and_true, Bool.and_true, Bool.and_true] at h9
      subst h9
      refine z_iconst (v := 0) C d_MM_maydayAt_39 (by decide) ?_
      refine z_iret C d_MM_maydayAt_40 ?_
      exact kf h1.symm h5 r1 e1
  refine z_aload_n C d_MM_maydayAt_0 rfl rfl ?_
  refine z_iconst (v := 1) C d_MM_maydayAt_1 (by decide) ?_
  refine z_iload_n C d_MM_maydayAt_2 rfl rfl ?_
  refine z_iconst (v := 0) C d_MM_maydayAt_3 (by decide) ?_
  refine z_aload_n C d_MM_maydayAt_4 rfl rfl ?_
  refine z_get (ci := 8) (T := T_MM) (N := 29) C d_MM_maydayAt_5 20 i_MM rfl (by decide) k_767 (fun _ q => q) (hM.1) (by rfl) ?_
  refine z_iconst (v := 1) C d_MM_maydayAt_8 (by decide) ?_
  refine z_isub C d_MM_maydayAt_9 ?_
  refine z_callS (n := 3) (As := [.int a, .int 0, .int (nI S.md.length - 1)]) (rest := [.int 1, .ref mo]) (r1 := 1) (mc1 := 0) (ms1 := 0) C d_MM_maydayAt_10 k_857 k_855 k_856 k_5 (by decide +kernel) rfl (by decide) (by decide) (Nat.le_of_ble_eq_true rfl) (by first | decide | omega) (by first | decide | omega) rfl ?_
  refine ct_MM_in ?_
  dsimp only [zps]
  rw [inN_eq a (by omega)]
  refine z_if_eq 29 C d_MM_maydayAt_13 (by decide) (fun c13 => ?_) (fun c13 => ?_)
  · refine z_iconst (v := 0) C d_MM_maydayAt_29 (by decide) ?_
    exact J false (by rw [bI0 c13]; rfl)
  · refine z_iload_n C d_MM_maydayAt_16 rfl rfl ?_
    refine z_iconst (v := 0) C d_MM_maydayAt_17 (by decide) ?_
    refine z_iconst (v := 4) C d_MM_maydayAt_18 (by decide) ?_
    refine z_callS (n := 3) (As := [.int t, .int 0, .int 4]) (rest := [.int 1, .ref mo]) (r1 := 1) (mc1 := 0) (ms1 := 0) C d_MM_maydayAt_19 k_857 k_855 k_856 k_5 (by decide +kernel) rfl (by decide) (by decide) (Nat.le_of_ble_eq_true rfl) (by first | decide | omega) (by first | decide | omega) rfl ?_
    refine ct_MM_in ?_
    dsimp only [zps]
    rw [inN5]
    refine z_if_eq 29 C d_MM_maydayAt_22 (by decide) (fun c22 => ?_) (fun c22 => ?_)
    · refine z_iconst (v := 0) C d_MM_maydayAt_29 (by decide) ?_
      exact J false (by rw [bI0 c22, Bool.and_false])
    · refine z_iconst (v := 1) C d_MM_maydayAt_25 (by decide) ?_
      refine z_goto 30 C d_MM_maydayAt_26 (by decide) ?_
      exact J true (by rw [bI1 c13, bI1 c22]; rfl)
set_option maxRecDepth 100000 in
theorem ct_MM_seen {a n : Int32} (hM : RepM g T h mo A th S F) (hb : S.ro.length ≤ 40)
    (kf : ∀ st rm, st = (inN a S.ro.length && decide (F 5 a.toNatClampNeg < 3)) → rm = (inN a S.ro.length && decide (F 8 a.toNatClampNeg + n ≤ 9999)) → (inN a S.ro.length && inB n 0 999 && st && rm) = false → ∀ h1, RepM g T h1 mo A (goT 15 (inN a S.ro.length) (inB n 0 999) st rm) S F → ExM T h h1 → PR (some (.int 0)) h1)
    (ks : ∀ j, j < S.ro.length → a = nI j → inB n 0 999 = true → F 5 j < 3 → F 8 j + n ≤ 9999 → ∀ h1, RepM g T h1 mo A 0 S (sF F 8 (upd (F 8) j (F 8 j + n))) → ExM T h h1 → PR (some (.int (F 8 j + n))) h1) : Ct g y_MM_seen w_MM_seen 3 0 0 [.ref mo, .int a, .int n] h PR PX := by
  refine Ct_intro (cc := c_MM_seen) (nL := 4) (ret := (some FieldType.int)) (ls := [some (.ref mo), some (.int a), some (.int n), none]) (by decide) (Nat.le_of_ble_eq_true rfl) rfl rfl ?_
  intro p e R s m args below meth c C ht hname
  have J60 : ∀ st rm, st = (inN a S.ro.length && decide (F 5 a.toNatClampNeg < 3)) → rm = (inN a S.ro.length && decide (F 8 a.toNatClampNeg + n ≤ 9999)) → Z g 4 0 0 p e R s m args below meth c (vx_MQ below (zQ g PR) (zX g PX) args s 0 0 (zA g)) 0 0 60 [some (.ref mo), some (.int a), some (.int n), some (.int (bI (inN a S.ro.length)))] [.int (bI rm), .int (bI st), .int (bI (inB n 0 999)), .int (bI (inN a S.ro.length)), .int 15, .ref mo] h := by
    intro st rm h1 h2
    refine z_callV (n := 5) (As := [.int 15, .int (bI (inN a S.ro.length)), .int (bI (inB n 0 999)), .int (bI st), .int (bI rm)]) (rest := []) (r1 := 1) (mc1 := 0) (ms1 := 0) (ci := 8) (T0 := T_MM) C d_MM_seen_60 k_846 k_843 k_845 ks_25 k_5 (by decide +kernel) rfl rfl (hM.1) (by decide) (by decide) (Nat.le_of_ble_eq_true rfl) (by first | decide | omega) (by first | decide | omega) rfl ?_
    refine ct_MM_goes (kn := inN a S.ro.length) (rg := inB n 0 999) (st := st) (rm := rm) hM (fun h5 r1 e1 => ?_)
    dsimp only [zps]
    refine z_if_ne 68 C d_MM_seen_63 (by decide) (fun c63 => ?_) (fun c63 => ?_)
    · obtain ⟨g1, g2, g3, g4⟩ := b4f (bI1 c63)
      subst g3 g4
      rw [g1, Bool.true_and] at h1 h2
      rw [g1, g2] at r1
      obtain ⟨j, hj, rfl⟩ := inN_t (by omega) g1
      have q1 := of_decide_eq_true h1.symm
      have q2 := of_decide_eq_true h2.symm
      rw [nI_clamp (by omega)] at q1 q2
      refine z_aload_n C d_MM_seen_68 rfl rfl ?_
      refine z_get (ci := 8) (T := T_MM) (N := 29) C d_MM_seen_69 13 i_MM rfl (by decide) k_760 (fun _ q => q) (r1.1) (by rfl) ?_
      refine z_iload_n C d_MM_seen_72 rfl rfl ?_
      refine z_aload_n C d_MM_seen_73 rfl rfl ?_
      refine z_get (ci := 8) (T := T_MM) (N := 29) C d_MM_seen_74 13 i_MM rfl (by decide) k_760 (fun _ q => q) (r1.1) (by rfl) ?_
      refine z_iload_n C d_MM_seen_77 rfl rfl ?_
      refine z_iald C d_MM_seen_78 (r1.a8) (vp_in_nI (by omega) (by decide)) ?_
      rw [nI_clamp (by omega)]
      refine z_iload_n C d_MM_seen_79 rfl rfl ?_
      refine z_iadd C d_MM_seen_80 ?_
      refine z_iast C d_MM_seen_81 (r1.a8) (vp_in_nI (by omega) (by decide)) ?_
      rw [nI_clamp (by omega)]
      have r2 := r1.put (j := 8) (by decide) (upd (F 8) j (F 8 j + n))
      refine z_aload_n C d_MM_seen_82 rfl rfl ?_
      refine z_get (ci := 8) (T := T_MM) (N := 29) C d_MM_seen_83 13 i_MM rfl (by decide) k_760 (fun _ q => q) (r2.1) (by rfl) ?_
      refine z_iload_n C d_MM_seen_86 rfl rfl ?_
      refine z_iald C d_MM_seen_87 (r2.a8) (vp_in_nI (by omega) (by decide)) ?_
      rw [nI_clamp (by omega)]
      refine z_iret C d_MM_seen_88 ?_
      have e9 : sF F 8 (upd (F 8) j (F 8 j + n)) 8 j = F 8 j + n := by rw [sF_s]; exact if_pos rfl
      rw [e9]
      exact ks j hj rfl g2 q1 q2 _ r2 (e1.trans (r1.exP (by decide)))
    · refine z_iconst (v := 0) C d_MM_seen_66 (by decide) ?_
      refine z_iret C d_MM_seen_67 ?_
      exact kf st rm h1 h2 (bI0 c63) h5 r1 e1
  have J37 : ∀ st, st = (inN a S.ro.length && decide (F 5 a.toNatClampNeg < 3)) → Z g 4 0 0 p e R s m args below meth c (vx_MQ below (zQ g PR) (zX g PX) args s 0 0 (zA g)) 0 0 37 [some (.ref mo), some (.int a), some (.int n), some (.int (bI (inN a S.ro.length)))] [.int (bI st), .int (bI (inB n 0 999)), .int (bI (inN a S.ro.length)), .int 15, .ref mo] h := by
    intro st h1
    refine z_iload_n C d_MM_seen_37 rfl rfl ?_
    refine z_if_eq 59 C d_MM_seen_38 (by decide) (fun c38 => ?_) (fun c38 => ?_)
    · refine z_iconst (v := 0) C d_MM_seen_59 (by decide) ?_
      exact J60 st false h1 (by rw [bI0 c38]; rfl)
    · have g1 := bI1 c38
      obtain ⟨j, hj, hja⟩ := inN_t (by omega) g1
      have hin : vp_in a 40 := by rw [hja]; exact vp_in_nI (by omega) (by decide)
      refine z_aload_n C d_MM_seen_41 rfl rfl ?_
      refine z_get (ci := 8) (T := T_MM) (N := 29) C d_MM_seen_42 13 i_MM rfl (by decide) k_760 (fun _ q => q) (hM.1) (by rfl) ?_
      refine z_iload_n C d_MM_seen_45 rfl rfl ?_
      refine z_iald C d_MM_seen_46 (hM.a8) hin ?_
      refine z_iload_n C d_MM_seen_47 rfl rfl ?_
      refine z_iadd C d_MM_seen_48 ?_
      refine z_sipush (v := 9999) C d_MM_seen_49 (by decide) ?_
      refine z_icmp_gt 59 C d_MM_seen_52 (by decide) (fun c52 => ?_) (fun c52 => ?_)
      · refine z_iconst (v := 0) C d_MM_seen_59 (by decide) ?_
        exact J60 st false h1 (by rw [decide_eq_false (Int32.not_le.mpr c52), Bool.and_false])
      · refine z_iconst (v := 1) C d_MM_seen_55 (by decide) ?_
        refine z_goto 60 C d_MM_seen_56 (by decide) ?_
        exact J60 st true h1 (by rw [g1, decide_eq_true (Int32.not_lt.mp c52)]; rfl)
  refine z_aload_n C d_MM_seen_0 rfl rfl ?_
  refine z_iload_n C d_MM_seen_1 rfl rfl ?_
  refine z_callV (n := 1) (As := [.int a]) (rest := []) (r1 := 2) (mc1 := 0) (ms1 := 0) (ci := 8) (T0 := T_MM) C d_MM_seen_2 k_896 k_893 k_895 ks_31 k_5 (by decide +kernel) rfl rfl (hM.1) (by decide) (by decide) (Nat.le_of_ble_eq_true rfl) (by first | decide | omega) (by first | decide | omega) rfl ?_
  refine ct_MM_isRoll hM hb ?_
  dsimp only [zps]
  refine z_istore_n C d_MM_seen_5 rfl (by decide) rfl ?_
  dsimp only [List.set]
  refine z_aload_n C d_MM_seen_6 rfl rfl ?_
  refine z_bipush (v := 15) C d_MM_seen_7 (by decide) ?_
  refine z_iload_n C d_MM_seen_9 rfl rfl ?_
  refine z_iload_n C d_MM_seen_10 rfl rfl ?_
  refine z_iconst (v := 0) C d_MM_seen_11 (by decide) ?_
  refine z_sipush (v := 999) C d_MM_seen_12 (by decide) ?_
  refine z_callS (n := 3) (As := [.int n, .int 0, .int 999]) (rest := [.int (bI (inN a S.ro.length)), .int 15, .ref mo]) (r1 := 1) (mc1 := 0) (ms1 := 0) C d_MM_seen_15 k_857 k_855 k_856 k_5 (by decide +kernel) rfl (by decide) (by decide) (Nat.le_of_ble_eq_true rfl) (by first | decide | omega) (by first | decide | omega) rfl ?_
  refine ct_MM_in ?_
  dsimp only [zps]
  refine z_iload_n C d_MM_seen_18 rfl rfl ?_
  refine z_if_eq 36 C d_MM_seen_19 (by decide) (fun c19 => ?_) (fun c19 => ?_)
  · refine z_iconst (v := 0) C d_MM_seen_36 (by decide) ?_
    exact J37 false (by rw [bI0 c19]; rfl)
  · have g1 := bI1 c19
    obtain ⟨j, hj, hja⟩ := inN_t (by omega) g1
    have hin : vp_in a 40 := by rw [hja]; exact vp_in_nI (by omega) (by decide)
    refine z_aload_n C d_MM_seen_22 rfl rfl ?_
    refine z_get (ci := 8) (T := T_MM) (N := 29) C d_MM_seen_23 10 i_MM rfl (by decide) k_757 (fun _ q => q) (hM.1) (by rfl) ?_
    refine z_iload_n C d_MM_seen_26 rfl rfl ?_
    refine z_iald C d_MM_seen_27 (hM.a5) hin ?_
    refine z_iconst (v := 3) C d_MM_seen_28 (by decide) ?_
    refine z_icmp_ge 36 C d_MM_seen_29 (by decide) (fun c29 => ?_) (fun c29 => ?_)
    · refine z_iconst (v := 0) C d_MM_seen_36 (by decide) ?_
      exact J37 false (by rw [decide_eq_false (Int32.not_lt.mpr c29), Bool.and_false])
    · refine z_iconst (v := 1) C d_MM_seen_32 (by decide) ?_
      refine z_goto 37 C d_MM_seen_33 (by decide) ?_
      exact J37 true (by rw [g1, decide_eq_true (Int32.not_le.mp c29)]; rfl)
set_option maxRecDepth 100000 in
theorem ct_MM_count {t : Int32} (hM : RepM g T h mo A th S F) (hv : mvR S F) (hb : S.ps.length ≤ 60) (hb2 : S.ro.length ≤ 40) (hb3 : S.md.length ≤ 30) (hh : ∀ (i : Nat) (e : PeT), S.ps[i]? = some e → e.1 = wasF (nI i) S.sec S.mv.reverse ∧ (e.1 = -1 ∨ ¬ e.1 < 0)) (hr : ∀ (i : Nat) (e : RoT), S.ro[i]? = some e → F 5 i = e.rd) (hmd : ∀ (i : Nat) (e : MdT), S.md[i]? = some e → F 14 i = e.op)
    (kf : inN t 6 = false → ∀ h1, RepM g T h1 mo A 1 S F → ExM T h h1 → PR (some (.int 0)) h1)
    (ks : inN t 6 = true → ∀ h1, RepM g T h1 mo A 0 S F → ExM T h h1 → PR (some (.int (coF S t))) h1) : Ct g y_MM_count w_MM_count 3 0 0 [.ref mo, .int t] h PR PX := by
  refine Ct_intro (cc := c_MM_count) (nL := 5) (ret := (some FieldType.int)) (ls := [some (.ref mo), some (.int t), none, none, none]) (by decide) (Nat.le_of_ble_eq_true rfl) rfl rfl ?_
  intro p e R s m args below meth c C ht hname
  have fin : ∀ (h5 : Hp), RepM g T h5 mo A 0 S F → ExM T h h5 → inN t 6 = true → ∀ z4 : Option Value, Z g 5 0 0 p e R s m args below meth c (vx_MQ below (zQ g PR) (zX g PX) args s 0 0 (zA g)) 0 0 82 [some (.ref mo), some (.int t), some (.int (nI (S.ps.countP (fun e => e.1 ≠ -1)))), some (.int (nI (S.ro.countP (fun e => decide (e.rd < 3))))), z4] [] h5 := by
    intro h5 r1 e1 hin z4
    have k := ks hin h5 r1 e1
    rw [coF] at k
    refine z_iload_n C d_MM_count_82 rfl rfl ?_
    refine z_if_ne 93 C d_MM_count_83 (by decide) (fun c83 => ?_) (fun c83 => ?_)
    · rw [if_neg c83] at k
      refine z_iload_n C d_MM_count_93 rfl rfl ?_
      refine z_iconst (v := 1) C d_MM_count_94 (by decide) ?_
      refine z_icmp_ne 102 C d_MM_count_95 (by decide) (fun c95 => ?_) (fun c95 => ?_)
      · rw [if_neg c95] at k
        refine z_iload_n C d_MM_count_102 rfl rfl ?_
        refine z_iconst (v := 2) C d_MM_count_103 (by decide) ?_
        refine z_icmp_ne 111 C d_MM_count_104 (by decide) (fun c104 => ?_) (fun c104 => ?_)
        · rw [if_neg c104] at k
          refine z_iload_n C d_MM_count_111 rfl rfl ?_
          refine z_iconst (v := 3) C d_MM_count_112 (by decide) ?_
          refine z_icmp_ne 123 C d_MM_count_113 (by decide) (fun c113 => ?_) (fun c113 => ?_)
          · rw [if_neg c113] at k
            refine z_iload_n C d_MM_count_123 rfl rfl ?_
            refine z_iconst (v := 4) C d_MM_count_124 (by decide) ?_
            refine z_icmp_ne 135 C d_MM_count_125 (by decide) (fun c125 => ?_) (fun c125 => ?_)
            · rw [if_neg c125] at k
              refine z_aload_n C d_MM_count_135 rfl rfl ?_
              refine z_get (ci := 8) (T := T_MM) (N := 29) C d_MM_count_136 4 i_MM rfl (by decide) k_751 (fun _ q => q) (r1.1) (by rfl) ?_
              refine z_iret C d_MM_count_139 ?_
              exact k
            · rw [if_pos c125] at k
              refine z_aload_n C d_MM_count_128 rfl rfl ?_
              refine z_get (ci := 8) (T := T_MM) (N := 29) C d_MM_count_129 18 i_MM rfl (by decide) k_765 (fun _ q => q) (r1.1) (by rfl) ?_
              refine z_goto 139 C d_MM_count_132 (by decide) ?_
              refine z_iret C d_MM_count_139 ?_
              exact k
          · rw [if_pos c113] at k
            refine z_aload_n C d_MM_count_116 rfl rfl ?_
            refine z_callV (n := 0) (As := []) (rest := []) (r1 := 1) (mc1 := 0) (ms1 := 0) (ci := 8) (T0 := T_MM) C d_MM_count_117 k_888 k_885 k_887 ks_30 k_5 (by decide +kernel) rfl rfl (r1.1) (by decide) (by decide) (Nat.le_of_ble_eq_true rfl) (by first | decide | omega) (by first | decide | omega) rfl ?_
            refine ct_MM_openMaydays r1 hb3 hmd ?_
            dsimp only [zps]
            refine z_goto 139 C d_MM_count_120 (by decide) ?_
            refine z_iret C d_MM_count_139 ?_
            exact k
        · rw [if_pos c104] at k
          refine z_iload_n C d_MM_count_107 rfl rfl ?_
          refine z_goto 139 C d_MM_count_108 (by decide) ?_
          refine z_iret C d_MM_count_139 ?_
          exact k
      · rw [if_pos c95] at k
        refine z_iload_n C d_MM_count_98 rfl rfl ?_
        refine z_goto 139 C d_MM_count_99 (by decide) ?_
        refine z_iret C d_MM_count_139 ?_
        exact k
    · rw [if_pos c83] at k
      refine z_aload_n C d_MM_count_86 rfl rfl ?_
      refine z_get (ci := 8) (T := T_MM) (N := 29) C d_MM_count_87 1 i_MM rfl (by decide) k_748 (fun _ q => q) (r1.1) (by rfl) ?_
      refine z_goto 139 C d_MM_count_90 (by decide) ?_
      refine z_iret C d_MM_count_139 ?_
      exact k
  have loop2 : ∀ (h5 : Hp), RepM g T h5 mo A 0 S F → ExM T h h5 → inN t 6 = true → ∀ (j i acc : Nat), i + j = S.ro.length → S.ro.countP (fun e => decide (e.rd < 3)) = acc + (S.ro.drop i).countP (fun e => decide (e.rd < 3)) → Z g 5 0 0 p e R s m args below meth c (vx_MQ below (zQ g PR) (zX g PX) args s 0 0 (zA g)) 0 0 53 [some (.ref mo), some (.int t), some (.int (nI (S.ps.countP (fun e => e.1 ≠ -1)))), some (.int (nI acc)), some (.int (nI i))] [] h5 := by
    intro h5 r1 e1 hin j
    induction j with
    | zero =>
      intro i acc hi hp
      have : i = S.ro.length := by omega
      subst this
      rw [List.drop_length] at hp
      have f9 := fin h5 r1 e1 hin (some (.int (nI S.ro.length)))
      rw [hp] at f9
      refine z_iload C d_MM_count_53 rfl ?_
      refine z_aload_n C d_MM_count_55 rfl rfl ?_
      refine z_get (ci := 8) (T := T_MM) (N := 29) C d_MM_count_56 8 i_MM rfl (by decide) k_755 (fun _ q => q) (r1.1) (by rfl) ?_
      refine z_icmp_ge 82 C d_MM_count_59 (by decide) (fun c59 => ?_) (fun c59 => ?_)
      · exact f9
      · exact absurd (Int32.le_refl _) c59
    | succ j ih =>
      intro i acc hi hp
      obtain ⟨e0, he, hd⟩ := zdrop (l := S.ro) (k := i) (by omega)
      rw [hd, List.countP_cons] at hp
      refine z_iload C d_MM_count_53 rfl ?_
      refine z_aload_n C d_MM_count_55 rfl rfl ?_
      refine z_get (ci := 8) (T := T_MM) (N := 29) C d_MM_count_56 8 i_MM rfl (by decide) k_755 (fun _ q => q) (r1.1) (by rfl) ?_
      refine z_icmp_ge 82 C d_MM_count_59 (by decide) (fun c59 => ?_) (fun c59 => ?_)
      · exact absurd c59 (nI_ge (by omega) (by omega))
      · refine z_aload_n C d_MM_count_62 rfl rfl ?_
        refine z_get (ci := 8) (T := T_MM) (N := 29) C d_MM_count_63 10 i_MM rfl (by decide) k_757 (fun _ q => q) (r1.1) (by rfl) ?_
        refine z_iload C d_MM_count_66 rfl ?_
        refine z_iald C d_MM_count_68 (r1.a5) (vp_in_nI (by omega) (by decide)) ?_
        rw [nI_clamp (by omega), hr i e0 he]
        refine z_iconst (v := 3) C d_MM_count_69 (by decide) ?_
        refine z_icmp_ge 76 C d_MM_count_70 (by decide) (fun c70 => ?_) (fun c70 => ?_)
        · rw [if_neg (by simpa using c70)] at hp
          refine z_iinc C d_MM_count_76 rfl (by decide) rfl ?_
          simp only [List.set, zi1, zim1]
          rw [nI_1]
          refine z_goto 53 C d_MM_count_79 (by decide) ?_
          exact ih (i + 1) acc (by omega) hp
        · rw [if_pos (by simpa using c70)] at hp
          refine z_iinc C d_MM_count_73 rfl (by decide) rfl ?_
          simp only [List.set, zi1, zim1]
          refine z_iinc C d_MM_count_76 rfl (by decide) rfl ?_
          simp only [List.set, zi1, zim1]
          rw [nI_1, nI_1]
          refine z_goto 53 C d_MM_count_79 (by decide) ?_
          exact ih (i + 1) (acc + 1) (by omega) (by omega)
  have loop1 : ∀ (h5 : Hp), RepM g T h5 mo A 0 S F → ExM T h h5 → inN t 6 = true → ∀ (j i acc : Nat), i + j = S.ps.length → S.ps.countP (fun e => decide (e.1 ≠ -1)) = acc + (S.ps.drop i).countP (fun e => decide (e.1 ≠ -1)) → Z g 5 0 0 p e R s m args below meth c (vx_MQ below (zQ g PR) (zX g PX) args s 0 0 (zA g)) 0 0 23 [some (.ref mo), some (.int t), some (.int (nI acc)), some (.int (nI i)), none] [] h5 := by
    intro h5 r1 e1 hin j
    induction j with
    | zero =>
      intro i acc hi hp
      have : i = S.ps.length := by omega
      subst this
      rw [List.drop_length] at hp
      have l9 := loop2 h5 r1 e1 hin S.ro.length 0 0 (by omega) (by rw [List.drop_zero, Nat.zero_add])
      rw [hp] at l9
      refine z_iload_n C d_MM_count_23 rfl rfl ?_
      refine z_aload_n C d_MM_count_24 rfl rfl ?_
      refine z_get (ci := 8) (T := T_MM) (N := 29) C d_MM_count_25 2 i_MM rfl (by decide) k_749 (fun _ q => q) (r1.1) (by rfl) ?_
      refine z_icmp_ge 48 C d_MM_count_28 (by decide) (fun c28 => ?_) (fun c28 => ?_)
      · refine z_iconst (v := 0) C d_MM_count_48 (by decide) ?_
        refine z_istore_n C d_MM_count_49 rfl (by decide) rfl ?_
        dsimp only [List.set]
        refine z_iconst (v := 0) C d_MM_count_50 (by decide) ?_
        refine z_istore C d_MM_count_51 (by decide) rfl ?_
        dsimp only [List.set]
        exact l9
      · exact absurd (Int32.le_refl _) c28
    | succ j ih =>
      intro i acc hi hp
      obtain ⟨e0, he, hd⟩ := zdrop (l := S.ps) (k := i) (by omega)
      rw [hd, List.countP_cons] at hp
      obtain ⟨w1, w2⟩ := hh i e0 he
      refine z_iload_n C d_MM_count_23 rfl rfl ?_
      refine z_aload_n C d_MM_count_24 rfl rfl ?_
      refine z_get (ci := 8) (T := T_MM) (N := 29) C d_MM_count_25 2 i_MM rfl (by decide) k_749 (fun _ q => q) (r1.1) (by rfl) ?_
      refine z_icmp_ge 48 C d_MM_count_28 (by decide) (fun c28 => ?_) (fun c28 => ?_)
      · exact absurd c28 (nI_ge (by omega) (by omega))
      · refine z_aload_n C d_MM_count_31 rfl rfl ?_
        refine z_iload_n C d_MM_count_32 rfl rfl ?_
        refine z_callV (n := 1) (As := [.int (nI i)]) (rest := []) (r1 := 2) (mc1 := 0) (ms1 := 0) (ci := 8) (T0 := T_MM) C d_MM_count_33 k_864 k_861 k_863 ks_27 k_5 (by decide +kernel) rfl rfl (r1.1) (by decide) (by decide) (Nat.le_of_ble_eq_true rfl) (by first | decide | omega) (by first | decide | omega) rfl ?_
        refine ct_MM_here r1 hv ?_
        dsimp only [zps]
        rw [← w1]
        refine z_if_lt 42 C d_MM_count_36 (by decide) (fun c36 => ?_) (fun c36 => ?_)
        · have w3 : e0.1 = -1 := by
            rcases w2 with q | q
            · exact q
            · exact absurd c36 q
          rw [if_neg (by simpa using w3)] at hp
          refine z_iinc C d_MM_count_42 rfl (by decide) rfl ?_
          simp only [List.set, zi1, zim1]
          rw [nI_1]
          refine z_goto 23 C d_MM_count_45 (by decide) ?_
          exact ih (i + 1) acc (by omega) hp
        · have w3 : ¬ e0.1 = -1 := fun z => c36 (by rw [z]; decide)
          rw [if_pos (by simpa using w3)] at hp
          refine z_iinc C d_MM_count_39 rfl (by decide) rfl ?_
          simp only [List.set, zi1, zim1]
          refine z_iinc C d_MM_count_42 rfl (by decide) rfl ?_
          simp only [List.set, zi1, zim1]
          rw [nI_1, nI_1]
          refine z_goto 23 C d_MM_count_45 (by decide) ?_
          exact ih (i + 1) (acc + 1) (by omega) (by omega)
  refine z_aload_n C d_MM_count_0 rfl rfl ?_
  refine z_iconst (v := 1) C d_MM_count_1 (by decide) ?_
  refine z_iload_n C d_MM_count_2 rfl rfl ?_
  refine z_iconst (v := 0) C d_MM_count_3 (by decide) ?_
  refine z_iconst (v := 5) C d_MM_count_4 (by decide) ?_
  refine z_callS (n := 3) (As := [.int t, .int 0, .int 5]) (rest := [.int 1, .ref mo]) (r1 := 1) (mc1 := 0) (ms1 := 0) C d_MM_count_5 k_857 k_855 k_856 k_5 (by decide +kernel) rfl (by decide) (by decide) (Nat.le_of_ble_eq_true rfl) (by first | decide | omega) (by first | decide | omega) rfl ?_
  refine ct_MM_in ?_
  dsimp only [zps]
  rw [inN6]
  refine z_iconst (v := 1) C d_MM_count_8 (by decide) ?_
  refine z_iconst (v := 1) C d_MM_count_9 (by decide) ?_
  refine z_iconst (v := 1) C d_MM_count_10 (by decide) ?_
  refine z_callV (n := 5) (As := [.int 1, .int (bI (inN t 6)), .int 1, .int 1, .int 1]) (rest := []) (r1 := 1) (mc1 := 0) (ms1 := 0) (ci := 8) (T0 := T_MM) C d_MM_count_11 k_846 k_843 k_845 ks_25 k_5 (by decide +kernel) rfl rfl (hM.1) (by decide) (by decide) (Nat.le_of_ble_eq_true rfl) (by first | decide | omega) (by first | decide | omega) rfl ?_
  refine ct_MM_goes (kn := inN t 6) (rg := true) (st := true) (rm := true) hM (fun h5 r1 e1 => ?_)
  dsimp only [zps]
  refine z_if_ne 19 C d_MM_count_14 (by decide) (fun c14 => ?_) (fun c14 => ?_)
  · obtain ⟨g1, -, -, -⟩ := b4f (bI1 c14)
    rw [g1] at r1
    refine z_iconst (v := 0) C d_MM_count_19 (by decide) ?_
    refine z_istore_n C d_MM_count_20 rfl (by decide) rfl ?_
    dsimp only [List.set]
    refine z_iconst (v := 0) C d_MM_count_21 (by decide) ?_
    refine z_istore_n C d_MM_count_22 rfl (by decide) rfl ?_
    dsimp only [List.set]
    exact loop1 h5 r1 e1 g1 S.ps.length 0 0 (by omega) (by rw [List.drop_zero, Nat.zero_add])
  · have h9 := bI0 c14
    rw [Bool.and_true, Bool.and_true, Bool.and_true] at h9
    rw [h9] at r1
    refine z_iconst (v := 0) C d_MM_count_17 (by decide) ?_
    refine z_iret C d_MM_count_18 ?_
    exact kf h9 h5 r1 e1
set_option maxRecDepth 100000 in
theorem ct_MM_missing {a t : Int32} (hM : RepM g T h mo A th S F) (hv : mvR S F) (hb : S.ps.length ≤ 60) (hb2 : S.ro.length ≤ 40) (hf : ∀ o, o < S.ro.length → ∃ fm, fm ≤ S.mv.length ∧ F 6 o = nI fm)
    (kf : ∀ st, st = (inN a S.ro.length && decide (F 5 a.toNatClampNeg = 3)) → (inN a S.ro.length && !decide (t < 0) && st && true) = false → ∀ h1, RepM g T h1 mo A (goT 7 (inN a S.ro.length) (!decide (t < 0)) st true) S F → ExM T h h1 → PR (some (.int 0)) h1)
    (ks : ∀ r fm, r < S.ro.length → a = nI r → ¬ t < 0 → F 5 r = 3 → fm ≤ S.mv.length → F 6 r = nI fm → ∀ h1, RepM g T h1 mo A 0 S F → ExM T h h1 → PR (some (.int (msM (fun i => (F 12 (r * 60 + i) != 0) && !(anyN (fun o => !decide (F 11 (o * 60 + i) < 0)) (r + 1) (S.ro.length - (r + 1)) || coB S.mv (nI i) fm)) 0 S.ps.length t))) h1) : Ct g y_MM_missing w_MM_missing 3 0 0 [.ref mo, .int a, .int t] h PR PX := by
  refine Ct_intro (cc := c_MM_missing) (nL := 6) (ret := (some FieldType.int)) (ls := [some (.ref mo), some (.int a), some (.int t), none, none, none]) (by decide) (Nat.le_of_ble_eq_true rfl) rfl rfl ?_
  intro p e R s m args below meth c C ht hname
  have loop : ∀ (h5 : Hp), RepM g T h5 mo A 0 S F → ∀ r fm, r < S.ro.length → fm ≤ S.mv.length → F 6 r = nI fm → ∀ (z3 : Option Value) (j i : Nat) (l : Int32), i + j = S.ps.length → PR (some (.int (msM (fun i => (F 12 (r * 60 + i) != 0) && !(anyN (fun o => !decide (F 11 (o * 60 + i) < 0)) (r + 1) (S.ro.length - (r + 1)) || coB S.mv (nI i) fm)) i j l))) h5 → Z g 6 0 0 p e R s m args below meth c (vx_MQ below (zQ g PR) (zX g PX) args s 0 0 (zA g)) 0 0 53 [some (.ref mo), some (.int (nI r)), some (.int t), z3, some (.int l), some (.int (nI i))] [] h5 := by
    intro h5 r1 r fm hr hfm hF z3 j
    induction j with
    | zero =>
      intro i l hi hp
      have : i = S.ps.length := by omega
      subst this
      rw [msM] at hp
      refine z_iload C d_MM_missing_53 rfl ?_
      refine z_aload_n C d_MM_missing_55 rfl rfl ?_
      refine z_get (ci := 8) (T := T_MM) (N := 29) C d_MM_missing_56 2 i_MM rfl (by decide) k_749 (fun _ q => q) (r1.1) (by rfl) ?_
      refine z_icmp_ge 107 C d_MM_missing_59 (by decide) (fun c59 => ?_) (fun c59 => ?_)
      · refine z_iconst (v := (-1)) C d_MM_missing_107 (by decide) ?_
        refine z_iret C d_MM_missing_108 ?_
        exact hp
      · exact absurd (Int32.le_refl _) c59
    | succ j ih =>
      intro i l hi hp
      rw [msM] at hp
      have next : PR (some (.int (msM (fun i => (F 12 (r * 60 + i) != 0) && !(anyN (fun o => !decide (F 11 (o * 60 + i) < 0)) (r + 1) (S.ro.length - (r + 1)) || coB S.mv (nI i) fm)) (i + 1) j l))) h5 → Z g 6 0 0 p e R s m args below meth c (vx_MQ below (zQ g PR) (zX g PX) args s 0 0 (zA g)) 0 0 101 [some (.ref mo), some (.int (nI r)), some (.int t), z3, some (.int l), some (.int (nI i))] [] h5 := by
        intro hp2
        refine z_iinc C d_MM_missing_101 rfl (by decide) rfl ?_
        simp only [List.set, zi1, zim1]
        rw [nI_1]
        refine z_goto 53 C d_MM_missing_104 (by decide) ?_
        exact ih (i + 1) l (by omega) hp2
      refine z_iload C d_MM_missing_53 rfl ?_
      refine z_aload_n C d_MM_missing_55 rfl rfl ?_
      refine z_get (ci := 8) (T := T_MM) (N := 29) C d_MM_missing_56 2 i_MM rfl (by decide) k_749 (fun _ q => q) (r1.1) (by rfl) ?_
      refine z_icmp_ge 107 C d_MM_missing_59 (by decide) (fun c59 => ?_) (fun c59 => ?_)
      · exact absurd c59 (nI_ge (by omega) (by omega))
      · refine z_aload_n C d_MM_missing_62 rfl rfl ?_
        refine z_get (ci := 8) (T := T_MM) (N := 29) C d_MM_missing_63 17 i_MM rfl (by decide) k_764 (fun _ q => q) (r1.1) (by rfl) ?_
        refine z_iload_n C d_MM_missing_66 rfl rfl ?_
        refine z_bipush (v := 60) C d_MM_missing_67 (by decide) ?_
        refine z_imul C d_MM_missing_69 ?_
        refine z_iload C d_MM_missing_70 rfl ?_
        refine z_iadd C d_MM_missing_72 ?_
        rw [nI60]
        refine z_zald C d_MM_missing_73 (r1.a12) (vp_in_nI (by omega) (by decide)) ?_
        rw [nI_clamp (by omega)]
        refine z_if_eq 101 C d_MM_missing_74 (by decide) (fun c74 => ?_) (fun c74 => ?_)
        · rw [c74, if_neg (by simp)] at hp
          exact next hp
        · rw [show (F 12 (r * 60 + i) != 0) = true from bne_iff_ne.mpr c74, Bool.true_and] at hp
          refine z_aload_n C d_MM_missing_77 rfl rfl ?_
          refine z_iload_n C d_MM_missing_78 rfl rfl ?_
          refine z_iload C d_MM_missing_79 rfl ?_
          refine z_callV (n := 2) (As := [.int (nI r), .int (nI i)]) (rest := []) (r1 := 2) (mc1 := 0) (ms1 := 0) (ci := 8) (T0 := T_MM) C d_MM_missing_81 k_928 k_925 k_927 ks_35 k_5 (by decide +kernel) rfl rfl (r1.1) (by decide) (by decide) (Nat.le_of_ble_eq_true rfl) (by first | decide | omega) (by first | decide | omega) rfl ?_
          refine ct_MM_isFound r1 hv hb2 hr (by omega) hfm hF ?_
          dsimp only [zps]
          refine z_if_eq 90 C d_MM_missing_84 (by decide) (fun c84 => ?_) (fun c84 => ?_)
          · rw [bI0 c84, if_pos (by rfl)] at hp
            refine z_iload C d_MM_missing_90 rfl ?_
            refine z_if_ne 98 C d_MM_missing_92 (by decide) (fun c92 => ?_) (fun c92 => ?_)
            · rw [if_neg c92] at hp
              refine z_iinc C d_MM_missing_98 rfl (by decide) rfl ?_
              simp only [List.set, zi1, zim1]
              rw [← Int32.sub_eq_add_neg]
              refine z_iinc C d_MM_missing_101 rfl (by decide) rfl ?_
              simp only [List.set, zi1, zim1]
              rw [nI_1]
              refine z_goto 53 C d_MM_missing_104 (by decide) ?_
              exact ih (i + 1) (l - 1) (by omega) hp
            · rw [if_pos c92] at hp
              refine z_iload C d_MM_missing_95 rfl ?_
              refine z_iret C d_MM_missing_97 ?_
              exact hp
          · rw [bI1 c84, if_neg (by decide)] at hp
            refine z_goto 101 C d_MM_missing_87 (by decide) ?_
            exact next hp
  have J38 : ∀ st, st = (inN a S.ro.length && decide (F 5 a.toNatClampNeg = 3)) → Z g 6 0 0 p e R s m args below meth c (vx_MQ below (zQ g PR) (zX g PX) args s 0 0 (zA g)) 0 0 38 [some (.ref mo), some (.int a), some (.int t), some (.int (bI (inN a S.ro.length))), none, none] [.int (bI st), .int (bI (!decide (t < 0))), .int (bI (inN a S.ro.length)), .int 7, .ref mo] h := by
    intro st h1
    refine z_iconst (v := 1) C d_MM_missing_38 (by decide) ?_
    refine z_callV (n := 5) (As := [.int 7, .int (bI (inN a S.ro.length)), .int (bI (!decide (t < 0))), .int (bI st), .int 1]) (rest := []) (r1 := 1) (mc1 := 0) (ms1 := 0) (ci := 8) (T0 := T_MM) C d_MM_missing_39 k_846 k_843 k_845 ks_25 k_5 (by decide +kernel) rfl rfl (hM.1) (by decide) (by decide) (Nat.le_of_ble_eq_true rfl) (by first | decide | omega) (by first | decide | omega) rfl ?_
    refine ct_MM_goes (kn := inN a S.ro.length) (rg := !decide (t < 0)) (st := st) (rm := true) hM (fun h5 r1 e1 => ?_)
    dsimp only [zps]
    refine z_if_ne 47 C d_MM_missing_42 (by decide) (fun c42 => ?_) (fun c42 => ?_)
    · obtain ⟨g1, g2, g3, -⟩ := b4f (bI1 c42)
      subst g3
      rw [g1, Bool.true_and] at h1
      rw [g1, g2] at r1
      obtain ⟨r, hr, rfl⟩ := inN_t (by omega) g1
      have q1 := of_decide_eq_true h1.symm
      rw [nI_clamp (by omega)] at q1
      have q2 : ¬ t < 0 := fun z => by rw [decide_eq_true z] at g2; cases g2
      obtain ⟨fm, f1, f2⟩ := hf r hr
      refine z_iload_n C d_MM_missing_47 rfl rfl ?_
      refine z_istore C d_MM_missing_48 (by decide) rfl ?_
      dsimp only [List.set]
      refine z_iconst (v := 0) C d_MM_missing_50 (by decide) ?_
      refine z_istore C d_MM_missing_51 (by decide) rfl ?_
      dsimp only [List.set]
      exact loop h5 r1 r fm hr f1 f2 _ S.ps.length 0 t (by omega) (ks r fm hr rfl q2 q1 f1 f2 h5 r1 e1)
    · refine z_iconst (v := 0) C d_MM_missing_45 (by decide) ?_
      refine z_iret C d_MM_missing_46 ?_
      exact kf st h1 (bI0 c42) h5 r1 e1
  have J19 : Z g 6 0 0 p e R s m args below meth c (vx_MQ below (zQ g PR) (zX g PX) args s 0 0 (zA g)) 0 0 19 [some (.ref mo), some (.int a), some (.int t), some (.int (bI (inN a S.ro.length))), none, none] [.int (bI (!decide (t < 0))), .int (bI (inN a S.ro.length)), .int 7, .ref mo] h := by
    refine z_iload_n C d_MM_missing_19 rfl rfl ?_
    refine z_if_eq 37 C d_MM_missing_20 (by decide) (fun c20 => ?_) (fun c20 => ?_)
    · refine z_iconst (v := 0) C d_MM_missing_37 (by decide) ?_
      exact J38 false (by rw [bI0 c20]; rfl)
    · have g1 := bI1 c20
      obtain ⟨j, hj, hja⟩ := inN_t (by omega) g1
      have hin : vp_in a 40 := by rw [hja]; exact vp_in_nI (by omega) (by decide)
      refine z_aload_n C d_MM_missing_23 rfl rfl ?_
      refine z_get (ci := 8) (T := T_MM) (N := 29) C d_MM_missing_24 10 i_MM rfl (by decide) k_757 (fun _ q => q) (hM.1) (by rfl) ?_
      refine z_iload_n C d_MM_missing_27 rfl rfl ?_
      refine z_iald C d_MM_missing_28 (hM.a5) hin ?_
      refine z_iconst (v := 3) C d_MM_missing_29 (by decide) ?_
      refine z_icmp_ne 37 C d_MM_missing_30 (by decide) (fun c30 => ?_) (fun c30 => ?_)
      · refine z_iconst (v := 0) C d_MM_missing_37 (by decide) ?_
        exact J38 false (by rw [decide_eq_false c30, Bool.and_false])
      · refine z_iconst (v := 1) C d_MM_missing_33 (by decide) ?_
        refine z_goto 38 C d_MM_missing_34 (by decide) ?_
        exact J38 true (by rw [g1, decide_eq_true c30]; rfl)
  refine z_aload_n C d_MM_missing_0 rfl rfl ?_
  refine z_iload_n C d_MM_missing_1 rfl rfl ?_
  refine z_callV (n := 1) (As := [.int a]) (rest := []) (r1 := 2) (mc1 := 0) (ms1 := 0) (ci := 8) (T0 := T_MM) C d_MM_missing_2 k_896 k_893 k_895 ks_31 k_5 (by decide +kernel) rfl rfl (hM.1) (by decide) (by decide) (Nat.le_of_ble_eq_true rfl) (by first | decide | omega) (by first | decide | omega) rfl ?_
  refine ct_MM_isRoll hM hb2 ?_
  dsimp only [zps]
  refine z_istore_n C d_MM_missing_5 rfl (by decide) rfl ?_
  dsimp only [List.set]
  refine z_aload_n C d_MM_missing_6 rfl rfl ?_
  refine z_bipush (v := 7) C d_MM_missing_7 (by decide) ?_
  refine z_iload_n C d_MM_missing_9 rfl rfl ?_
  refine z_iload_n C d_MM_missing_10 rfl rfl ?_
  refine z_if_lt 18 C d_MM_missing_11 (by decide) (fun c11 => ?_) (fun c11 => ?_)
  · rw [decide_eq_true c11] at J19
    refine z_iconst (v := 0) C d_MM_missing_18 (by decide) ?_
    exact J19
  · rw [decide_eq_false c11] at J19
    refine z_iconst (v := 1) C d_MM_missing_14 (by decide) ?_
    refine z_goto 19 C d_MM_missing_15 (by decide) ?_
    exact J19
set_option maxRecDepth 100000 in
theorem ct_MM_late {a t : Int32} (hM : RepM g T h mo A th S F) (hb : S.ev.length ≤ 20)
    (kf : (inN a S.ev.length && !decide (t < 0) && true && true) = false → ∀ h1, RepM g T h1 mo A (goT 3 (inN a S.ev.length) (!decide (t < 0)) true true) S F → ExM T h h1 → PR (some (.int 0)) h1)
    (ks : ∀ v, v < S.ev.length → a = nI v → ¬ t < 0 → ∀ h1, RepM g T h1 mo A 0 S F → ExM T h h1 → PR (some (.int (msM (ltM S F v) 0 10 t))) h1) : Ct g y_MM_late w_MM_late 2 0 0 [.ref mo, .int a, .int t] h PR PX := by
  refine Ct_intro (cc := c_MM_late) (nL := 5) (ret := (some FieldType.int)) (ls := [some (.ref mo), some (.int a), some (.int t), none, none]) (by decide) (Nat.le_of_ble_eq_true rfl) rfl rfl ?_
  intro p e R s m args below meth c C ht hname
  have loop : ∀ (h5 : Hp), RepM g T h5 mo A 0 S F → ∀ v, v < S.ev.length → ∀ (j i : Nat) (l : Int32), i + j = 10 → PR (some (.int (msM (ltM S F v) i j l))) h5 → Z g 5 0 0 p e R s m args below meth c (vx_MQ below (zQ g PR) (zX g PX) args s 0 0 (zA g)) 0 0 37 [some (.ref mo), some (.int (nI v)), some (.int t), some (.int l), some (.int (nI i))] [] h5 := by
    intro h5 r1 v hv j
    induction j with
    | zero =>
      intro i l hi hp
      have : i = 10 := by omega
      subst this
      rw [msM] at hp
      refine z_iload C d_MM_late_37 rfl ?_
      refine z_bipush (v := 10) C d_MM_late_39 (by decide) ?_
      refine z_icmp_ge 73 C d_MM_late_41 (by decide) (fun c41 => ?_) (fun c41 => ?_)
      · refine z_iconst (v := (-1)) C d_MM_late_73 (by decide) ?_
        refine z_iret C d_MM_late_74 ?_
        exact hp
      · exact absurd (by decide) c41
    | succ j ih =>
      intro i l hi hp
      rw [msM] at hp
      refine z_iload C d_MM_late_37 rfl ?_
      refine z_bipush (v := 10) C d_MM_late_39 (by decide) ?_
      refine z_icmp_ge 73 C d_MM_late_41 (by decide) (fun c41 => ?_) (fun c41 => ?_)
      · exact absurd c41 (by rw [show (10 : Int32) = nI 10 from rfl]; exact nI_ge (by omega) (by omega))
      · refine z_aload_n C d_MM_late_44 rfl rfl ?_
        refine z_iload_n C d_MM_late_45 rfl rfl ?_
        refine z_iload C d_MM_late_46 rfl ?_
        refine z_callV (n := 2) (As := [.int (nI v), .int (nI i)]) (rest := []) (r1 := 1) (mc1 := 0) (ms1 := 0) (ci := 8) (T0 := T_MM) C d_MM_late_48 k_976 k_973 k_975 ks_40 k_5 (by decide +kernel) rfl rfl (r1.1) (by decide) (by decide) (Nat.le_of_ble_eq_true rfl) (by first | decide | omega) (by first | decide | omega) rfl ?_
        refine ct_MM_isLate r1 (by omega) (by omega) ?_
        dsimp only [zps]
        refine z_if_ne 57 C d_MM_late_51 (by decide) (fun c51 => ?_) (fun c51 => ?_)
        · rw [if_pos (bI1 c51)] at hp
          refine z_iload_n C d_MM_late_57 rfl rfl ?_
          refine z_if_ne 64 C d_MM_late_58 (by decide) (fun c58 => ?_) (fun c58 => ?_)
          · rw [if_neg c58] at hp
            refine z_iinc C d_MM_late_64 rfl (by decide) rfl ?_
            simp only [List.set, zi1, zim1]
            rw [← Int32.sub_eq_add_neg]
            refine z_iinc C d_MM_late_67 rfl (by decide) rfl ?_
            simp only [List.set, zi1, zim1]
            rw [nI_1]
            refine z_goto 37 C d_MM_late_70 (by decide) ?_
            exact ih (i + 1) (l - 1) (by omega) hp
          · rw [if_pos c58] at hp
            refine z_iload C d_MM_late_61 rfl ?_
            refine z_iret C d_MM_late_63 ?_
            exact hp
        · rw [bI0 c51, if_neg (by decide)] at hp
          refine z_goto 67 C d_MM_late_54 (by decide) ?_
          refine z_iinc C d_MM_late_67 rfl (by decide) rfl ?_
          simp only [List.set, zi1, zim1]
          rw [nI_1]
          refine z_goto 37 C d_MM_late_70 (by decide) ?_
          exact ih (i + 1) l (by omega) hp
  have J : Z g 5 0 0 p e R s m args below meth c (vx_MQ below (zQ g PR) (zX g PX) args s 0 0 (zA g)) 0 0 22 [some (.ref mo), some (.int a), some (.int t), none, none] [.int (bI (!decide (t < 0))), .int (bI (inN a S.ev.length)), .int 3, .ref mo] h := by
    refine z_iconst (v := 1) C d_MM_late_22 (by decide) ?_
    refine z_iconst (v := 1) C d_MM_late_23 (by decide) ?_
    refine z_callV (n := 5) (As := [.int 3, .int (bI (inN a S.ev.length)), .int (bI (!decide (t < 0))), .int 1, .int 1]) (rest := []) (r1 := 1) (mc1 := 0) (ms1 := 0) (ci := 8) (T0 := T_MM) C d_MM_late_24 k_846 k_843 k_845 ks_25 k_5 (by decide +kernel) rfl rfl (hM.1) (by decide) (by decide) (Nat.le_of_ble_eq_true rfl) (by first | decide | omega) (by first | decide | omega) rfl ?_
    refine ct_MM_goes (kn := inN a S.ev.length) (rg := !decide (t < 0)) (st := true) (rm := true) hM (fun h5 r1 e1 => ?_)
    dsimp only [zps]
    refine z_if_ne 32 C d_MM_late_27 (by decide) (fun c27 => ?_) (fun c27 => ?_)
    · obtain ⟨g1, g2, -, -⟩ := b4f (bI1 c27)
      rw [g1, g2] at r1
      obtain ⟨v, hv, rfl⟩ := inN_t (by omega) g1
      have q2 : ¬ t < 0 := fun z => by rw [decide_eq_true z] at g2; cases g2
      refine z_iload_n C d_MM_late_32 rfl rfl ?_
      refine z_istore_n C d_MM_late_33 rfl (by decide) rfl ?_
      dsimp only [List.set]
      refine z_iconst (v := 0) C d_MM_late_34 (by decide) ?_
      refine z_istore C d_MM_late_35 (by decide) rfl ?_
      dsimp only [List.set]
      exact loop h5 r1 v hv 10 0 t (by omega) (ks v hv rfl q2 h5 r1 e1)
    · refine z_iconst (v := 0) C d_MM_late_30 (by decide) ?_
      refine z_iret C d_MM_late_31 ?_
      exact kf (bI0 c27) h5 r1 e1
  refine z_aload_n C d_MM_late_0 rfl rfl ?_
  refine z_iconst (v := 3) C d_MM_late_1 (by decide) ?_
  refine z_iload_n C d_MM_late_2 rfl rfl ?_
  refine z_iconst (v := 0) C d_MM_late_3 (by decide) ?_
  refine z_aload_n C d_MM_late_4 rfl rfl ?_
  refine z_get (ci := 8) (T := T_MM) (N := 29) C d_MM_late_5 26 i_MM rfl (by decide) k_773 (fun _ q => q) (hM.1) (by rfl) ?_
  refine z_iconst (v := 1) C d_MM_late_8 (by decide) ?_
  refine z_isub C d_MM_late_9 ?_
  refine z_callS (n := 3) (As := [.int a, .int 0, .int (nI S.ev.length - 1)]) (rest := [.int 3, .ref mo]) (r1 := 1) (mc1 := 0) (ms1 := 0) C d_MM_late_10 k_857 k_855 k_856 k_5 (by decide +kernel) rfl (by decide) (by decide) (Nat.le_of_ble_eq_true rfl) (by first | decide | omega) (by first | decide | omega) rfl ?_
  refine ct_MM_in ?_
  dsimp only [zps]
  rw [inN_eq a (by omega)]
  refine z_iload_n C d_MM_late_13 rfl rfl ?_
  refine z_if_lt 21 C d_MM_late_14 (by decide) (fun c14 => ?_) (fun c14 => ?_)
  · rw [decide_eq_true c14] at J
    refine z_iconst (v := 0) C d_MM_late_21 (by decide) ?_
    exact J
  · rw [decide_eq_false c14] at J
    refine z_iconst (v := 1) C d_MM_late_17 (by decide) ?_
    refine z_goto 22 C d_MM_late_18 (by decide) ?_
    exact J
set_option maxRecDepth 100000 in
theorem ct_MM_tick {a : Int32} (hM : RepM g T h mo A th S F) (hb : S.ev.length ≤ 20)
    (kf : ∀ rg, rg = (inB a 1 5000 && decide (a ≤ 99999 - S.sec)) → rg = false → ∀ h1, RepM g T h1 mo A 1 S F → ExM T h h1 → PR (some (.int 0)) h1)
    (ks : inB a 1 5000 = true → a ≤ 99999 - S.sec → ∀ h1, RepM g T h1 mo A 0 (S.1 + a, S.2) F → ExM T h h1 → PR (some (.int (if 0 < S.ev.length ∧ ¬ F 19 (S.ev.length - 1) < S.sec ∧ F 19 (S.ev.length - 1) < S.sec + a then nI (cnt (fun q => F 20 ((S.ev.length - 1) * 10 + q) == -1) 0 10) else 0))) h1) : Ct g y_MM_tick w_MM_tick 2 0 0 [.ref mo, .int a] h PR PX := by
  refine Ct_intro (cc := c_MM_tick) (nL := 4) (ret := (some FieldType.int)) (ls := [some (.ref mo), some (.int a), none, none]) (by decide) (Nat.le_of_ble_eq_true rfl) rfl rfl ?_
  intro p e R s m args below meth c C ht hname
  have J : ∀ rg, rg = (inB a 1 5000 && decide (a ≤ 99999 - S.sec)) → Z g 4 0 0 p e R s m args below meth c (vx_MQ below (zQ g PR) (zX g PX) args s 0 0 (zA g)) 0 0 30 [some (.ref mo), some (.int a), none, none] [.int (bI rg), .int 1, .int 2, .ref mo] h := by
    intro rg h1
    refine z_iconst (v := 1) C d_MM_tick_30 (by decide) ?_
    refine z_iconst (v := 1) C d_MM_tick_31 (by decide) ?_
    refine z_callV (n := 5) (As := [.int 2, .int 1, .int (bI rg), .int 1, .int 1]) (rest := []) (r1 := 1) (mc1 := 0) (ms1 := 0) (ci := 8) (T0 := T_MM) C d_MM_tick_32 k_846 k_843 k_845 ks_25 k_5 (by decide +kernel) rfl rfl (hM.1) (by decide) (by decide) (Nat.le_of_ble_eq_true rfl) (by first | decide | omega) (by first | decide | omega) rfl ?_
    refine ct_MM_goes (kn := true) (rg := rg) (st := true) (rm := true) hM (fun h5 r1 e1 => ?_)
    dsimp only [zps]
    refine z_if_ne 40 C d_MM_tick_35 (by decide) (fun c35 => ?_) (fun c35 => ?_)
    · obtain ⟨-, g1, -, -⟩ := b4f (bI1 c35)
      subst g1
      have i1 := (Bool.and_eq_true_iff.mp h1.symm)
      have r2 : RepM g T (zu h5 mo (mmC A 0 (S.1 + a, S.2))) mo A 0 (S.1 + a, S.2) F := r1.fld 0 (S.1 + a, S.2)
      have k := ks i1.1 (of_decide_eq_true i1.2) _ r2 (e1.trans r1.exF)
      clear ks kf
      refine z_aload_n C d_MM_tick_40 rfl rfl ?_
      refine z_get (ci := 8) (T := T_MM) (N := 29) C d_MM_tick_41 26 i_MM rfl (by decide) k_773 (fun _ q => q) (r1.1) (by rfl) ?_
      refine z_iconst (v := 1) C d_MM_tick_44 (by decide) ?_
      refine z_isub C d_MM_tick_45 ?_
      rcases Nat.eq_zero_or_pos S.ev.length with h0 | h0
      · rw [if_neg (fun z => by omega)] at k
        rw [h0]
        refine z_istore_n C d_MM_tick_46 rfl (by decide) rfl ?_
        dsimp only [List.set]
        refine z_iload_n C d_MM_tick_47 rfl rfl ?_
        refine z_if_lt 68 C d_MM_tick_48 (by decide) (fun c48 => ?_) (fun c48 => ?_)
        · refine z_iconst (v := 0) C d_MM_tick_68 (by decide) ?_
          refine z_istore_n C d_MM_tick_69 rfl (by decide) rfl ?_
          dsimp only [List.set]
          refine z_aload_n C d_MM_tick_70 rfl rfl ?_
          refine z_aload_n C d_MM_tick_71 rfl rfl ?_
          refine z_get (ci := 8) (T := T_MM) (N := 29) C d_MM_tick_72 1 i_MM rfl (by decide) k_748 (fun _ q => q) (r1.1) (by rfl) ?_
          refine z_iload_n C d_MM_tick_75 rfl rfl ?_
          refine z_iadd C d_MM_tick_76 ?_
          refine z_put (ci := 8) (T := T_MM) (N := 29) (ty := .int) C d_MM_tick_77 1 ty_MM t_MM n_MM i_MM rfl (by decide) k_748 (fun _ q => q) rfl (by decide +kernel) (by rfl) (by rfl) (r1.1) (by exact Nat.le_of_ble_eq_true rfl) ?_
          dsimp only [List.set]
          refine z_iload_n C d_MM_tick_80 rfl rfl ?_
          refine z_if_lt 109 C d_MM_tick_81 (by decide) (fun c81 => ?_) (fun c81 => ?_)
          · refine z_iconst (v := 0) C d_MM_tick_109 (by decide) ?_
            refine z_iret C d_MM_tick_110 ?_
            exact k
          · exact absurd (by decide) c81
        · exact absurd (by decide) c48
      · rw [znI_pred h0]
        have hin : vp_in (nI (S.ev.length - 1)) 20 := vp_in_nI (by omega) (by decide)
        refine z_istore_n C d_MM_tick_46 rfl (by decide) rfl ?_
        dsimp only [List.set]
        refine z_iload_n C d_MM_tick_47 rfl rfl ?_
        refine z_if_lt 68 C d_MM_tick_48 (by decide) (fun c48 => ?_) (fun c48 => ?_)
        · exact absurd c48 (nI_pos (by omega))
        · refine z_aload_n C d_MM_tick_51 rfl rfl ?_
          refine z_get (ci := 8) (T := T_MM) (N := 29) C d_MM_tick_52 1 i_MM rfl (by decide) k_748 (fun _ q => q) (r1.1) (by rfl) ?_
          refine z_aload_n C d_MM_tick_55 rfl rfl ?_
          refine z_get (ci := 8) (T := T_MM) (N := 29) C d_MM_tick_56 27 i_MM rfl (by decide) k_774 (fun _ q => q) (r1.1) (by rfl) ?_
          refine z_iload_n C d_MM_tick_59 rfl rfl ?_
          refine z_iald C d_MM_tick_60 (r1.a19) hin ?_
          rw [nI_clamp (by omega)]
          refine z_icmp_le 68 C d_MM_tick_61 (by decide) (fun c61 => ?_) (fun c61 => ?_)
          · have hn : ¬ F 19 (S.ev.length - 1) < S.sec := Int32.not_lt.mpr c61
            refine z_iconst (v := 0) C d_MM_tick_68 (by decide) ?_
            refine z_istore_n C d_MM_tick_69 rfl (by decide) rfl ?_
            dsimp only [List.set]
            refine z_aload_n C d_MM_tick_70 rfl rfl ?_
            refine z_aload_n C d_MM_tick_71 rfl rfl ?_
            refine z_get (ci := 8) (T := T_MM) (N := 29) C d_MM_tick_72 1 i_MM rfl (by decide) k_748 (fun _ q => q) (r1.1) (by rfl) ?_
            refine z_iload_n C d_MM_tick_75 rfl rfl ?_
            refine z_iadd C d_MM_tick_76 ?_
            refine z_put (ci := 8) (T := T_MM) (N := 29) (ty := .int) C d_MM_tick_77 1 ty_MM t_MM n_MM i_MM rfl (by decide) k_748 (fun _ q => q) rfl (by decide +kernel) (by rfl) (by rfl) (r1.1) (by exact Nat.le_of_ble_eq_true rfl) ?_
            dsimp only [List.set]
            refine z_iload_n C d_MM_tick_80 rfl rfl ?_
            refine z_if_lt 109 C d_MM_tick_81 (by decide) (fun c81 => ?_) (fun c81 => ?_)
            · exact absurd c81 (nI_pos (by omega))
            · refine z_iload_n C d_MM_tick_84 rfl rfl ?_
              refine z_if_ne 109 C d_MM_tick_85 (by decide) (fun c85 => ?_) (fun c85 => ?_)
              · exact absurd rfl c85
              · refine z_aload_n C d_MM_tick_88 rfl rfl ?_
                refine z_get (ci := 8) (T := T_MM) (N := 29) C d_MM_tick_89 1 i_MM rfl (by decide) k_748 (fun _ q => q) (r2.1) (by rfl) ?_
                refine z_aload_n C d_MM_tick_92 rfl rfl ?_
                refine z_get (ci := 8) (T := T_MM) (N := 29) C d_MM_tick_93 27 i_MM rfl (by decide) k_774 (fun _ q => q) (r2.1) (by rfl) ?_
                refine z_iload_n C d_MM_tick_96 rfl rfl ?_
                refine z_iald C d_MM_tick_97 (r2.a19) hin ?_
                rw [nI_clamp (by omega)]
                refine z_icmp_le 109 C d_MM_tick_98 (by decide) (fun c98 => ?_) (fun c98 => ?_)
                · rw [if_neg (fun z => Int32.not_lt.mpr c98 z.2.2)] at k
                  refine z_iconst (v := 0) C d_MM_tick_109 (by decide) ?_
                  refine z_iret C d_MM_tick_110 ?_
                  exact k
                · rw [if_pos ⟨h0, hn, Int32.not_le.mp c98⟩] at k
                  refine z_aload_n C d_MM_tick_101 rfl rfl ?_
                  refine z_iload_n C d_MM_tick_102 rfl rfl ?_
                  refine z_callV (n := 1) (As := [.int (nI (S.ev.length - 1))]) (rest := []) (r1 := 1) (mc1 := 0) (ms1 := 0) (ci := 8) (T0 := T_MM) C d_MM_tick_103 k_964 k_961 k_963 ks_39 k_5 (by decide +kernel) rfl rfl (r2.1) (by decide) (by decide) (Nat.le_of_ble_eq_true rfl) (by first | decide | omega) (by first | decide | omega) rfl ?_
                  refine ct_MM_left r2 (by omega) ?_
                  dsimp only [zps]
                  refine z_goto 110 C d_MM_tick_106 (by decide) ?_
                  refine z_iret C d_MM_tick_110 ?_
                  exact k
          · rw [if_neg (fun z => z.2.1 (Int32.not_le.mp c61))] at k
            refine z_iconst (v := 1) C d_MM_tick_64 (by decide) ?_
            refine z_goto 69 C d_MM_tick_65 (by decide) ?_
            refine z_istore_n C d_MM_tick_69 rfl (by decide) rfl ?_
            dsimp only [List.set]
            refine z_aload_n C d_MM_tick_70 rfl rfl ?_
            refine z_aload_n C d_MM_tick_71 rfl rfl ?_
            refine z_get (ci := 8) (T := T_MM) (N := 29) C d_MM_tick_72 1 i_MM rfl (by decide) k_748 (fun _ q => q) (r1.1) (by rfl) ?_
            refine z_iload_n C d_MM_tick_75 rfl rfl ?_
            refine z_iadd C d_MM_tick_76 ?_
            refine z_put (ci := 8) (T := T_MM) (N := 29) (ty := .int) C d_MM_tick_77 1 ty_MM t_MM n_MM i_MM rfl (by decide) k_748 (fun _ q => q) rfl (by decide +kernel) (by rfl) (by rfl) (r1.1) (by exact Nat.le_of_ble_eq_true rfl) ?_
            dsimp only [List.set]
            refine z_iload_n C d_MM_tick_80 rfl rfl ?_
            refine z_if_lt 109 C d_MM_tick_81 (by decide) (fun c81 => ?_) (fun c81 => ?_)
            · exact absurd c81 (nI_pos (by omega))
            · refine z_iload_n C d_MM_tick_84 rfl rfl ?_
              refine z_if_ne 109 C d_MM_tick_85 (by decide) (fun c85 => ?_) (fun c85 => ?_)
              · refine z_iconst (v := 0) C d_MM_tick_109 (by decide) ?_
                refine z_iret C d_MM_tick_110 ?_
                exact k
              · exact absurd c85 (by decide)
    · have h9 := bI0 c35
      rw [Bool.true_and, Bool.and_true, Bool.and_true] at h9
      subst h9
      refine z_iconst (v := 0) C d_MM_tick_38 (by decide) ?_
      refine z_iret C d_MM_tick_39 ?_
      exact kf false h1 rfl h5 r1 e1
  refine z_aload_n C d_MM_tick_0 rfl rfl ?_
  refine z_iconst (v := 2) C d_MM_tick_1 (by decide) ?_
  refine z_iconst (v := 1) C d_MM_tick_2 (by decide) ?_
  refine z_iload_n C d_MM_tick_3 rfl rfl ?_
  refine z_iconst (v := 1) C d_MM_tick_4 (by decide) ?_
  refine z_sipush (v := 5000) C d_MM_tick_5 (by decide) ?_
  refine z_callS (n := 3) (As := [.int a, .int 1, .int 5000]) (rest := [.int 1, .int 2, .ref mo]) (r1 := 1) (mc1 := 0) (ms1 := 0) C d_MM_tick_8 k_857 k_855 k_856 k_5 (by decide +kernel) rfl (by decide) (by decide) (Nat.le_of_ble_eq_true rfl) (by first | decide | omega) (by first | decide | omega) rfl ?_
  refine ct_MM_in ?_
  dsimp only [zps]
  refine z_if_eq 29 C d_MM_tick_11 (by decide) (fun c11 => ?_) (fun c11 => ?_)
  · refine z_iconst (v := 0) C d_MM_tick_29 (by decide) ?_
    exact J false (by rw [bI0 c11]; rfl)
  · refine z_iload_n C d_MM_tick_14 rfl rfl ?_
    refine z_ldc C d_MM_tick_15 k_981 ?_
    refine z_aload_n C d_MM_tick_17 rfl rfl ?_
    refine z_get (ci := 8) (T := T_MM) (N := 29) C d_MM_tick_18 1 i_MM rfl (by decide) k_748 (fun _ q => q) (hM.1) (by rfl) ?_
    refine z_isub C d_MM_tick_21 ?_
    refine z_icmp_gt 29 C d_MM_tick_22 (by decide) (fun c22 => ?_) (fun c22 => ?_)
    · refine z_iconst (v := 0) C d_MM_tick_29 (by decide) ?_
      exact J false (by rw [decide_eq_false (Int32.not_le.mpr c22), Bool.and_false])
    · refine z_iconst (v := 1) C d_MM_tick_25 (by decide) ?_
      refine z_goto 30 C d_MM_tick_26 (by decide) ?_
      exact J true (by rw [bI1 c11, decide_eq_true (Int32.not_lt.mp c22)]; rfl)
end MZ
