/-! the reference's helpers that read -/
def mvR (S : CS) (F : FT) : Prop := S.mv.length ≤ 300 ∧ ∀ (k : Nat) (e : MvT), S.mv[k]? = some e → F 1 k = e.1 ∧ F 2 k = e.2.1 ∧ F 3 k = e.2.2
def coB (mv : List MvT) (p : Int32) (k : Nat) : Bool := (mv.drop k).any (fun e => e.1 == p && decide (e.2.1 < 0))
def cnt (P : Nat → Bool) : Nat → Nat → Nat
  | _, 0 => 0
  | i, j + 1 => (if P i = true then 1 else 0) + cnt P (i + 1) j
def anyN (P : Nat → Bool) : Nat → Nat → Bool
  | _, 0 => false
  | i, j + 1 => P i || anyN P (i + 1) j
def stB (F : FT) (mv : List MvT) (r i fm : Nat) : Bool := (F 10 (r * 60 + i) != 0) && decide (F 11 (r * 60 + i) < 0) && !coB mv (nI i) fm
theorem nI60 (r i : Nat) : nI r * 60 + nI i = nI (r * 60 + i) := by rw [show (60 : Int32) = nI 60 from rfl, pk_mul, nI_add]
theorem nI10 (r i : Nat) : nI r * 10 + nI i = nI (r * 10 + i) := by rw [show (10 : Int32) = nI 10 from rfl, pk_mul, nI_add]
section MX
variable {g : zG} {T : Tg} {h : Hp} {PR : Option Value → Hp → Prop} {PX : String → Hp → Prop} {mo : Nat} {A : Nat → Nat} {th : Int32} {S : CS} {F : FT}
set_option maxRecDepth 100000 in
theorem ct_MM_at {a t : Int32} (hM : RepM g T h mo A th S F) (hv : mvR S F) (k : PR (some (.int (wasF a t S.mv.reverse))) h) : Ct g y_MM_at w_MM_at 1 0 0 [.ref mo, .int a, .int t] h PR PX := by
  obtain ⟨hl, hv⟩ := hv
  refine Ct_intro (cc := c_MM_at) (nL := 5) (ret := (some FieldType.int)) (ls := [some (.ref mo), some (.int a), some (.int t), none, none]) (by decide) (Nat.le_of_ble_eq_true rfl) rfl rfl ?_
  intro p e R s m args below meth c C ht hname
  have loop : ∀ (j i : Nat), i + j = S.mv.length → Z g 5 0 0 p e R s m args below meth c (vx_MQ below (zQ g PR) (zX g PX) args s 0 0 (zA g)) 0 0 5 [some (.ref mo), some (.int a), some (.int t), some (.int (wasF a t (S.mv.take i).reverse)), some (.int (nI i))] [] h := by
    intro j
    induction j with
    | zero =>
      intro i hi
      have : i = S.mv.length := by omega
      subst this
      rw [List.take_length]
      refine z_iload C d_MM_at_5 rfl ?_
      refine z_aload_n C d_MM_at_7 rfl rfl ?_
      refine z_get (ci := 8) (T := T_MM) (N := 29) C d_MM_at_8 4 i_MM rfl (by decide) k_751 (fun _ q => q) (hM.1) (by rfl) ?_
      refine z_icmp_ge 50 C d_MM_at_11 (by decide) (fun c11 => ?_) (fun c11 => ?_)
      · refine z_iload_n C d_MM_at_50 rfl rfl ?_
        refine z_iret C d_MM_at_51 ?_
        exact k
      · exact absurd (Int32.le_refl _) c11
    | succ j ih =>
      intro i hi
      obtain ⟨e0, he⟩ : ∃ e0, S.mv[i]? = some e0 := ⟨_, List.getElem?_eq_getElem (by omega)⟩
      obtain ⟨v1, v2, v3⟩ := hv i e0 he
      have e8 : (S.mv.take (i + 1)).reverse = e0 :: (S.mv.take i).reverse := by
        rw [List.take_add_one, he]
        simp
      have ih2 := ih (i + 1) (by omega)
      rw [e8, wasF] at ih2
      refine z_iload C d_MM_at_5 rfl ?_
      refine z_aload_n C d_MM_at_7 rfl rfl ?_
      refine z_get (ci := 8) (T := T_MM) (N := 29) C d_MM_at_8 4 i_MM rfl (by decide) k_751 (fun _ q => q) (hM.1) (by rfl) ?_
      refine z_icmp_ge 50 C d_MM_at_11 (by decide) (fun c11 => ?_) (fun c11 => ?_)
      · exact absurd c11 (nI_ge (by omega) (by omega))
      · refine z_aload_n C d_MM_at_14 rfl rfl ?_
        refine z_get (ci := 8) (T := T_MM) (N := 29) C d_MM_at_15 5 i_MM rfl (by decide) k_752 (fun _ q => q) (hM.1) (by rfl) ?_
        refine z_iload C d_MM_at_18 rfl ?_
        refine z_iald C d_MM_at_20 (hM.a1) (vp_in_nI (by omega) (by decide)) ?_
        rw [nI_clamp (by omega), v1]
        refine z_iload_n C d_MM_at_21 rfl rfl ?_
        refine z_icmp_ne 44 C d_MM_at_22 (by decide) (fun c22 => ?_) (fun c22 => ?_)
        · rw [if_neg (fun z => c22 z.1)] at ih2
          refine z_iinc C d_MM_at_44 rfl (by decide) rfl ?_
          simp only [List.set, zi1, zim1]
          rw [nI_1]
          refine z_goto 5 C d_MM_at_47 (by decide) ?_
          exact ih2
        · refine z_aload_n C d_MM_at_25 rfl rfl ?_
          refine z_get (ci := 8) (T := T_MM) (N := 29) C d_MM_at_26 7 i_MM rfl (by decide) k_754 (fun _ q => q) (hM.1) (by rfl) ?_
          refine z_iload C d_MM_at_29 rfl ?_
          refine z_iald C d_MM_at_31 (hM.a3) (vp_in_nI (by omega) (by decide)) ?_
          rw [nI_clamp (by omega), v3]
          refine z_iload_n C d_MM_at_32 rfl rfl ?_
          refine z_icmp_gt 44 C d_MM_at_33 (by decide) (fun c33 => ?_) (fun c33 => ?_)
          · rw [if_neg (fun z => Int32.not_le.mpr c33 z.2)] at ih2
            refine z_iinc C d_MM_at_44 rfl (by decide) rfl ?_
            simp only [List.set, zi1, zim1]
            rw [nI_1]
            refine z_goto 5 C d_MM_at_47 (by decide) ?_
            exact ih2
          · rw [if_pos ⟨c22, Int32.not_lt.mp c33⟩] at ih2
            refine z_aload_n C d_MM_at_36 rfl rfl ?_
            refine z_get (ci := 8) (T := T_MM) (N := 29) C d_MM_at_37 6 i_MM rfl (by decide) k_753 (fun _ q => q) (hM.1) (by rfl) ?_
            refine z_iload C d_MM_at_40 rfl ?_
            refine z_iald C d_MM_at_42 (hM.a2) (vp_in_nI (by omega) (by decide)) ?_
            rw [nI_clamp (by omega), v2]
            refine z_istore_n C d_MM_at_43 rfl (by decide) rfl ?_
            dsimp only [List.set]
            refine z_iinc C d_MM_at_44 rfl (by decide) rfl ?_
            simp only [List.set, zi1, zim1]
            rw [nI_1]
            refine z_goto 5 C d_MM_at_47 (by decide) ?_
            exact ih2
  refine z_iconst (v := (-1)) C d_MM_at_0 (by decide) ?_
  refine z_istore_n C d_MM_at_1 rfl (by decide) rfl ?_
  dsimp only [List.set]
  refine z_iconst (v := 0) C d_MM_at_2 (by decide) ?_
  refine z_istore C d_MM_at_3 (by decide) rfl ?_
  dsimp only [List.set]
  exact loop S.mv.length 0 (by omega)
set_option maxRecDepth 100000 in
theorem ct_MM_here {a : Int32} (hM : RepM g T h mo A th S F) (hv : mvR S F) (k : PR (some (.int (wasF a S.sec S.mv.reverse))) h) : Ct g y_MM_here w_MM_here 2 0 0 [.ref mo, .int a] h PR PX := by
  refine Ct_intro (cc := c_MM_here) (nL := 2) (ret := (some FieldType.int)) (ls := [some (.ref mo), some (.int a)]) (by decide) (Nat.le_of_ble_eq_true rfl) rfl rfl ?_
  intro p e R s m args below meth c C ht hname
  refine z_aload_n C d_MM_here_0 rfl rfl ?_
  refine z_iload_n C d_MM_here_1 rfl rfl ?_
  refine z_aload_n C d_MM_here_2 rfl rfl ?_
  refine z_get (ci := 8) (T := T_MM) (N := 29) C d_MM_here_3 1 i_MM rfl (by decide) k_748 (fun _ q => q) (hM.1) (by rfl) ?_
  refine z_callV (n := 2) (As := [.int a, .int S.sec]) (rest := []) (r1 := 1) (mc1 := 0) (ms1 := 0) (ci := 8) (T0 := T_MM) C d_MM_here_6 k_868 k_865 k_867 ks_28 k_5 (by decide +kernel) rfl rfl (hM.1) (by decide) (by decide) (Nat.le_of_ble_eq_true rfl) (by first | decide | omega) (by first | decide | omega) rfl ?_
  refine ct_MM_at hM hv ?_
  dsimp only [zps]
  refine z_iret C d_MM_here_9 ?_
  exact k
set_option maxRecDepth 100000 in
theorem ct_MM_openMaydays (hM : RepM g T h mo A th S F) (hl : S.md.length ≤ 30) (hv : ∀ (i : Nat) (e : MdT), S.md[i]? = some e → F 14 i = e.op) (k : PR (some (.int (nI (S.md.countP (fun e => e.op ≠ 0))))) h) : Ct g y_MM_openMaydays w_MM_openMaydays 1 0 0 [.ref mo] h PR PX := by
  refine Ct_intro (cc := c_MM_openMaydays) (nL := 3) (ret := (some FieldType.int)) (ls := [some (.ref mo), none, none]) (by decide) (Nat.le_of_ble_eq_true rfl) rfl rfl ?_
  intro p e R s m args below meth c C ht hname
  have loop : ∀ (j i acc : Nat), i + j = S.md.length → PR (some (.int (nI (acc + (S.md.drop i).countP (fun e => e.op ≠ 0))))) h → Z g 3 0 0 p e R s m args below meth c (vx_MQ below (zQ g PR) (zX g PX) args s 0 0 (zA g)) 0 0 4 [some (.ref mo), some (.int (nI acc)), some (.int (nI i))] [] h := by
    intro j
    induction j with
    | zero =>
      intro i acc hi hp
      have : i = S.md.length := by omega
      subst this
      rw [List.drop_length] at hp
      refine z_iload_n C d_MM_openMaydays_4 rfl rfl ?_
      refine z_aload_n C d_MM_openMaydays_5 rfl rfl ?_
      refine z_get (ci := 8) (T := T_MM) (N := 29) C d_MM_openMaydays_6 20 i_MM rfl (by decide) k_767 (fun _ q => q) (hM.1) (by rfl) ?_
      refine z_icmp_ge 30 C d_MM_openMaydays_9 (by decide) (fun c9 => ?_) (fun c9 => ?_)
      · refine z_iload_n C d_MM_openMaydays_30 rfl rfl ?_
        refine z_iret C d_MM_openMaydays_31 ?_
        exact hp
      · exact absurd (Int32.le_refl _) c9
    | succ j ih =>
      intro i acc hi hp
      obtain ⟨e0, he, hd⟩ := zdrop (l := S.md) (k := i) (by omega)
      rw [hd, List.countP_cons] at hp
      refine z_iload_n C d_MM_openMaydays_4 rfl rfl ?_
      refine z_aload_n C d_MM_openMaydays_5 rfl rfl ?_
      refine z_get (ci := 8) (T := T_MM) (N := 29) C d_MM_openMaydays_6 20 i_MM rfl (by decide) k_767 (fun _ q => q) (hM.1) (by rfl) ?_
      refine z_icmp_ge 30 C d_MM_openMaydays_9 (by decide) (fun c9 => ?_) (fun c9 => ?_)
      · exact absurd c9 (nI_ge (by omega) (by omega))
      · refine z_aload_n C d_MM_openMaydays_12 rfl rfl ?_
        refine z_get (ci := 8) (T := T_MM) (N := 29) C d_MM_openMaydays_13 21 i_MM rfl (by decide) k_768 (fun _ q => q) (hM.1) (by rfl) ?_
        refine z_iload_n C d_MM_openMaydays_16 rfl rfl ?_
        refine z_zald C d_MM_openMaydays_17 (hM.a14) (vp_in_nI (by omega) (by decide)) ?_
        rw [nI_clamp (by omega), hv i e0 he]
        refine z_if_eq 24 C d_MM_openMaydays_18 (by decide) (fun c18 => ?_) (fun c18 => ?_)
        · refine z_iinc C d_MM_openMaydays_24 rfl (by decide) rfl ?_
          simp only [List.set, zi1, zim1]
          rw [nI_1]
          refine z_goto 4 C d_MM_openMaydays_27 (by decide) ?_
          refine ih (i + 1) acc (by omega) ?_
          rw [if_neg (by simpa using c18)] at hp
          exact hp
        · refine z_iinc C d_MM_openMaydays_21 rfl (by decide) rfl ?_
          simp only [List.set, zi1, zim1]
          refine z_iinc C d_MM_openMaydays_24 rfl (by decide) rfl ?_
          simp only [List.set, zi1, zim1]
          rw [nI_1, nI_1]
          refine z_goto 4 C d_MM_openMaydays_27 (by decide) ?_
          refine ih (i + 1) (acc + 1) (by omega) ?_
          rw [if_pos (by simpa using c18)] at hp
          rw [show acc + 1 + (S.md.drop (i + 1)).countP (fun e => e.op ≠ 0) = acc + ((S.md.drop (i + 1)).countP (fun e => e.op ≠ 0) + 1) by omega]
          exact hp
  refine z_iconst (v := 0) C d_MM_openMaydays_0 (by decide) ?_
  refine z_istore_n C d_MM_openMaydays_1 rfl (by decide) rfl ?_
  dsimp only [List.set]
  refine z_iconst (v := 0) C d_MM_openMaydays_2 (by decide) ?_
  refine z_istore_n C d_MM_openMaydays_3 rfl (by decide) rfl ?_
  dsimp only [List.set]
  exact loop S.md.length 0 0 (by omega) (by simpa using k)
set_option maxRecDepth 100000 in
theorem ct_MM_cameOut {a : Int32} {fm : Nat} (hM : RepM g T h mo A th S F) (hv : mvR S F) (hf : fm ≤ S.mv.length) (k : PR (some (.int (bI (coB S.mv a fm)))) h) : Ct g y_MM_cameOut w_MM_cameOut 1 0 0 [.ref mo, .int a, .int (nI fm)] h PR PX := by
  obtain ⟨hl, hv⟩ := hv
  refine Ct_intro (cc := c_MM_cameOut) (nL := 4) (ret := (some FieldType.boolean)) (ls := [some (.ref mo), some (.int a), some (.int (nI fm)), none]) (by decide) (Nat.le_of_ble_eq_true rfl) rfl rfl ?_
  intro p e R s m args below meth c C ht hname
  have loop : ∀ (j i : Nat), i + j = S.mv.length → PR (some (.int (bI ((S.mv.drop i).any (fun e => e.1 == a && decide (e.2.1 < 0)))))) h → Z g 4 0 0 p e R s m args below meth c (vx_MQ below (zQ g PR) (zX g PX) args s 0 0 (zA g)) 0 0 2 [some (.ref mo), some (.int a), some (.int (nI fm)), some (.int (nI i))] [] h := by
    intro j
    induction j with
    | zero =>
      intro i hi hp
      have : i = S.mv.length := by omega
      subst this
      rw [List.drop_length] at hp
      refine z_iload_n C d_MM_cameOut_2 rfl rfl ?_
      refine z_aload_n C d_MM_cameOut_3 rfl rfl ?_
      refine z_get (ci := 8) (T := T_MM) (N := 29) C d_MM_cameOut_4 4 i_MM rfl (by decide) k_751 (fun _ q => q) (hM.1) (by rfl) ?_
      refine z_icmp_ge 37 C d_MM_cameOut_7 (by decide) (fun c7 => ?_) (fun c7 => ?_)
      · refine z_iconst (v := 0) C d_MM_cameOut_37 (by decide) ?_
        refine z_zret C d_MM_cameOut_38 (by first | rfl | assumption | exact bI_nv _) ?_
        exact hp
      · exact absurd (Int32.le_refl _) c7
    | succ j ih =>
      intro i hi hp
      obtain ⟨e0, he, hd⟩ := zdrop (l := S.mv) (k := i) (by omega)
      rw [hd, List.any_cons] at hp
      obtain ⟨v1, v2, v3⟩ := hv i e0 he
      refine z_iload_n C d_MM_cameOut_2 rfl rfl ?_
      refine z_aload_n C d_MM_cameOut_3 rfl rfl ?_
      refine z_get (ci := 8) (T := T_MM) (N := 29) C d_MM_cameOut_4 4 i_MM rfl (by decide) k_751 (fun _ q => q) (hM.1) (by rfl) ?_
      refine z_icmp_ge 37 C d_MM_cameOut_7 (by decide) (fun c7 => ?_) (fun c7 => ?_)
      · exact absurd c7 (nI_ge (by omega) (by omega))
      · refine z_aload_n C d_MM_cameOut_10 rfl rfl ?_
        refine z_get (ci := 8) (T := T_MM) (N := 29) C d_MM_cameOut_11 5 i_MM rfl (by decide) k_752 (fun _ q => q) (hM.1) (by rfl) ?_
        refine z_iload_n C d_MM_cameOut_14 rfl rfl ?_
        refine z_iald C d_MM_cameOut_15 (hM.a1) (vp_in_nI (by omega) (by decide)) ?_
        rw [nI_clamp (by omega), v1]
        refine z_iload_n C d_MM_cameOut_16 rfl rfl ?_
        refine z_icmp_ne 31 C d_MM_cameOut_17 (by decide) (fun c17 => ?_) (fun c17 => ?_)
        · rw [show (e0.1 == a) = false from beq_eq_false_iff_ne.mpr c17, Bool.false_and, Bool.false_or] at hp
          refine z_iinc C d_MM_cameOut_31 rfl (by decide) rfl ?_
          simp only [List.set, zi1, zim1]
          rw [nI_1]
          refine z_goto 2 C d_MM_cameOut_34 (by decide) ?_
          exact ih (i + 1) (by omega) hp
        · rw [show (e0.1 == a) = true from beq_iff_eq.mpr c17, Bool.true_and] at hp
          refine z_aload_n C d_MM_cameOut_20 rfl rfl ?_
          refine z_get (ci := 8) (T := T_MM) (N := 29) C d_MM_cameOut_21 6 i_MM rfl (by decide) k_753 (fun _ q => q) (hM.1) (by rfl) ?_
          refine z_iload_n C d_MM_cameOut_24 rfl rfl ?_
          refine z_iald C d_MM_cameOut_25 (hM.a2) (vp_in_nI (by omega) (by decide)) ?_
          rw [nI_clamp (by omega), v2]
          refine z_if_ge 31 C d_MM_cameOut_26 (by decide) (fun c26 => ?_) (fun c26 => ?_)
          · rw [decide_eq_false (Int32.not_lt.mpr c26), Bool.false_or] at hp
            refine z_iinc C d_MM_cameOut_31 rfl (by decide) rfl ?_
            simp only [List.set, zi1, zim1]
            rw [nI_1]
            refine z_goto 2 C d_MM_cameOut_34 (by decide) ?_
            exact ih (i + 1) (by omega) hp
          · rw [decide_eq_true (Int32.not_le.mp c26), Bool.true_or] at hp
            refine z_iconst (v := 1) C d_MM_cameOut_29 (by decide) ?_
            refine z_zret C d_MM_cameOut_30 (by first | rfl | assumption | exact bI_nv _) ?_
            exact hp
  refine z_iload_n C d_MM_cameOut_0 rfl rfl ?_
  refine z_istore_n C d_MM_cameOut_1 rfl (by decide) rfl ?_
  dsimp only [List.set]
  exact loop (S.mv.length - fm) fm (by omega) k
set_option maxRecDepth 100000 in
theorem ct_MM_isStill {r i fm : Nat} (hM : RepM g T h mo A th S F) (hv : mvR S F) (hr : r < 40) (hi : i < 60) (hf : fm ≤ S.mv.length) (hF : F 6 r = nI fm) (k : PR (some (.int (bI (stB F S.mv r i fm)))) h) : Ct g y_MM_isStill w_MM_isStill 2 0 0 [.ref mo, .int (nI r), .int (nI i)] h PR PX := by
  refine Ct_intro (cc := c_MM_isStill) (nL := 3) (ret := (some FieldType.boolean)) (ls := [some (.ref mo), some (.int (nI r)), some (.int (nI i))]) (by decide) (Nat.le_of_ble_eq_true rfl) rfl rfl ?_
  intro p e R s m args below meth c C ht hname
  rw [stB] at k
  refine z_aload_n C d_MM_isStill_0 rfl rfl ?_
  refine z_get (ci := 8) (T := T_MM) (N := 29) C d_MM_isStill_1 15 i_MM rfl (by decide) k_762 (fun _ q => q) (hM.1) (by rfl) ?_
  refine z_iload_n C d_MM_isStill_4 rfl rfl ?_
  refine z_bipush (v := 60) C d_MM_isStill_5 (by decide) ?_
  refine z_imul C d_MM_isStill_7 ?_
  refine z_iload_n C d_MM_isStill_8 rfl rfl ?_
  refine z_iadd C d_MM_isStill_9 ?_
  rw [nI60]
  refine z_zald C d_MM_isStill_10 (hM.a10) (vp_in_nI (by omega) (by decide)) ?_
  rw [nI_clamp (by omega)]
  refine z_if_eq 46 C d_MM_isStill_11 (by decide) (fun c11 => ?_) (fun c11 => ?_)
  · rw [c11] at k
    refine z_iconst (v := 0) C d_MM_isStill_46 (by decide) ?_
    refine z_zret C d_MM_isStill_47 (by first | rfl | assumption | exact bI_nv _) ?_
    exact k
  · rw [show (F 10 (r * 60 + i) != 0) = true from bne_iff_ne.mpr c11, Bool.true_and] at k
    refine z_aload_n C d_MM_isStill_14 rfl rfl ?_
    refine z_get (ci := 8) (T := T_MM) (N := 29) C d_MM_isStill_15 16 i_MM rfl (by decide) k_763 (fun _ q => q) (hM.1) (by rfl) ?_
    refine z_iload_n C d_MM_isStill_18 rfl rfl ?_
    refine z_bipush (v := 60) C d_MM_isStill_19 (by decide) ?_
    refine z_imul C d_MM_isStill_21 ?_
    refine z_iload_n C d_MM_isStill_22 rfl rfl ?_
    refine z_iadd C d_MM_isStill_23 ?_
    rw [nI60]
    refine z_iald C d_MM_isStill_24 (hM.a11) (vp_in_nI (by omega) (by decide)) ?_
    rw [nI_clamp (by omega)]
    refine z_if_ge 46 C d_MM_isStill_25 (by decide) (fun c25 => ?_) (fun c25 => ?_)
    · rw [decide_eq_false (Int32.not_lt.mpr c25), Bool.false_and] at k
      refine z_iconst (v := 0) C d_MM_isStill_46 (by decide) ?_
      refine z_zret C d_MM_isStill_47 (by first | rfl | assumption | exact bI_nv _) ?_
      exact k
    · rw [decide_eq_true (Int32.not_le.mp c25), Bool.true_and] at k
      refine z_aload_n C d_MM_isStill_28 rfl rfl ?_
      refine z_iload_n C d_MM_isStill_29 rfl rfl ?_
      refine z_aload_n C d_MM_isStill_30 rfl rfl ?_
      refine z_get (ci := 8) (T := T_MM) (N := 29) C d_MM_isStill_31 11 i_MM rfl (by decide) k_758 (fun _ q => q) (hM.1) (by rfl) ?_
      refine z_iload_n C d_MM_isStill_34 rfl rfl ?_
      refine z_iald C d_MM_isStill_35 (hM.a6) (vp_in_nI (by omega) (by decide)) ?_
      rw [nI_clamp (by omega), hF]
      refine z_callV (n := 2) (As := [.int (nI i), .int (nI fm)]) (rest := []) (r1 := 1) (mc1 := 0) (ms1 := 0) (ci := 8) (T0 := T_MM) C d_MM_isStill_36 k_916 k_913 k_915 ks_34 k_5 (by decide +kernel) rfl rfl (hM.1) (by decide) (by decide) (Nat.le_of_ble_eq_true rfl) (by first | decide | omega) (by first | decide | omega) rfl ?_
      refine ct_MM_cameOut hM hv hf ?_
      dsimp only [zps]
      refine z_if_ne 46 C d_MM_isStill_39 (by decide) (fun c39 => ?_) (fun c39 => ?_)
      · rw [bI1 c39] at k
        refine z_iconst (v := 0) C d_MM_isStill_46 (by decide) ?_
        refine z_zret C d_MM_isStill_47 (by first | rfl | assumption | exact bI_nv _) ?_
        exact k
      · rw [bI0 c39] at k
        refine z_iconst (v := 1) C d_MM_isStill_42 (by decide) ?_
        refine z_goto 47 C d_MM_isStill_43 (by decide) ?_
        refine z_zret C d_MM_isStill_47 (by first | rfl | assumption | exact bI_nv _) ?_
        exact k
def opM (F : FT) (mv : List MvT) (r fm : Nat) (i : Nat) : Bool := if F 5 r < 3 then stB F mv r i fm else F 12 (r * 60 + i) != 0
set_option maxRecDepth 100000 in
theorem ct_MM_open {r fm : Nat} (hM : RepM g T h mo A th S F) (hv : mvR S F) (hb : S.ps.length ≤ 60) (hr : r < 40) (hf : fm ≤ S.mv.length) (hF : F 6 r = nI fm) (k : PR (some (.int (nI (cnt (opM F S.mv r fm) 0 S.ps.length)))) h) : Ct g y_MM_open w_MM_open 3 0 0 [.ref mo, .int (nI r)] h PR PX := by
  refine Ct_intro (cc := c_MM_open) (nL := 4) (ret := (some FieldType.int)) (ls := [some (.ref mo), some (.int (nI r)), none, none]) (by decide) (Nat.le_of_ble_eq_true rfl) rfl rfl ?_
  intro p e R s m args below meth c C ht hname
  have loop : ∀ (j i acc : Nat), i + j = S.ps.length → PR (some (.int (nI (acc + cnt (opM F S.mv r fm) i j)))) h → Z g 4 0 0 p e R s m args below meth c (vx_MQ below (zQ g PR) (zX g PX) args s 0 0 (zA g)) 0 0 4 [some (.ref mo), some (.int (nI r)), some (.int (nI acc)), some (.int (nI i))] [] h := by
    intro j
    induction j with
    | zero =>
      intro i acc hi hp
      have : i = S.ps.length := by omega
      subst this
      refine z_iload_n C d_MM_open_4 rfl rfl ?_
      refine z_aload_n C d_MM_open_5 rfl rfl ?_
      refine z_get (ci := 8) (T := T_MM) (N := 29) C d_MM_open_6 2 i_MM rfl (by decide) k_749 (fun _ q => q) (hM.1) (by rfl) ?_
      refine z_icmp_ge 57 C d_MM_open_9 (by decide) (fun c9 => ?_) (fun c9 => ?_)
      · refine z_iload_n C d_MM_open_57 rfl rfl ?_
        refine z_iret C d_MM_open_58 ?_
        exact hp
      · exact absurd (Int32.le_refl _) c9
    | succ j ih =>
      intro i acc hi hp
      rw [cnt, opM] at hp
      have no : PR (some (.int (nI (acc + cnt (opM F S.mv r fm) (i + 1) j)))) h → Z g 4 0 0 p e R s m args below meth c (vx_MQ below (zQ g PR) (zX g PX) args s 0 0 (zA g)) 0 0 51 [some (.ref mo), some (.int (nI r)), some (.int (nI acc)), some (.int (nI i))] [] h := by
        intro hp2
        refine z_iinc C d_MM_open_51 rfl (by decide) rfl ?_
        simp only [List.set, zi1, zim1]
        rw [nI_1]
        refine z_goto 4 C d_MM_open_54 (by decide) ?_
        exact ih (i + 1) acc (by omega) hp2
      have yes : PR (some (.int (nI (acc + (1 + cnt (opM F S.mv r fm) (i + 1) j))))) h → Z g 4 0 0 p e R s m args below meth c (vx_MQ below (zQ g PR) (zX g PX) args s 0 0 (zA g)) 0 0 48 [some (.ref mo), some (.int (nI r)), some (.int (nI acc)), some (.int (nI i))] [] h := by
        intro hp2
        refine z_iinc C d_MM_open_48 rfl (by decide) rfl ?_
        simp only [List.set, zi1, zim1]
        refine z_iinc C d_MM_open_51 rfl (by decide) rfl ?_
        simp only [List.set, zi1, zim1]
        rw [nI_1, nI_1]
        refine z_goto 4 C d_MM_open_54 (by decide) ?_
        refine ih (i + 1) (acc + 1) (by omega) ?_
        rw [Nat.add_assoc]
        exact hp2
      refine z_iload_n C d_MM_open_4 rfl rfl ?_
      refine z_aload_n C d_MM_open_5 rfl rfl ?_
      refine z_get (ci := 8) (T := T_MM) (N := 29) C d_MM_open_6 2 i_MM rfl (by decide) k_749 (fun _ q => q) (hM.1) (by rfl) ?_
      refine z_icmp_ge 57 C d_MM_open_9 (by decide) (fun c9 => ?_) (fun c9 => ?_)
      · exact absurd c9 (nI_ge (by omega) (by omega))
      · refine z_aload_n C d_MM_open_12 rfl rfl ?_
        refine z_get (ci := 8) (T := T_MM) (N := 29) C d_MM_open_13 10 i_MM rfl (by decide) k_757 (fun _ q => q) (hM.1) (by rfl) ?_
        refine z_iload_n C d_MM_open_16 rfl rfl ?_
        refine z_iald C d_MM_open_17 (hM.a5) (vp_in_nI (by omega) (by decide)) ?_
        rw [nI_clamp (by omega)]
        refine z_iconst (v := 3) C d_MM_open_18 (by decide) ?_
        refine z_icmp_ge 34 C d_MM_open_19 (by decide) (fun c19 => ?_) (fun c19 => ?_)
        · rw [if_neg (Int32.not_lt.mpr c19)] at hp
          refine z_aload_n C d_MM_open_34 rfl rfl ?_
          refine z_get (ci := 8) (T := T_MM) (N := 29) C d_MM_open_35 17 i_MM rfl (by decide) k_764 (fun _ q => q) (hM.1) (by rfl) ?_
          refine z_iload_n C d_MM_open_38 rfl rfl ?_
          refine z_bipush (v := 60) C d_MM_open_39 (by decide) ?_
          refine z_imul C d_MM_open_41 ?_
          refine z_iload_n C d_MM_open_42 rfl rfl ?_
          refine z_iadd C d_MM_open_43 ?_
          rw [nI60]
          refine z_zald C d_MM_open_44 (hM.a12) (vp_in_nI (by omega) (by decide)) ?_
          rw [nI_clamp (by omega)]
          refine z_if_eq 51 C d_MM_open_45 (by decide) (fun c45 => ?_) (fun c45 => ?_)
          · rw [c45, if_neg (by decide), Nat.zero_add] at hp
            exact no hp
          · rw [if_pos (bne_iff_ne.mpr c45)] at hp
            exact yes hp
        · rw [if_pos (Int32.not_le.mp c19)] at hp
          refine z_aload_n C d_MM_open_22 rfl rfl ?_
          refine z_iload_n C d_MM_open_23 rfl rfl ?_
          refine z_iload_n C d_MM_open_24 rfl rfl ?_
          refine z_callV (n := 2) (As := [.int (nI r), .int (nI i)]) (rest := []) (r1 := 2) (mc1 := 0) (ms1 := 0) (ci := 8) (T0 := T_MM) C d_MM_open_25 k_912 k_909 k_911 ks_33 k_5 (by decide +kernel) rfl rfl (hM.1) (by decide) (by decide) (Nat.le_of_ble_eq_true rfl) (by first | decide | omega) (by first | decide | omega) rfl ?_
          refine ct_MM_isStill hM hv hr (by omega) hf hF ?_
          dsimp only [zps]
          refine z_if_eq 51 C d_MM_open_28 (by decide) (fun c28 => ?_) (fun c28 => ?_)
          · rw [bI0 c28, if_neg (by decide), Nat.zero_add] at hp
            exact no hp
          · rw [bI1 c28, if_pos rfl] at hp
            refine z_goto 48 C d_MM_open_31 (by decide) ?_
            exact yes hp
  refine z_iconst (v := 0) C d_MM_open_0 (by decide) ?_
  refine z_istore_n C d_MM_open_1 rfl (by decide) rfl ?_
  dsimp only [List.set]
  refine z_iconst (v := 0) C d_MM_open_2 (by decide) ?_
  refine z_istore_n C d_MM_open_3 rfl (by decide) rfl ?_
  dsimp only [List.set]
  exact loop S.ps.length 0 0 (by omega) (by rw [Nat.zero_add]; exact k)
set_option maxRecDepth 100000 in
theorem ct_MM_isFound {r i fm : Nat} (hM : RepM g T h mo A th S F) (hv : mvR S F) (hb : S.ro.length ≤ 40) (hr : r < S.ro.length) (hi : i < 60) (hf : fm ≤ S.mv.length) (hF : F 6 r = nI fm) (k : PR (some (.int (bI (anyN (fun o => !decide (F 11 (o * 60 + i) < 0)) (r + 1) (S.ro.length - (r + 1)) || coB S.mv (nI i) fm)))) h) : Ct g y_MM_isFound w_MM_isFound 2 0 0 [.ref mo, .int (nI r), .int (nI i)] h PR PX := by
  refine Ct_intro (cc := c_MM_isFound) (nL := 4) (ret := (some FieldType.boolean)) (ls := [some (.ref mo), some (.int (nI r)), some (.int (nI i)), none]) (by decide) (Nat.le_of_ble_eq_true rfl) rfl rfl ?_
  intro p e R s m args below meth c C ht hname
  have loop : ∀ (j o : Nat), o + j = S.ro.length → PR (some (.int (bI (anyN (fun o => !decide (F 11 (o * 60 + i) < 0)) o j || coB S.mv (nI i) fm)))) h → Z g 4 0 0 p e R s m args below meth c (vx_MQ below (zQ g PR) (zX g PX) args s 0 0 (zA g)) 0 0 4 [some (.ref mo), some (.int (nI r)), some (.int (nI i)), some (.int (nI o))] [] h := by
    intro j
    induction j with
    | zero =>
      intro o ho hp
      have : o = S.ro.length := by omega
      subst this
      rw [anyN, Bool.false_or] at hp
      refine z_iload_n C d_MM_isFound_4 rfl rfl ?_
      refine z_aload_n C d_MM_isFound_5 rfl rfl ?_
      refine z_get (ci := 8) (T := T_MM) (N := 29) C d_MM_isFound_6 8 i_MM rfl (by decide) k_755 (fun _ q => q) (hM.1) (by rfl) ?_
      refine z_icmp_ge 34 C d_MM_isFound_9 (by decide) (fun c9 => ?_) (fun c9 => ?_)
      · refine z_aload_n C d_MM_isFound_34 rfl rfl ?_
        refine z_iload_n C d_MM_isFound_35 rfl rfl ?_
        refine z_aload_n C d_MM_isFound_36 rfl rfl ?_
        refine z_get (ci := 8) (T := T_MM) (N := 29) C d_MM_isFound_37 11 i_MM rfl (by decide) k_758 (fun _ q => q) (hM.1) (by rfl) ?_
        refine z_iload_n C d_MM_isFound_40 rfl rfl ?_
        refine z_iald C d_MM_isFound_41 (hM.a6) (vp_in_nI (by omega) (by decide)) ?_
        rw [nI_clamp (by omega), hF]
        refine z_callV (n := 2) (As := [.int (nI i), .int (nI fm)]) (rest := []) (r1 := 1) (mc1 := 0) (ms1 := 0) (ci := 8) (T0 := T_MM) C d_MM_isFound_42 k_916 k_913 k_915 ks_34 k_5 (by decide +kernel) rfl rfl (hM.1) (by decide) (by decide) (Nat.le_of_ble_eq_true rfl) (by first | decide | omega) (by first | decide | omega) rfl ?_
        refine ct_MM_cameOut hM hv hf ?_
        dsimp only [zps]
        refine z_zret C d_MM_isFound_45 (by first | rfl | assumption | exact bI_nv _) ?_
        exact hp
      · exact absurd (Int32.le_refl _) c9
    | succ j ih =>
      intro o ho hp
      rw [anyN] at hp
      refine z_iload_n C d_MM_isFound_4 rfl rfl ?_
      refine z_aload_n C d_MM_isFound_5 rfl rfl ?_
      refine z_get (ci := 8) (T := T_MM) (N := 29) C d_MM_isFound_6 8 i_MM rfl (by decide) k_755 (fun _ q => q) (hM.1) (by rfl) ?_
      refine z_icmp_ge 34 C d_MM_isFound_9 (by decide) (fun c9 => ?_) (fun c9 => ?_)
      · exact absurd c9 (nI_ge (by omega) (by omega))
      · refine z_aload_n C d_MM_isFound_12 rfl rfl ?_
        refine z_get (ci := 8) (T := T_MM) (N := 29) C d_MM_isFound_13 16 i_MM rfl (by decide) k_763 (fun _ q => q) (hM.1) (by rfl) ?_
        refine z_iload_n C d_MM_isFound_16 rfl rfl ?_
        refine z_bipush (v := 60) C d_MM_isFound_17 (by decide) ?_
        refine z_imul C d_MM_isFound_19 ?_
        refine z_iload_n C d_MM_isFound_20 rfl rfl ?_
        refine z_iadd C d_MM_isFound_21 ?_
        rw [nI60]
        refine z_iald C d_MM_isFound_22 (hM.a11) (vp_in_nI (by omega) (by decide)) ?_
        rw [nI_clamp (by omega)]
        refine z_if_lt 28 C d_MM_isFound_23 (by decide) (fun c23 => ?_) (fun c23 => ?_)
        · rw [decide_eq_true c23, Bool.not_true, Bool.false_or] at hp
          refine z_iinc C d_MM_isFound_28 rfl (by decide) rfl ?_
          simp only [List.set, zi1, zim1]
          rw [nI_1]
          refine z_goto 4 C d_MM_isFound_31 (by decide) ?_
          exact ih (o + 1) (by omega) hp
        · rw [decide_eq_false c23, Bool.not_false, Bool.true_or, Bool.true_or] at hp
          refine z_iconst (v := 1) C d_MM_isFound_26 (by decide) ?_
          refine z_zret C d_MM_isFound_27 (by first | rfl | assumption | exact bI_nv _) ?_
          exact hp
  refine z_iload_n C d_MM_isFound_0 rfl rfl ?_
  refine z_iconst (v := 1) C d_MM_isFound_1 (by decide) ?_
  refine z_iadd C d_MM_isFound_2 ?_
  rw [nI_1]
  refine z_istore_n C d_MM_isFound_3 rfl (by decide) rfl ?_
  dsimp only [List.set]
  exact loop (S.ro.length - (r + 1)) (r + 1) (by omega) k
set_option maxRecDepth 100000 in
theorem ct_MM_left {v : Nat} (hM : RepM g T h mo A th S F) (hr : v < 20) (k : PR (some (.int (nI (cnt (fun q => F 20 (v * 10 + q) == -1) 0 10)))) h) : Ct g y_MM_left w_MM_left 1 0 0 [.ref mo, .int (nI v)] h PR PX := by
  refine Ct_intro (cc := c_MM_left) (nL := 4) (ret := (some FieldType.int)) (ls := [some (.ref mo), some (.int (nI v)), none, none]) (by decide) (Nat.le_of_ble_eq_true rfl) rfl rfl ?_
  intro p e R s m args below meth c C ht hname
  have loop : ∀ (j i acc : Nat), i + j = 10 → PR (some (.int (nI (acc + cnt (fun q => F 20 (v * 10 + q) == -1) i j)))) h → Z g 4 0 0 p e R s m args below meth c (vx_MQ below (zQ g PR) (zX g PX) args s 0 0 (zA g)) 0 0 4 [some (.ref mo), some (.int (nI v)), some (.int (nI acc)), some (.int (nI i))] [] h := by
    intro j
    induction j with
    | zero =>
      intro i acc hi hp
      have : i = 10 := by omega
      subst this
      refine z_iload_n C d_MM_left_4 rfl rfl ?_
      refine z_bipush (v := 10) C d_MM_left_5 (by decide) ?_
      refine z_icmp_ge 34 C d_MM_left_7 (by decide) (fun c7 => ?_) (fun c7 => ?_)
      · refine z_iload_n C d_MM_left_34 rfl rfl ?_
        refine z_iret C d_MM_left_35 ?_
        exact hp
      · exact absurd (by decide) c7
    | succ j ih =>
      intro i acc hi hp
      rw [cnt] at hp
      refine z_iload_n C d_MM_left_4 rfl rfl ?_
      refine z_bipush (v := 10) C d_MM_left_5 (by decide) ?_
      refine z_icmp_ge 34 C d_MM_left_7 (by decide) (fun c7 => ?_) (fun c7 => ?_)
      · exact absurd c7 (by rw [show (10 : Int32) = nI 10 from rfl]; exact nI_ge (by omega) (by omega))
      · refine z_aload_n C d_MM_left_10 rfl rfl ?_
        refine z_get (ci := 8) (T := T_MM) (N := 29) C d_MM_left_11 28 i_MM rfl (by decide) k_775 (fun _ q => q) (hM.1) (by rfl) ?_
        refine z_iload_n C d_MM_left_14 rfl rfl ?_
        refine z_bipush (v := 10) C d_MM_left_15 (by decide) ?_
        refine z_imul C d_MM_left_17 ?_
        refine z_iload_n C d_MM_left_18 rfl rfl ?_
        refine z_iadd C d_MM_left_19 ?_
        rw [nI10]
        refine z_iald C d_MM_left_20 (hM.a20) (vp_in_nI (by omega) (by decide)) ?_
        rw [nI_clamp (by omega)]
        refine z_iconst (v := (-1)) C d_MM_left_21 (by decide) ?_
        refine z_icmp_ne 28 C d_MM_left_22 (by decide) (fun c22 => ?_) (fun c22 => ?_)
        · rw [show (F 20 (v * 10 + i) == -1) = false from beq_eq_false_iff_ne.mpr c22, if_neg (by decide), Nat.zero_add] at hp
          refine z_iinc C d_MM_left_28 rfl (by decide) rfl ?_
          simp only [List.set, zi1, zim1]
          rw [nI_1]
          refine z_goto 4 C d_MM_left_31 (by decide) ?_
          exact ih (i + 1) acc (by omega) hp
        · rw [show (F 20 (v * 10 + i) == -1) = true from beq_iff_eq.mpr c22, if_pos rfl] at hp
          refine z_iinc C d_MM_left_25 rfl (by decide) rfl ?_
          simp only [List.set, zi1, zim1]
          refine z_iinc C d_MM_left_28 rfl (by decide) rfl ?_
          simp only [List.set, zi1, zim1]
          rw [nI_1, nI_1]
          refine z_goto 4 C d_MM_left_31 (by decide) ?_
          refine ih (i + 1) (acc + 1) (by omega) ?_
          rw [Nat.add_assoc]
          exact hp
  refine z_iconst (v := 0) C d_MM_left_0 (by decide) ?_
  refine z_istore_n C d_MM_left_1 rfl (by decide) rfl ?_
  dsimp only [List.set]
  refine z_iconst (v := 0) C d_MM_left_2 (by decide) ?_
  refine z_istore_n C d_MM_left_3 rfl (by decide) rfl ?_
  dsimp only [List.set]
  exact loop 10 0 0 (by omega) (by rw [Nat.zero_add]; exact k)
theorem cnt_le (P : Nat → Bool) : ∀ (j i : Nat), cnt P i j ≤ j
  | 0, _ => Nat.le_refl _
  | j + 1, i => by
    have := cnt_le P j (i + 1)
    rw [cnt]
    split <;> omega
def onM (S : CS) (F : FT) : Bool := decide (0 < S.ev.length) && decide (0 < cnt (fun q => F 20 ((S.ev.length - 1) * 10 + q) == -1) 0 10)
set_option maxRecDepth 100000 in
theorem ct_MM_isOn (hM : RepM g T h mo A th S F) (hb : S.ev.length ≤ 20) (k : PR (some (.int (bI (onM S F)))) h) : Ct g y_MM_isOn w_MM_isOn 2 0 0 [.ref mo] h PR PX := by
  refine Ct_intro (cc := c_MM_isOn) (nL := 1) (ret := (some FieldType.boolean)) (ls := [some (.ref mo)]) (by decide) (Nat.le_of_ble_eq_true rfl) rfl rfl ?_
  intro p e R s m args below meth c C ht hname
  rw [onM] at k
  refine z_aload_n C d_MM_isOn_0 rfl rfl ?_
  refine z_get (ci := 8) (T := T_MM) (N := 29) C d_MM_isOn_1 26 i_MM rfl (by decide) k_773 (fun _ q => q) (hM.1) (by rfl) ?_
  refine z_if_le 24 C d_MM_isOn_4 (by decide) (fun c4 => ?_) (fun c4 => ?_)
  · have h0 : S.ev.length = 0 := Classical.byContradiction fun q => absurd c4 (nI_nle (Nat.pos_of_ne_zero q) (by omega))
    rw [h0] at k
    refine z_iconst (v := 0) C d_MM_isOn_24 (by decide) ?_
    refine z_zret C d_MM_isOn_25 (by first | rfl | assumption | exact bI_nv _) ?_
    exact k
  · have h0 : 0 < S.ev.length := Nat.pos_of_ne_zero (fun z => c4 (by rw [z]; decide))
    rw [decide_eq_true h0, Bool.true_and] at k
    refine z_aload_n C d_MM_isOn_7 rfl rfl ?_
    refine z_aload_n C d_MM_isOn_8 rfl rfl ?_
    refine z_get (ci := 8) (T := T_MM) (N := 29) C d_MM_isOn_9 26 i_MM rfl (by decide) k_773 (fun _ q => q) (hM.1) (by rfl) ?_
    refine z_iconst (v := 1) C d_MM_isOn_12 (by decide) ?_
    refine z_isub C d_MM_isOn_13 ?_
    rw [znI_pred h0]
    refine z_callV (n := 1) (As := [.int (nI (S.ev.length - 1))]) (rest := []) (r1 := 1) (mc1 := 0) (ms1 := 0) (ci := 8) (T0 := T_MM) C d_MM_isOn_14 k_964 k_961 k_963 ks_39 k_5 (by decide +kernel) rfl rfl (hM.1) (by decide) (by decide) (Nat.le_of_ble_eq_true rfl) (by first | decide | omega) (by first | decide | omega) rfl ?_
    refine ct_MM_left hM (by omega) ?_
    dsimp only [zps]
    have hle := cnt_le (fun q => F 20 ((S.ev.length - 1) * 10 + q) == -1) 10 0
    generalize cnt (fun q => F 20 ((S.ev.length - 1) * 10 + q) == -1) 0 10 = z at k hle ⊢
    refine z_if_le 24 C d_MM_isOn_17 (by decide) (fun c17 => ?_) (fun c17 => ?_)
    · have h1 : z = 0 := Classical.byContradiction fun q => absurd c17 (nI_nle (Nat.pos_of_ne_zero q) (by omega))
      rw [h1] at k
      refine z_iconst (v := 0) C d_MM_isOn_24 (by decide) ?_
      refine z_zret C d_MM_isOn_25 (by first | rfl | assumption | exact bI_nv _) ?_
      exact k
    · have h1 : 0 < z := Nat.pos_of_ne_zero (fun y => c17 (by rw [y]; decide))
      rw [decide_eq_true h1] at k
      refine z_iconst (v := 1) C d_MM_isOn_20 (by decide) ?_
      refine z_goto 25 C d_MM_isOn_21 (by decide) ?_
      refine z_zret C d_MM_isOn_25 (by first | rfl | assumption | exact bI_nv _) ?_
      exact k
set_option maxRecDepth 100000 in
theorem ct_MM_isFull {j0 : Nat} (hM : RepM g T h mo A th S F) (hv : mvR S F) (hb : S.ps.length ≤ 60) (hj : j0 < 10) (hh : ∀ (i : Nat) (e : PeT), S.ps[i]? = some e → e.1 = wasF (nI i) S.sec S.mv.reverse) (hg : F 0 j0 = S.gf j0) (k : PR (some (.int (bI (dmB S.gf S.ps j0)))) h) : Ct g y_MM_isFull w_MM_isFull 3 0 0 [.ref mo, .int (nI j0)] h PR PX := by
  rw [dmB, Bool.or_comm] at k
  refine Ct_intro (cc := c_MM_isFull) (nL := 3) (ret := (some FieldType.boolean)) (ls := [some (.ref mo), some (.int (nI j0)), none]) (by decide) (Nat.le_of_ble_eq_true rfl) rfl rfl ?_
  intro p e R s m args below meth c C ht hname
  have loop : ∀ (j i : Nat), i + j = S.ps.length → PR (some (.int (bI ((S.ps.drop i).any (fun e => e.1 == nI j0) || decide (0 < S.gf j0))))) h → Z g 3 0 0 p e R s m args below meth c (vx_MQ below (zQ g PR) (zX g PX) args s 0 0 (zA g)) 0 0 2 [some (.ref mo), some (.int (nI j0)), some (.int (nI i))] [] h := by
    intro j
    induction j with
    | zero =>
      intro i hi hp
      have : i = S.ps.length := by omega
      subst this
      rw [List.drop_length, List.any_nil, Bool.false_or] at hp
      refine z_iload_n C d_MM_isFull_2 rfl rfl ?_
      refine z_aload_n C d_MM_isFull_3 rfl rfl ?_
      refine z_get (ci := 8) (T := T_MM) (N := 29) C d_MM_isFull_4 2 i_MM rfl (by decide) k_749 (fun _ q => q) (hM.1) (by rfl) ?_
      refine z_icmp_ge 27 C d_MM_isFull_7 (by decide) (fun c7 => ?_) (fun c7 => ?_)
      · refine z_aload_n C d_MM_isFull_27 rfl rfl ?_
        refine z_get (ci := 8) (T := T_MM) (N := 29) C d_MM_isFull_28 3 i_MM rfl (by decide) k_750 (fun _ q => q) (hM.1) (by rfl) ?_
        refine z_iload_n C d_MM_isFull_31 rfl rfl ?_
        refine z_iald C d_MM_isFull_32 (hM.a0) (vp_in_nI (by omega) (by decide)) ?_
        rw [nI_clamp (by omega), hg]
        refine z_if_le 40 C d_MM_isFull_33 (by decide) (fun c33 => ?_) (fun c33 => ?_)
        · rw [decide_eq_false (Int32.not_lt.mpr c33)] at hp
          refine z_iconst (v := 0) C d_MM_isFull_40 (by decide) ?_
          refine z_zret C d_MM_isFull_41 (by first | rfl | assumption | exact bI_nv _) ?_
          exact hp
        · rw [decide_eq_true (Int32.not_le.mp c33)] at hp
          refine z_iconst (v := 1) C d_MM_isFull_36 (by decide) ?_
          refine z_goto 41 C d_MM_isFull_37 (by decide) ?_
          refine z_zret C d_MM_isFull_41 (by first | rfl | assumption | exact bI_nv _) ?_
          exact hp
      · exact absurd (Int32.le_refl _) c7
    | succ j ih =>
      intro i hi hp
      obtain ⟨e0, he, hd⟩ := zdrop (l := S.ps) (k := i) (by omega)
      rw [hd, List.any_cons] at hp
      refine z_iload_n C d_MM_isFull_2 rfl rfl ?_
      refine z_aload_n C d_MM_isFull_3 rfl rfl ?_
      refine z_get (ci := 8) (T := T_MM) (N := 29) C d_MM_isFull_4 2 i_MM rfl (by decide) k_749 (fun _ q => q) (hM.1) (by rfl) ?_
      refine z_icmp_ge 27 C d_MM_isFull_7 (by decide) (fun c7 => ?_) (fun c7 => ?_)
      · exact absurd c7 (nI_ge (by omega) (by omega))
      · refine z_aload_n C d_MM_isFull_10 rfl rfl ?_
        refine z_iload_n C d_MM_isFull_11 rfl rfl ?_
        refine z_callV (n := 1) (As := [.int (nI i)]) (rest := []) (r1 := 2) (mc1 := 0) (ms1 := 0) (ci := 8) (T0 := T_MM) C d_MM_isFull_12 k_864 k_861 k_863 ks_27 k_5 (by decide +kernel) rfl rfl (hM.1) (by decide) (by decide) (Nat.le_of_ble_eq_true rfl) (by first | decide | omega) (by first | decide | omega) rfl ?_
        refine ct_MM_here hM hv ?_
        dsimp only [zps]
        rw [← hh i e0 he]
        refine z_iload_n C d_MM_isFull_15 rfl rfl ?_
        refine z_icmp_ne 21 C d_MM_isFull_16 (by decide) (fun c16 => ?_) (fun c16 => ?_)
        · rw [show (e0.1 == nI j0) = false from beq_eq_false_iff_ne.mpr c16, Bool.false_or] at hp
          refine z_iinc C d_MM_isFull_21 rfl (by decide) rfl ?_
          simp only [List.set, zi1, zim1]
          rw [nI_1]
          refine z_goto 2 C d_MM_isFull_24 (by decide) ?_
          exact ih (i + 1) (by omega) hp
        · rw [show (e0.1 == nI j0) = true from beq_iff_eq.mpr c16, Bool.true_or, Bool.true_or] at hp
          refine z_iconst (v := 1) C d_MM_isFull_19 (by decide) ?_
          refine z_zret C d_MM_isFull_20 (by first | rfl | assumption | exact bI_nv _) ?_
          exact hp
  refine z_iconst (v := 0) C d_MM_isFull_0 (by decide) ?_
  refine z_istore_n C d_MM_isFull_1 rfl (by decide) rfl ?_
  dsimp only [List.set]
  exact loop S.ps.length 0 (by omega) k
def ltM (S : CS) (F : FT) (v i : Nat) : Bool := if F 20 (v * 10 + i) = -1 then decide (F 19 v < S.sec) else decide (F 19 v < F 20 (v * 10 + i))
set_option maxRecDepth 100000 in
theorem ct_MM_isLate {v i : Nat} (hM : RepM g T h mo A th S F) (hr : v < 20) (hi : i < 10) (k : PR (some (.int (bI (ltM S F v i)))) h) : Ct g y_MM_isLate w_MM_isLate 1 0 0 [.ref mo, .int (nI v), .int (nI i)] h PR PX := by
  rw [ltM] at k
  refine Ct_intro (cc := c_MM_isLate) (nL := 4) (ret := (some FieldType.boolean)) (ls := [some (.ref mo), some (.int (nI v)), some (.int (nI i)), none]) (by decide) (Nat.le_of_ble_eq_true rfl) rfl rfl ?_
  intro p e R s m args below meth c C ht hname
  refine z_aload_n C d_MM_isLate_0 rfl rfl ?_
  refine z_get (ci := 8) (T := T_MM) (N := 29) C d_MM_isLate_1 28 i_MM rfl (by decide) k_775 (fun _ q => q) (hM.1) (by rfl) ?_
  refine z_iload_n C d_MM_isLate_4 rfl rfl ?_
  refine z_bipush (v := 10) C d_MM_isLate_5 (by decide) ?_
  refine z_imul C d_MM_isLate_7 ?_
  refine z_iload_n C d_MM_isLate_8 rfl rfl ?_
  refine z_iadd C d_MM_isLate_9 ?_
  rw [nI10]
  refine z_iald C d_MM_isLate_10 (hM.a20) (vp_in_nI (by omega) (by decide)) ?_
  rw [nI_clamp (by omega)]
  refine z_istore_n C d_MM_isLate_11 rfl (by decide) rfl ?_
  dsimp only [List.set]
  refine z_iload_n C d_MM_isLate_12 rfl rfl ?_
  refine z_iconst (v := (-1)) C d_MM_isLate_13 (by decide) ?_
  refine z_icmp_ne 38 C d_MM_isLate_14 (by decide) (fun c14 => ?_) (fun c14 => ?_)
  · rw [if_neg c14] at k
    refine z_iload_n C d_MM_isLate_38 rfl rfl ?_
    refine z_aload_n C d_MM_isLate_39 rfl rfl ?_
    refine z_get (ci := 8) (T := T_MM) (N := 29) C d_MM_isLate_40 27 i_MM rfl (by decide) k_774 (fun _ q => q) (hM.1) (by rfl) ?_
    refine z_iload_n C d_MM_isLate_43 rfl rfl ?_
    refine z_iald C d_MM_isLate_44 (hM.a19) (vp_in_nI (by omega) (by decide)) ?_
    rw [nI_clamp (by omega)]
    refine z_icmp_le 52 C d_MM_isLate_45 (by decide) (fun c45 => ?_) (fun c45 => ?_)
    · rw [decide_eq_false (Int32.not_lt.mpr c45)] at k
      refine z_iconst (v := 0) C d_MM_isLate_52 (by decide) ?_
      refine z_zret C d_MM_isLate_53 (by first | rfl | assumption | exact bI_nv _) ?_
      exact k
    · rw [decide_eq_true (Int32.not_le.mp c45)] at k
      refine z_iconst (v := 1) C d_MM_isLate_48 (by decide) ?_
      refine z_goto 53 C d_MM_isLate_49 (by decide) ?_
      refine z_zret C d_MM_isLate_53 (by first | rfl | assumption | exact bI_nv _) ?_
      exact k
  · rw [if_pos c14] at k
    refine z_aload_n C d_MM_isLate_17 rfl rfl ?_
    refine z_get (ci := 8) (T := T_MM) (N := 29) C d_MM_isLate_18 1 i_MM rfl (by decide) k_748 (fun _ q => q) (hM.1) (by rfl) ?_
    refine z_aload_n C d_MM_isLate_21 rfl rfl ?_
    refine z_get (ci := 8) (T := T_MM) (N := 29) C d_MM_isLate_22 27 i_MM rfl (by decide) k_774 (fun _ q => q) (hM.1) (by rfl) ?_
    refine z_iload_n C d_MM_isLate_25 rfl rfl ?_
    refine z_iald C d_MM_isLate_26 (hM.a19) (vp_in_nI (by omega) (by decide)) ?_
    rw [nI_clamp (by omega)]
    refine z_icmp_le 34 C d_MM_isLate_27 (by decide) (fun c27 => ?_) (fun c27 => ?_)
    · rw [decide_eq_false (Int32.not_lt.mpr c27)] at k
      refine z_iconst (v := 0) C d_MM_isLate_34 (by decide) ?_
      refine z_goto 53 C d_MM_isLate_35 (by decide) ?_
      refine z_zret C d_MM_isLate_53 (by first | rfl | assumption | exact bI_nv _) ?_
      exact k
    · rw [decide_eq_true (Int32.not_le.mp c27)] at k
      refine z_iconst (v := 1) C d_MM_isLate_30 (by decide) ?_
      refine z_goto 53 C d_MM_isLate_31 (by decide) ?_
      refine z_zret C d_MM_isLate_53 (by first | rfl | assumption | exact bI_nv _) ?_
      exact k
end MX
