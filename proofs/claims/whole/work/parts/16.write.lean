/-! sendToLowestWaiting, askThoseInside, demandConfirmations -/
def sendL (t : Int32) : List MdT → List MdT
  | [] => []
  | e :: l => if e.op ≠ 0 ∧ e.tm = -1 then (e.1, e.2.1, e.2.2.1, e.2.2.2.1, t) :: l else e :: sendL t l
/-- is this person asked by a roll of sector sc -/
def asB (sc : Int32) (e : PeT) : Bool := e.1 != -1 && decide (sc = -1 ∨ sc = e.1)
def asF (sc : Int32) : (Nat → Int32) → Nat → List PeT → (Nat → Int32)
  | f, _, [] => f
  | f, i, e :: l => asF sc (if asB sc e = true then upd f i (-1) else f) (i + 1) l
def asN (sc : Int32) : Int32 → List PeT → Int32
  | a, [] => a
  | a, e :: l => asN sc (if asB sc e = true then a + 1 else a) l
/-- guests asked: j sectors from i on -/
def gaS (sc : Int32) (gf : Nat → Int32) : Nat → Nat → Int32 → Int32
  | _, 0, a => a
  | i, j + 1, a => gaS sc gf (i + 1) j (if sc = -1 ∨ sc = nI i then a + gf i else a)
def dmB (gf : Nat → Int32) (ps : List PeT) (i : Nat) : Bool := decide (0 < gf i) || ps.any (fun e => e.1 == nI i)
def dmF (gf : Nat → Int32) (ps : List PeT) : Nat → Nat → (Nat → Int32) → (Nat → Int32)
  | _, 0, f => f
  | i, j + 1, f => dmF gf ps (i + 1) j (if dmB gf ps i = true then upd f i 1 else f)
def dmN (gf : Nat → Int32) (ps : List PeT) : Nat → Nat → Int32 → Int32
  | _, 0, a => a
  | i, j + 1, a => dmN gf ps (i + 1) j (if dmB gf ps i = true then a + 1 else a)
theorem ztake {α : Type} {l : List α} {i : Nat} {e : α} (he : l[i]? = some e) (X : List α) : l.take i ++ e :: X = l.take (i + 1) ++ X := by
  have hi := (List.getElem?_eq_some_iff.mp he).1
  rw [List.take_add_one, he]
  simp
theorem zset {α : Type} {l : List α} {i : Nat} (hi : i < l.length) (e : α) : l.set i e = l.take i ++ e :: l.drop (i + 1) := List.set_eq_take_append_cons_drop.trans (by rw [if_pos hi])
theorem tne {T : Tg} {a b k1 i1 k2 i2 : Nat} (ha : T a = (k1, i1)) (hb : T b = (k2, i2)) (hk : k1 ≠ k2) : a ≠ b := by
  rintro rfl
  rw [ha] at hb
  exact hk (congrArg Prod.fst hb)
theorem tk {T : Tg} {a k1 i1 kd : Nat} (ha : T a = (k1, i1)) (hk : k1 ≠ kd) : (T a).1 ≠ kd := by
  rw [ha]
  exact hk
section RK
variable {g : zG} {T : Tg} {h : Hp} {PR : Option Value → Hp → Prop} {PX : String → Hp → Prop} {x gu lp lm lr ld ly le : Nat} {sec : Int32} {LP LM LR LD LY LE : List Nat}
set_option maxRecDepth 100000 in
theorem ct_RC_sendToLowestWaiting {l : List MdT} {t : Int32} (hx : h x = some (rcC gu lp lm lr ld ly le sec)) (hL : zLS g T h 5 ly LY (l.map mdE)) (k : ∀ h1 : Hp, zLS g T h1 5 ly LY ((sendL t l).map mdE) → (∀ q, (T q).1 ≠ 5 → h1 q = h q) → (∀ q, h q ≠ none → h1 q ≠ none) → PR none h1) : Ct g y_RC_sendToLowestWaiting w_RC_sendToLowestWaiting 4 0 0 [.ref x, .int t] h PR PX := by
  have hlt := hL.lt
  rw [List.length_map] at hlt
  obtain ⟨vs, hvs⟩ := hL.obj
  refine Ct_intro (cc := c_RC_sendToLowestWaiting) (nL := 4) (ret := none) (ls := [some (.ref x), some (.int t), none, none]) (by decide) (Nat.le_of_ble_eq_true rfl) rfl rfl ?_
  intro p e R s m args below meth c C ht hname
  have loop : ∀ (j i : Nat) (z3 : Option Value), i + j = l.length → (∀ h1 : Hp, zLS g T h1 5 ly LY ((l.take i ++ sendL t (l.drop i)).map mdE) → (∀ q, (T q).1 ≠ 5 → h1 q = h q) → (∀ q, h q ≠ none → h1 q ≠ none) → PR none h1) → Z g 4 0 0 p e R s m args below meth c (vx_MQ below (zQ g PR) (zX g PX) args s 0 0 (zA g)) 0 0 2 [some (.ref x), some (.int t), some (.int (nI i)), z3] [] h := by
    intro j
    induction j with
    | zero =>
      intro i z3 hi hp
      have : i = l.length := by omega
      subst this
      rw [List.drop_length, List.take_length] at hp
      refine z_iload_n C d_RC_sendToLowestWaiting_2 rfl rfl ?_
      refine z_aload_n C d_RC_sendToLowestWaiting_3 rfl rfl ?_
      refine z_get (ci := 7) (T := T_RC) (N := 8) C d_RC_sendToLowestWaiting_4 5 i_RC rfl (by decide) k_65 (fun _ q => q) (by first | assumption | exact zu_s) (by rfl) ?_
      refine z_callV (n := 0) (As := []) (rest := [.int (nI l.length)]) (r1 := 1) (mc1 := 0) (ms1 := 0) (ci := 0) (T0 := T_AL) C d_RC_sendToLowestWaiting_7 k_96 k_93 k_94 k_95 k_4 (by decide +kernel) rfl rfl (by first | assumption | exact zu_s) (by decide) (by decide) (Nat.le_of_ble_eq_true rfl) (by first | decide | omega) (by first | decide | omega) rfl ?_
      refine cl_size hL ?_
      dsimp only [zps]
      rw [List.length_map]
      refine z_icmp_ge 52 C d_RC_sendToLowestWaiting_10 (by decide) (fun c10 => ?_) (fun c10 => ?_)
      · refine z_vret C d_RC_sendToLowestWaiting_52 ?_
        refine hp h ?_ (fun _ _ => rfl) (fun _ q => q)
        rw [sendL, List.append_nil]
        exact hL
      · exact absurd (Int32.le_refl _) c10
    | succ j ih =>
      intro i z3 hi hp
      obtain ⟨e0, he, hd⟩ := zdrop (l := l) (k := i) (by omega)
      rw [hd, sendL] at hp
      obtain ⟨y, hy, hye, hyT⟩ := hL.atm he
      refine z_iload_n C d_RC_sendToLowestWaiting_2 rfl rfl ?_
      refine z_aload_n C d_RC_sendToLowestWaiting_3 rfl rfl ?_
      refine z_get (ci := 7) (T := T_RC) (N := 8) C d_RC_sendToLowestWaiting_4 5 i_RC rfl (by decide) k_65 (fun _ q => q) (by first | assumption | exact zu_s) (by rfl) ?_
      refine z_callV (n := 0) (As := []) (rest := [.int (nI i)]) (r1 := 1) (mc1 := 0) (ms1 := 0) (ci := 0) (T0 := T_AL) C d_RC_sendToLowestWaiting_7 k_96 k_93 k_94 k_95 k_4 (by decide +kernel) rfl rfl (by first | assumption | exact zu_s) (by decide) (by decide) (Nat.le_of_ble_eq_true rfl) (by first | decide | omega) (by first | decide | omega) rfl ?_
      refine cl_size hL ?_
      dsimp only [zps]
      rw [List.length_map]
      refine z_icmp_ge 52 C d_RC_sendToLowestWaiting_10 (by decide) (fun c10 => ?_) (fun c10 => ?_)
      · exact absurd c10 (nI_ge (by omega) (by omega))
      · refine z_aload_n C d_RC_sendToLowestWaiting_13 rfl rfl ?_
        refine z_get (ci := 7) (T := T_RC) (N := 8) C d_RC_sendToLowestWaiting_14 5 i_RC rfl (by decide) k_65 (fun _ q => q) (by first | assumption | exact zu_s) (by rfl) ?_
        refine z_iload_n C d_RC_sendToLowestWaiting_17 rfl rfl ?_
        refine z_callV (n := 1) (As := [.int (nI i)]) (rest := []) (r1 := 3) (mc1 := 0) (ms1 := 0) (ci := 0) (T0 := T_AL) C d_RC_sendToLowestWaiting_18 k_277 k_274 k_275 k_276 k_4 (by decide +kernel) rfl rfl (by first | assumption | exact zu_s) (by decide) (by decide) (Nat.le_of_ble_eq_true rfl) (by first | decide | omega) (by first | decide | omega) rfl ?_
        refine cl_get hL hy ?_
        dsimp only [zps]
        refine z_cast (ci := 5) C d_RC_sendToLowestWaiting_21 rfl k_388 hye ?_
        refine z_astore_n C d_RC_sendToLowestWaiting_24 rfl (by decide) rfl ?_
        dsimp only [List.set]
        refine z_aload_n C d_RC_sendToLowestWaiting_25 rfl rfl ?_
        refine z_get (ci := 5) (T := T_MD) (N := 5) C d_RC_sendToLowestWaiting_26 3 i_MD rfl (by decide) k_593 (fun _ q => q) hye (by rfl) ?_
        refine z_if_eq 46 C d_RC_sendToLowestWaiting_29 (by decide) (fun c29 => ?_) (fun c29 => ?_)
        · rw [if_neg (fun z => z.1 c29), ztake he] at hp
          refine z_iinc C d_RC_sendToLowestWaiting_46 rfl (by decide) rfl ?_
          simp only [List.set, zi1, zim1]
          rw [nI_1]
          refine z_goto 2 C d_RC_sendToLowestWaiting_49 (by decide) ?_
          exact ih (i + 1) _ (by omega) hp
        · refine z_aload_n C d_RC_sendToLowestWaiting_32 rfl rfl ?_
          refine z_get (ci := 5) (T := T_MD) (N := 5) C d_RC_sendToLowestWaiting_33 4 i_MD rfl (by decide) k_595 (fun _ q => q) hye (by rfl) ?_
          refine z_iconst (v := (-1)) C d_RC_sendToLowestWaiting_36 (by decide) ?_
          refine z_icmp_ne 46 C d_RC_sendToLowestWaiting_37 (by decide) (fun c37 => ?_) (fun c37 => ?_)
          · rw [if_neg (fun z => c37 z.2), ztake he] at hp
            refine z_iinc C d_RC_sendToLowestWaiting_46 rfl (by decide) rfl ?_
            simp only [List.set, zi1, zim1]
            rw [nI_1]
            refine z_goto 2 C d_RC_sendToLowestWaiting_49 (by decide) ?_
            exact ih (i + 1) _ (by omega) hp
          · rw [if_pos ⟨c29, c37⟩] at hp
            refine z_aload_n C d_RC_sendToLowestWaiting_40 rfl rfl ?_
            refine z_iload_n C d_RC_sendToLowestWaiting_41 rfl rfl ?_
            refine z_put (ci := 5) (T := T_MD) (N := 5) (ty := .int) C d_RC_sendToLowestWaiting_42 4 ty_MD t_MD n_MD i_MD rfl (by decide) k_595 (fun _ q => q) rfl (by decide +kernel) (by rfl) (by rfl) hye (by exact Nat.le_of_ble_eq_true rfl) ?_
            dsimp only [List.set]
            refine z_vret C d_RC_sendToLowestWaiting_45 ?_
            refine hp _ ?_ (fun q hq => zu_n (fun z => hq (by rw [z, hyT]))) (fun q hq => ?_)
            · have h9 := hL.set (e := mdE (e0.1, e0.2.1, e0.2.2.1, e0.2.2.2.1, t)) hy
              rw [← List.map_set, zset (by omega)] at h9
              exact h9
            · by_cases hqy : q = y
              · rw [hqy, zu_s]; exact fun z => by cases z
              · rw [zu_n hqy]; exact hq
  refine z_iconst (v := 0) C d_RC_sendToLowestWaiting_0 (by decide) ?_
  refine z_istore_n C d_RC_sendToLowestWaiting_1 rfl (by decide) rfl ?_
  dsimp only [List.set]
  exact loop l.length 0 none (by omega) (by rw [List.drop_zero, List.take_zero, List.nil_append]; exact k)
set_option maxRecDepth 100000 in
theorem ct_RC_askThoseInside {ps : List PeT} {gf f : Nat → Int32} {y ct n i3 i7 : Nat} {num sc rd as co ga gs st mi : Int32} (hx : h x = some (rcC gu lp lm lr ld ly le sec)) (hxT : T x = (10, 0)) (hL : zLS g T h 1 lp LP (ps.map peE)) (hgu : h gu = some (ia g 10 gf)) (hguT : T gu = (10, 1)) (hy : h y = some (roC num sc ct rd as co ga gs st mi)) (hyT : T y = (3, i3)) (hct : h ct = some (ia g n f)) (hctT : T ct = (7, i7)) (hn : n ≤ 60) (hnp : ps.length = n)
    (k : PR none (zu (zu h ct (ia g n (asF sc f 0 ps))) y (roC num sc ct rd (asN sc as ps) co (gaS sc gf 0 10 ga) gs st mi))) : Ct g y_RC_askThoseInside w_RC_askThoseInside 4 0 0 [.ref x, .ref y] h PR PX := by
  have hlt := hL.lt
  rw [List.length_map] at hlt
  have nyc : y ≠ ct := tne hyT hctT (by decide)
  have nxy : x ≠ y := tne hxT hyT (by decide)
  have nxc : x ≠ ct := tne hxT hctT (by decide)
  have ngy : gu ≠ y := tne hguT hyT (by decide)
  have ngc : gu ≠ ct := tne hguT hctT (by decide)
  refine Ct_intro (cc := c_RC_askThoseInside) (nL := 4) (ret := none) (ls := [some (.ref x), some (.ref y), none, none]) (by decide) (Nat.le_of_ble_eq_true rfl) rfl rfl ?_
  intro p e R s m args below meth c C ht hname
  have loop2 : ∀ (j i : Nat) (z3 : Option Value) (ga0 a0 : Int32) (f0 : Nat → Int32), i + j = 10 → PR none (zu (zu h ct (ia g n f0)) y (roC num sc ct rd a0 co (gaS sc gf i j ga0) gs st mi)) → Z g 4 0 0 p e R s m args below meth c (vx_MQ below (zQ g PR) (zX g PX) args s 0 0 (zA g)) 0 0 54 [some (.ref x), some (.ref y), some (.int (nI i)), z3] [] (zu (zu h ct (ia g n f0)) y (roC num sc ct rd a0 co ga0 gs st mi)) := by
    intro j
    induction j with
    | zero =>
      intro i z3 ga0 a0 f0 hi hp
      have : i = 10 := by omega
      subst this
      refine z_iload_n C d_RC_askThoseInside_54 rfl rfl ?_
      refine z_bipush (v := 10) C d_RC_askThoseInside_55 (by decide) ?_
      refine z_icmp_ge 89 C d_RC_askThoseInside_57 (by decide) (fun c57 => ?_) (fun c57 => ?_)
      · refine z_vret C d_RC_askThoseInside_89 ?_
        exact hp
      · exact absurd (by decide) c57
    | succ j ih =>
      intro i z3 ga0 a0 f0 hi hp
      rw [gaS] at hp
      refine z_iload_n C d_RC_askThoseInside_54 rfl rfl ?_
      refine z_bipush (v := 10) C d_RC_askThoseInside_55 (by decide) ?_
      refine z_icmp_ge 89 C d_RC_askThoseInside_57 (by decide) (fun c57 => ?_) (fun c57 => ?_)
      · exact absurd c57 (by rw [show (10 : Int32) = nI 10 from rfl]; exact nI_ge (by omega) (by omega))
      · refine z_aload_n C d_RC_askThoseInside_60 rfl rfl ?_
        refine z_iload_n C d_RC_askThoseInside_61 rfl rfl ?_
        refine z_callV (n := 1) (As := [.int (nI i)]) (rest := []) (r1 := 1) (mc1 := 0) (ms1 := 0) (ci := 3) (T0 := T_RO) C d_RC_askThoseInside_62 k_383 k_380 k_381 k_382 k_21 (by decide +kernel) rfl rfl zu_s (by decide) (by decide) (Nat.le_of_ble_eq_true rfl) (by first | decide | omega) (by first | decide | omega) rfl ?_
        refine ct_RO_asksSector zu_s ?_
        dsimp only [zps]
        have ex : zu (zu h ct (ia g n f0)) y (roC num sc ct rd a0 co ga0 gs st mi) x = some (rcC gu lp lm lr ld ly le sec) := by rw [zu_n nxy, zu_n nxc]; exact hx
        have eg : zu (zu h ct (ia g n f0)) y (roC num sc ct rd a0 co ga0 gs st mi) gu = some (ia g 10 gf) := by rw [zu_n ngy, zu_n ngc]; exact hgu
        by_cases ha : sc = -1 ∨ sc = nI i
        · rw [if_pos ha] at hp ⊢
          refine z_if_eq 83 C d_RC_askThoseInside_65 (by decide) (fun c65 => ?_) (fun c65 => ?_)
          · exact absurd c65 (by decide)
          · refine z_aload_n C d_RC_askThoseInside_68 rfl rfl ?_
            refine z_dup C d_RC_askThoseInside_69 rfl ?_
            refine z_get (ci := 3) (T := T_RO) (N := 10) C d_RC_askThoseInside_70 6 i_RO rfl (by decide) k_411 (fun _ q => q) zu_s (by rfl) ?_
            refine z_aload_n C d_RC_askThoseInside_73 rfl rfl ?_
            refine z_get (ci := 7) (T := T_RC) (N := 8) C d_RC_askThoseInside_74 0 i_RC rfl (by decide) k_60 (fun _ q => q) ex (by rfl) ?_
            refine z_iload_n C d_RC_askThoseInside_77 rfl rfl ?_
            refine z_iald C d_RC_askThoseInside_78 eg (vp_in_nI (by omega) (by omega)) ?_
            rw [nI_clamp (by omega)]
            refine z_iadd C d_RC_askThoseInside_79 ?_
            refine z_put (ci := 3) (T := T_RO) (N := 10) (ty := .int) C d_RC_askThoseInside_80 6 ty_RO t_RO n_RO i_RO rfl (by decide) k_411 (fun _ q => q) rfl (by decide +kernel) (by rfl) (by rfl) zu_s (by exact Nat.le_of_ble_eq_true rfl) ?_
            dsimp only [List.set]
            rw [zu_zu]
            refine z_iinc C d_RC_askThoseInside_83 rfl (by decide) rfl ?_
            simp only [List.set, zi1, zim1]
            rw [nI_1]
            refine z_goto 54 C d_RC_askThoseInside_86 (by decide) ?_
            exact ih (i + 1) z3 _ a0 f0 (by omega) hp
        · rw [if_neg ha] at hp ⊢
          refine z_if_eq 83 C d_RC_askThoseInside_65 (by decide) (fun c65 => ?_) (fun c65 => ?_)
          · refine z_iinc C d_RC_askThoseInside_83 rfl (by decide) rfl ?_
            simp only [List.set, zi1, zim1]
            rw [nI_1]
            refine z_goto 54 C d_RC_askThoseInside_86 (by decide) ?_
            exact ih (i + 1) z3 _ a0 f0 (by omega) hp
          · exact absurd rfl c65
  have loop : ∀ (j i : Nat) (z3 : Option Value) (a0 : Int32) (f0 : Nat → Int32), i + j = ps.length → PR none (zu (zu h ct (ia g n (asF sc f0 i (ps.drop i)))) y (roC num sc ct rd (asN sc a0 (ps.drop i)) co (gaS sc gf 0 10 ga) gs st mi)) → Z g 4 0 0 p e R s m args below meth c (vx_MQ below (zQ g PR) (zX g PX) args s 0 0 (zA g)) 0 0 2 [some (.ref x), some (.ref y), some (.int (nI i)), z3] [] (zu (zu h ct (ia g n f0)) y (roC num sc ct rd a0 co ga gs st mi)) := by
    intro j
    induction j with
    | zero =>
      intro i z3 a0 f0 hi hp
      have : i = ps.length := by omega
      subst this
      rw [List.drop_length, asF, asN] at hp
      have ex : zu (zu h ct (ia g n f0)) y (roC num sc ct rd a0 co ga gs st mi) x = some (rcC gu lp lm lr ld ly le sec) := by rw [zu_n nxy, zu_n nxc]; exact hx
      have hL1 : zLS g T (zu (zu h ct (ia g n f0)) y (roC num sc ct rd a0 co ga gs st mi)) 1 lp LP (ps.map peE) := (hL.put (tk hctT (by decide))).put (tk hyT (by decide))
      obtain ⟨vs, hvs⟩ := hL1.obj
      refine z_iload_n C d_RC_askThoseInside_2 rfl rfl ?_
      refine z_aload_n C d_RC_askThoseInside_3 rfl rfl ?_
      refine z_get (ci := 7) (T := T_RC) (N := 8) C d_RC_askThoseInside_4 1 i_RC rfl (by decide) k_61 (fun _ q => q) (by first | assumption | exact zu_s) (by rfl) ?_
      refine z_callV (n := 0) (As := []) (rest := [.int (nI ps.length)]) (r1 := 1) (mc1 := 0) (ms1 := 0) (ci := 0) (T0 := T_AL) C d_RC_askThoseInside_7 k_96 k_93 k_94 k_95 k_4 (by decide +kernel) rfl rfl (by first | assumption | exact zu_s) (by decide) (by decide) (Nat.le_of_ble_eq_true rfl) (by first | decide | omega) (by first | decide | omega) rfl ?_
      refine cl_size hL1 ?_
      dsimp only [zps]
      rw [List.length_map]
      refine z_icmp_ge 52 C d_RC_askThoseInside_10 (by decide) (fun c10 => ?_) (fun c10 => ?_)
      · refine z_iconst (v := 0) C d_RC_askThoseInside_52 (by decide) ?_
        refine z_istore_n C d_RC_askThoseInside_53 rfl (by decide) rfl ?_
        dsimp only [List.set]
        exact loop2 10 0 z3 ga a0 f0 (by omega) hp
      · exact absurd (Int32.le_refl _) c10
    | succ j ih =>
      intro i z3 a0 f0 hi hp
      obtain ⟨e0, he, hd⟩ := zdrop (l := ps) (k := i) (by omega)
      rw [hd, asF, asN] at hp
      have ex : zu (zu h ct (ia g n f0)) y (roC num sc ct rd a0 co ga gs st mi) x = some (rcC gu lp lm lr ld ly le sec) := by rw [zu_n nxy, zu_n nxc]; exact hx
      have ec : zu (zu h ct (ia g n f0)) y (roC num sc ct rd a0 co ga gs st mi) ct = some (ia g n f0) := by rw [zu_n nyc.symm, zu_s]
      have hL1 : zLS g T (zu (zu h ct (ia g n f0)) y (roC num sc ct rd a0 co ga gs st mi)) 1 lp LP (ps.map peE) := (hL.put (tk hctT (by decide))).put (tk hyT (by decide))
      obtain ⟨vs, hvs⟩ := hL1.obj
      obtain ⟨y1, hy1, hye, hyT1⟩ := hL1.atm he
      refine z_iload_n C d_RC_askThoseInside_2 rfl rfl ?_
      refine z_aload_n C d_RC_askThoseInside_3 rfl rfl ?_
      refine z_get (ci := 7) (T := T_RC) (N := 8) C d_RC_askThoseInside_4 1 i_RC rfl (by decide) k_61 (fun _ q => q) (by first | assumption | exact zu_s) (by rfl) ?_
      refine z_callV (n := 0) (As := []) (rest := [.int (nI i)]) (r1 := 1) (mc1 := 0) (ms1 := 0) (ci := 0) (T0 := T_AL) C d_RC_askThoseInside_7 k_96 k_93 k_94 k_95 k_4 (by decide +kernel) rfl rfl (by first | assumption | exact zu_s) (by decide) (by decide) (Nat.le_of_ble_eq_true rfl) (by first | decide | omega) (by first | decide | omega) rfl ?_
      refine cl_size hL1 ?_
      dsimp only [zps]
      rw [List.length_map]
      refine z_icmp_ge 52 C d_RC_askThoseInside_10 (by decide) (fun c10 => ?_) (fun c10 => ?_)
      · exact absurd c10 (nI_ge (by omega) (by omega))
      · refine z_aload_n C d_RC_askThoseInside_13 rfl rfl ?_
        refine z_get (ci := 7) (T := T_RC) (N := 8) C d_RC_askThoseInside_14 1 i_RC rfl (by decide) k_61 (fun _ q => q) (by first | assumption | exact zu_s) (by rfl) ?_
        refine z_iload_n C d_RC_askThoseInside_17 rfl rfl ?_
        refine z_callV (n := 1) (As := [.int (nI i)]) (rest := []) (r1 := 3) (mc1 := 0) (ms1 := 0) (ci := 0) (T0 := T_AL) C d_RC_askThoseInside_18 k_277 k_274 k_275 k_276 k_4 (by decide +kernel) rfl rfl (by first | assumption | exact zu_s) (by decide) (by decide) (Nat.le_of_ble_eq_true rfl) (by first | decide | omega) (by first | decide | omega) rfl ?_
        refine cl_get hL1 hy1 ?_
        dsimp only [zps]
        refine z_cast (ci := 1) C d_RC_askThoseInside_21 rfl k_166 hye ?_
        refine z_get (ci := 1) (T := T_PE) (N := 3) C d_RC_askThoseInside_24 0 i_PE rfl (by decide) k_173 (fun _ q => q) hye (by rfl) ?_
        refine z_istore_n C d_RC_askThoseInside_27 rfl (by decide) rfl ?_
        dsimp only [List.set]
        refine z_iload_n C d_RC_askThoseInside_28 rfl rfl ?_
        refine z_iconst (v := (-1)) C d_RC_askThoseInside_29 (by decide) ?_
        refine z_icmp_eq 46 C d_RC_askThoseInside_30 (by decide) (fun c30 => ?_) (fun c30 => ?_)
        · have hb : asB sc e0 = false := by unfold asB; rw [show (e0.1 != -1) = false from by simpa using c30]; rfl
          rw [hb, if_neg (by decide), if_neg (by decide)] at hp
          refine z_iinc C d_RC_askThoseInside_46 rfl (by decide) rfl ?_
          simp only [List.set, zi1, zim1]
          rw [nI_1]
          refine z_goto 2 C d_RC_askThoseInside_49 (by decide) ?_
          exact ih (i + 1) _ a0 f0 (by omega) hp
        · refine z_aload_n C d_RC_askThoseInside_33 rfl rfl ?_
          refine z_iload_n C d_RC_askThoseInside_34 rfl rfl ?_
          refine z_callV (n := 1) (As := [.int e0.1]) (rest := []) (r1 := 1) (mc1 := 0) (ms1 := 0) (ci := 3) (T0 := T_RO) C d_RC_askThoseInside_35 k_383 k_380 k_381 k_382 k_21 (by decide +kernel) rfl rfl zu_s (by decide) (by decide) (Nat.le_of_ble_eq_true rfl) (by first | decide | omega) (by first | decide | omega) rfl ?_
          refine ct_RO_asksSector zu_s ?_
          dsimp only [zps]
          by_cases ha : sc = -1 ∨ sc = e0.1
          · rw [if_pos ha]
            have hb : asB sc e0 = true := by unfold asB; rw [show (e0.1 != -1) = true from by simpa using c30, decide_eq_true ha]; rfl
            rw [hb, if_pos rfl, if_pos rfl] at hp
            refine z_if_eq 46 C d_RC_askThoseInside_38 (by decide) (fun c38 => ?_) (fun c38 => ?_)
            · exact absurd c38 (by decide)
            · refine z_aload_n C d_RC_askThoseInside_41 rfl rfl ?_
              refine z_iload_n C d_RC_askThoseInside_42 rfl rfl ?_
              refine z_callV (n := 1) (As := [.int (nI i)]) (rest := []) (r1 := 1) (mc1 := 0) (ms1 := 0) (ci := 3) (T0 := T_RO) C d_RC_askThoseInside_43 k_443 k_440 k_441 k_442 k_21 (by decide +kernel) rfl rfl zu_s (by decide) (by decide) (Nat.le_of_ble_eq_true rfl) (by first | decide | omega) (by first | decide | omega) rfl ?_
              refine ct_RO_askPerson zu_s ec hn (by omega) nyc ?_
              dsimp only [zps]
              refine z_iinc C d_RC_askThoseInside_46 rfl (by decide) rfl ?_
              simp only [List.set, zi1, zim1]
              rw [nI_1]
              refine z_goto 2 C d_RC_askThoseInside_49 (by decide) ?_
              rw [zu_sw nyc, zu_zu, zu_zu]
              exact ih (i + 1) _ _ _ (by omega) hp
          · rw [if_neg ha]
            have hb : asB sc e0 = false := by unfold asB; rw [decide_eq_false ha, Bool.and_false]
            rw [hb, if_neg (by decide), if_neg (by decide)] at hp
            refine z_if_eq 46 C d_RC_askThoseInside_38 (by decide) (fun c38 => ?_) (fun c38 => ?_)
            · refine z_iinc C d_RC_askThoseInside_46 rfl (by decide) rfl ?_
              simp only [List.set, zi1, zim1]
              rw [nI_1]
              refine z_goto 2 C d_RC_askThoseInside_49 (by decide) ?_
              exact ih (i + 1) _ a0 f0 (by omega) hp
            · exact absurd rfl c38
  refine z_iconst (v := 0) C d_RC_askThoseInside_0 (by decide) ?_
  refine z_istore_n C d_RC_askThoseInside_1 rfl (by decide) rfl ?_
  dsimp only [List.set]
  have h9 := loop ps.length 0 none as f (by omega) (by rw [List.drop_zero]; exact k)
  have e0 : zu (zu h ct (ia g n f)) y (roC num sc ct rd as co ga gs st mi) = h := by
    funext q
    by_cases hq : q = y
    · subst hq; rw [zu_s, hy]
    · rw [zu_n hq]
      by_cases hq2 : q = ct
      · subst hq2; rw [zu_s, hct]
      · rw [zu_n hq2]
  rw [e0] at h9
  exact h9
set_option maxRecDepth 100000 in
theorem ct_RC_demandConfirmations {ps : List PeT} {gf fm : Nat → Int32} {y mu lt i6 i8 : Nat} {ls lf told : Int32} (hx : h x = some (rcC gu lp lm lr ld ly le sec)) (hxT : T x = (10, 0)) (hL : zLS g T h 1 lp LP (ps.map peE)) (hgu : h gu = some (ia g 10 gf)) (hguT : T gu = (10, 1)) (hy : h y = some (evC ls mu lt lf told)) (hyT : T y = (6, i6)) (hmu : h mu = some (ba g 10 fm)) (hmuT : T mu = (8, i8))
    (k : PR none (zu (zu h mu (ba g 10 (dmF gf ps 0 10 fm))) y (evC ls mu lt (dmN gf ps 0 10 lf) told))) : Ct g y_RC_demandConfirmations w_RC_demandConfirmations 5 0 0 [.ref x, .ref y] h PR PX := by
  have nym : y ≠ mu := tne hyT hmuT (by decide)
  have nxy : x ≠ y := tne hxT hyT (by decide)
  have nxm : x ≠ mu := tne hxT hmuT (by decide)
  have ngy : gu ≠ y := tne hguT hyT (by decide)
  have ngm : gu ≠ mu := tne hguT hmuT (by decide)
  refine Ct_intro (cc := c_RC_demandConfirmations) (nL := 3) (ret := none) (ls := [some (.ref x), some (.ref y), none]) (by decide) (Nat.le_of_ble_eq_true rfl) rfl rfl ?_
  intro p e R s m args below meth c C ht hname
  have loop : ∀ (j i : Nat) (a0 : Int32) (f0 : Nat → Int32), i + j = 10 → PR none (zu (zu h mu (ba g 10 (dmF gf ps i j f0))) y (evC ls mu lt (dmN gf ps i j a0) told)) → Z g 3 0 0 p e R s m args below meth c (vx_MQ below (zQ g PR) (zX g PX) args s 0 0 (zA g)) 0 0 2 [some (.ref x), some (.ref y), some (.int (nI i))] [] (zu (zu h mu (ba g 10 f0)) y (evC ls mu lt a0 told)) := by
    intro j
    induction j with
    | zero =>
      intro i a0 f0 hi hp
      have : i = 10 := by omega
      subst this
      refine z_iload_n C d_RC_demandConfirmations_2 rfl rfl ?_
      refine z_bipush (v := 10) C d_RC_demandConfirmations_3 (by decide) ?_
      refine z_icmp_ge 48 C d_RC_demandConfirmations_5 (by decide) (fun c5 => ?_) (fun c5 => ?_)
      · refine z_vret C d_RC_demandConfirmations_48 ?_
        exact hp
      · exact absurd (by decide) c5
    | succ j ih =>
      intro i a0 f0 hi hp
      rw [dmF, dmN] at hp
      have ex : zu (zu h mu (ba g 10 f0)) y (evC ls mu lt a0 told) x = some (rcC gu lp lm lr ld ly le sec) := by rw [zu_n nxy, zu_n nxm]; exact hx
      have eg : zu (zu h mu (ba g 10 f0)) y (evC ls mu lt a0 told) gu = some (ia g 10 gf) := by rw [zu_n ngy, zu_n ngm]; exact hgu
      have em : zu (zu h mu (ba g 10 f0)) y (evC ls mu lt a0 told) mu = some (ba g 10 f0) := by rw [zu_n nym.symm, zu_s]
      have hL1 : zLS g T (zu (zu h mu (ba g 10 f0)) y (evC ls mu lt a0 told)) 1 lp LP (ps.map peE) := (hL.put (tk hmuT (by decide))).put (tk hyT (by decide))
      have yes : dmB gf ps i = true → Z g 3 0 0 p e R s m args below meth c (vx_MQ below (zQ g PR) (zX g PX) args s 0 0 (zA g)) 0 0 25 [some (.ref x), some (.ref y), some (.int (nI i))] [] (zu (zu h mu (ba g 10 f0)) y (evC ls mu lt a0 told)) := by
        intro hb
        rw [hb, if_pos rfl, if_pos rfl] at hp
        refine z_aload_n C d_RC_demandConfirmations_25 rfl rfl ?_
        refine z_get (ci := 6) (T := T_EV) (N := 5) C d_RC_demandConfirmations_26 1 i_EV rfl (by decide) k_661 (fun _ q => q) zu_s (by rfl) ?_
        refine z_iload_n C d_RC_demandConfirmations_29 rfl rfl ?_
        refine z_iconst (v := 1) C d_RC_demandConfirmations_30 (by decide) ?_
        refine z_zast C d_RC_demandConfirmations_31 em (vp_in_nI (by omega) (by omega)) (by first | rfl | assumption) ?_
        rw [nI_clamp (by omega)]
        have e1 : zu (zu (zu h mu (ba g 10 f0)) y (evC ls mu lt a0 told)) mu (ba g 10 (upd f0 i 1)) y = some (evC ls mu lt a0 told) := by rw [zu_n nym, zu_s]
        refine z_aload_n C d_RC_demandConfirmations_32 rfl rfl ?_
        refine z_dup C d_RC_demandConfirmations_33 rfl ?_
        refine z_get (ci := 6) (T := T_EV) (N := 5) C d_RC_demandConfirmations_34 3 i_EV rfl (by decide) k_665 (fun _ q => q) e1 (by rfl) ?_
        refine z_iconst (v := 1) C d_RC_demandConfirmations_37 (by decide) ?_
        refine z_iadd C d_RC_demandConfirmations_38 ?_
        refine z_put (ci := 6) (T := T_EV) (N := 5) (ty := .int) C d_RC_demandConfirmations_39 3 ty_EV t_EV n_EV i_EV rfl (by decide) k_665 (fun _ q => q) rfl (by decide +kernel) (by rfl) (by rfl) e1 (by exact Nat.le_of_ble_eq_true rfl) ?_
        dsimp only [List.set]
        refine z_iinc C d_RC_demandConfirmations_42 rfl (by decide) rfl ?_
        simp only [List.set, zi1, zim1]
        rw [nI_1]
        refine z_goto 2 C d_RC_demandConfirmations_45 (by decide) ?_
        rw [zu_sw nym, zu_zu, zu_zu]
        exact ih (i + 1) _ _ (by omega) hp
      refine z_iload_n C d_RC_demandConfirmations_2 rfl rfl ?_
      refine z_bipush (v := 10) C d_RC_demandConfirmations_3 (by decide) ?_
      refine z_icmp_ge 48 C d_RC_demandConfirmations_5 (by decide) (fun c5 => ?_) (fun c5 => ?_)
      · exact absurd c5 (by rw [show (10 : Int32) = nI 10 from rfl]; exact nI_ge (by omega) (by omega))
      · refine z_aload_n C d_RC_demandConfirmations_8 rfl rfl ?_
        refine z_get (ci := 7) (T := T_RC) (N := 8) C d_RC_demandConfirmations_9 0 i_RC rfl (by decide) k_60 (fun _ q => q) ex (by rfl) ?_
        refine z_iload_n C d_RC_demandConfirmations_12 rfl rfl ?_
        refine z_iald C d_RC_demandConfirmations_13 eg (vp_in_nI (by omega) (by omega)) ?_
        rw [nI_clamp (by omega)]
        refine z_if_gt 25 C d_RC_demandConfirmations_14 (by decide) (fun c14 => ?_) (fun c14 => ?_)
        · refine yes ?_
          unfold dmB
          rw [decide_eq_true c14, Bool.true_or]
        · refine z_aload_n C d_RC_demandConfirmations_17 rfl rfl ?_
          refine z_iload_n C d_RC_demandConfirmations_18 rfl rfl ?_
          refine z_callV (n := 1) (As := [.int (nI i)]) (rest := []) (r1 := 4) (mc1 := 0) (ms1 := 0) (ci := 7) (T0 := T_RC) C d_RC_demandConfirmations_19 k_686 k_683 k_685 ks_22 k_1 (by decide +kernel) rfl rfl (by first | assumption | exact zu_s) (by decide) (by decide) (Nat.le_of_ble_eq_true rfl) (by first | decide | omega) (by first | decide | omega) rfl ?_
          refine ct_RC_isSomebodyIn ex hL1 ?_
          dsimp only [zps]
          cases hs : ps.any (fun e => e.1 == nI i) with
          | false =>
            have hb : dmB gf ps i = false := by unfold dmB; rw [decide_eq_false c14, hs]; rfl
            rw [hb, if_neg (by decide), if_neg (by decide)] at hp
            rw [if_neg (by decide)]
            refine z_if_eq 42 C d_RC_demandConfirmations_22 (by decide) (fun c22 => ?_) (fun c22 => ?_)
            · refine z_iinc C d_RC_demandConfirmations_42 rfl (by decide) rfl ?_
              simp only [List.set, zi1, zim1]
              rw [nI_1]
              refine z_goto 2 C d_RC_demandConfirmations_45 (by decide) ?_
              exact ih (i + 1) _ _ (by omega) hp
            · exact absurd rfl c22
          | true =>
            rw [if_pos rfl]
            refine z_if_eq 42 C d_RC_demandConfirmations_22 (by decide) (fun c22 => ?_) (fun c22 => ?_)
            · exact absurd c22 (by decide)
            · refine yes ?_
              unfold dmB
              rw [hs, Bool.or_true]
  refine z_iconst (v := 0) C d_RC_demandConfirmations_0 (by decide) ?_
  refine z_istore_n C d_RC_demandConfirmations_1 rfl (by decide) rfl ?_
  dsimp only [List.set]
  have h9 := loop 10 0 lf fm (by omega) k
  have e0 : zu (zu h mu (ba g 10 fm)) y (evC ls mu lt lf told) = h := by
    funext q
    by_cases hq : q = y
    · subst hq; rw [zu_s, hy]
    · rw [zu_n hq]
      by_cases hq2 : q = mu
      · subst hq2; rw [zu_s, hmu]
      · rw [zu_n hq2]
  rw [e0] at h9
  exact h9
end RK
