/-! the reference's roll -/
theorem sF_4 {F : FT} {a b : Nat} {f f1 k k1 : Nat → Int32} : sF (sF (sF (sF F a f) b k) a f1) b k1 = sF (sF F a f1) b k1 := by
  funext i
  unfold sF
  by_cases h1 : i = b
  · rw [if_pos h1, if_pos h1]
  · rw [if_neg h1, if_neg h1]
    by_cases h2 : i = a
    · rw [if_pos h2, if_pos h2, if_neg h1]
    · rw [if_neg h2, if_neg h2, if_neg h1, if_neg h2]
theorem upd_upd (f : Nat → Int32) (n : Nat) (a b : Int32) : upd (upd f n a) n b = upd f n b := by
  funext q
  unfold upd
  split <;> rfl
theorem upd_id (f : Nat → Int32) (n : Nat) : upd f n (f n) = f := by
  funext q
  unfold upd
  split
  · next h => rw [h]
  · rfl
def hI (ps : List PeT) (i : Nat) : Int32 := match ps[i]? with
  | some e => e.1
  | none => -1
def asM (ps : List PeT) (a : Int32) (i : Nat) : Bool := !decide (hI ps i < 0) && (a == -1 || hI ps i == a)
def roC1 (a : Int32) (e : RoT) : Bool := decide (e.rd < 3) && (a == -1 || decide (e.1.2 = -1 ∨ e.1.2 = a))
abbrev rl1 (S : CS) (F : FT) (a : Int32) : FT := sF (sF F 4 (upd (F 4) S.ro.length a)) 6 (upd (F 6) S.ro.length (nI S.mv.length))
abbrev rl2 (S : CS) (F : FT) (a : Int32) (i : Nat) : FT := sF (sF (rl1 S F a) 10 (fil (F 10) (S.ro.length * 60) i (fun q => bI (asM S.ps a q)))) 11 (fil (F 11) (S.ro.length * 60) i (fun _ => -1))
abbrev rl3 (S : CS) (F : FT) (a v : Int32) : FT := sF (rl2 S F a 60) 7 (upd (F 7) S.ro.length v)
abbrev rlF (S : CS) (F : FT) (a : Int32) : FT := sF (rl3 S F a (gaS a S.gf 0 10 (F 7 S.ro.length))) 5 (upd (F 5) S.ro.length (if anyN (asM S.ps a) 0 60 = true ∨ 0 < gaS a S.gf 0 10 (F 7 S.ro.length) then 1 else 3))
section NC
variable {g : zG} {T : Tg} {h : Hp} {PR : Option Value → Hp → Prop} {PX : String → Hp → Prop} {mo : Nat} {A : Nat → Nat} {th : Int32} {S : CS} {F : FT}
set_option maxRecDepth 100000 in
theorem ct_MM_roll {a : Int32} (hM : RepM g T h mo A th S F) (hv : mvR S F) (hb : S.ps.length ≤ 60) (hb2 : S.ro.length ≤ 40) (hb3 : S.md.length ≤ 30) (hmd : ∀ (i : Nat) (e : MdT), S.md[i]? = some e → F 14 i = e.op) (hro : ∀ (i : Nat) (r : RoT), S.ro[i]? = some r → F 5 i = r.rd ∧ F 4 i = r.1.2) (hh : ∀ (i : Nat) (e : PeT), S.ps[i]? = some e → e.1 = wasF (nI i) S.sec S.mv.reverse) (hg : ∀ j, j < 10 → F 0 j = S.gf j)
    (kf : ∀ kn st rm, kn = (a == -1 || inN a 10) → st = (decide (S.md.countP (fun e => e.op ≠ 0) = 0) && !S.ro.any (roC1 a)) → rm = decide (S.ro.length < 40) → (kn && true && st && rm) = false → ∀ h1, RepM g T h1 mo A (goT 13 kn true st rm) S F → ExM T h h1 → PR (some (.int 0)) h1)
    (ks : (a == -1 || inN a 10) = true → S.md.countP (fun e => e.op ≠ 0) = 0 → S.ro.any (roC1 a) = false → S.ro.length < 40 → ∀ (v : RoT) h1, RepM g T h1 mo A 0 (S.1, S.2.1, S.2.2.1, S.2.2.2.1, S.2.2.2.2.1 ++ [v], S.2.2.2.2.2) (rlF S F a) → ExM T h h1 → PR (some (.int (nI S.ro.length))) h1) (v0 : RoT) : Ct g y_MM_roll w_MM_roll 3 0 0 [.ref mo, .int a] h PR PX := by
  refine Ct_intro (cc := c_MM_roll) (nL := 7) (ret := (some FieldType.int)) (ls := [some (.ref mo), some (.int a), none, none, none, none, none]) (by decide) (Nat.le_of_ble_eq_true rfl) rfl rfl ?_
  intro p e R s m args below meth c C ht hname
  have hcp := List.countP_le_length (l := S.md) (p := fun e => decide (e.op ≠ 0))
  have fin : S.ro.length < 40 → (∀ (v : RoT) h1, RepM g T h1 mo A 0 (S.1, S.2.1, S.2.2.1, S.2.2.2.1, S.2.2.2.2.1 ++ [v], S.2.2.2.2.2) (rlF S F a) → ExM T h h1 → PR (some (.int (nI S.ro.length))) h1) → ∀ (h5 : Hp), RepM g T h5 mo A 0 S (rl3 S F a (gaS a S.gf 0 10 (F 7 S.ro.length))) → ExM T h h5 → ∀ z2 z4 z5 z6, Z g 7 0 0 p e R s m args below meth c (vx_MQ below (zQ g PR) (zX g PX) args s 0 0 (zA g)) 0 0 293 [some (.ref mo), some (.int a), z2, some (.int (bI (anyN (asM S.ps a) 0 60))), z4, z5, z6] [] h5 := by
    intro hl k h5 r1 e1 z2 z4 z5 z6
    have hin : vp_in (nI S.ro.length) 40 := vp_in_nI (by omega) (by decide)
    have hcl : (nI S.ro.length).toNatClampNeg = S.ro.length := nI_clamp (by omega)
    have a7 : h5 (A 7) = some (ia g 40 (upd (F 7) S.ro.length (gaS a S.gf 0 10 (F 7 S.ro.length)))) := r1.a7
    have a5 : h5 (A 5) = some (ia g 40 (F 5)) := r1.a5
    have rest : ∀ w, w = (if anyN (asM S.ps a) 0 60 = true ∨ 0 < gaS a S.gf 0 10 (F 7 S.ro.length) then (1 : Int32) else 3) → Z g 7 0 0 p e R s m args below meth c (vx_MQ below (zQ g PR) (zX g PX) args s 0 0 (zA g)) 0 0 322 [some (.ref mo), some (.int a), z2, some (.int (bI (anyN (asM S.ps a) 0 60))), z4, z5, z6] [.int w, .int (nI S.ro.length), .ref (A 5)] h5 := by
      intro w hw
      subst hw
      refine z_iast C d_MM_roll_322 (a5) hin ?_
      rw [hcl]
      have r2 := r1.put (j := 5) (by decide) (upd (F 5) S.ro.length (if anyN (asM S.ps a) 0 60 = true ∨ 0 < gaS a S.gf 0 10 (F 7 S.ro.length) then 1 else 3))
      have e2 := e1.trans (r1.exP (j := 5) (by decide) (e := mmA g 5 (upd (F 5) S.ro.length (if anyN (asM S.ps a) 0 60 = true ∨ 0 < gaS a S.gf 0 10 (F 7 S.ro.length) then 1 else 3))))
      refine z_aload_n C d_MM_roll_323 rfl rfl ?_
      refine z_dup C d_MM_roll_324 rfl ?_
      refine z_get (ci := 8) (T := T_MM) (N := 29) C d_MM_roll_325 8 i_MM rfl (by decide) k_755 (fun _ q => q) (r2.1) (by rfl) ?_
      refine z_iconst (v := 1) C d_MM_roll_328 (by decide) ?_
      refine z_iadd C d_MM_roll_329 ?_
      refine z_put (ci := 8) (T := T_MM) (N := 29) (ty := .int) C d_MM_roll_330 8 ty_MM t_MM n_MM i_MM rfl (by decide) k_755 (fun _ q => q) rfl (by decide +kernel) (by rfl) (by rfl) (r2.1) (by exact Nat.le_of_ble_eq_true rfl) ?_
      dsimp only [List.set]
      rw [nI_1]
      have r3 := r2.fldE 0 (S.1, S.2.1, S.2.2.1, S.2.2.2.1, S.2.2.2.2.1 ++ [v0], S.2.2.2.2.2) (v := mmK A 0 S.sec (nI S.ps.length) (nI S.mv.length) (nI (S.ro.length + 1)) (nI S.db.length) (nI S.md.length) (nI S.ev.length)) (by unfold mmC CS.ro; rw [la1])
      refine z_aload_n C d_MM_roll_333 rfl rfl ?_
      refine z_get (ci := 8) (T := T_MM) (N := 29) C d_MM_roll_334 8 i_MM rfl (by decide) k_755 (fun _ q => q) (zu_s) (by rfl) ?_
      refine z_iconst (v := 1) C d_MM_roll_337 (by decide) ?_
      refine z_isub C d_MM_roll_338 ?_
      rw [nI_pred]
      refine z_iret C d_MM_roll_339 ?_
      exact k v0 _ r3 (e2.trans r2.exF)
    refine z_aload_n C d_MM_roll_293 rfl rfl ?_
    refine z_get (ci := 8) (T := T_MM) (N := 29) C d_MM_roll_294 10 i_MM rfl (by decide) k_757 (fun _ q => q) (r1.1) (by rfl) ?_
    refine z_aload_n C d_MM_roll_297 rfl rfl ?_
    refine z_get (ci := 8) (T := T_MM) (N := 29) C d_MM_roll_298 8 i_MM rfl (by decide) k_755 (fun _ q => q) (r1.1) (by rfl) ?_
    refine z_iload_n C d_MM_roll_301 rfl rfl ?_
    refine z_if_ne 317 C d_MM_roll_302 (by decide) (fun c302 => ?_) (fun c302 => ?_)
    · refine z_iconst (v := 1) C d_MM_roll_317 (by decide) ?_
      refine z_goto 322 C d_MM_roll_318 (by decide) ?_
      exact rest 1 (by rw [if_pos (Or.inl (bI1 c302))])
    · refine z_aload_n C d_MM_roll_305 rfl rfl ?_
      refine z_get (ci := 8) (T := T_MM) (N := 29) C d_MM_roll_306 12 i_MM rfl (by decide) k_759 (fun _ q => q) (r1.1) (by rfl) ?_
      refine z_aload_n C d_MM_roll_309 rfl rfl ?_
      refine z_get (ci := 8) (T := T_MM) (N := 29) C d_MM_roll_310 8 i_MM rfl (by decide) k_755 (fun _ q => q) (r1.1) (by rfl) ?_
      refine z_iald C d_MM_roll_313 (a7) hin ?_
      rw [hcl, show upd (F 7) S.ro.length (gaS a S.gf 0 10 (F 7 S.ro.length)) S.ro.length = gaS a S.gf 0 10 (F 7 S.ro.length) from if_pos rfl]
      refine z_if_le 321 C d_MM_roll_314 (by decide) (fun c314 => ?_) (fun c314 => ?_)
      · refine z_iconst (v := 3) C d_MM_roll_321 (by decide) ?_
        refine rest 3 ?_
        rw [if_neg]
        rintro (z | z)
        · rw [bI0 c302] at z; cases z
        · exact Int32.not_lt.mpr c314 z
      · refine z_iconst (v := 1) C d_MM_roll_317 (by decide) ?_
        refine z_goto 322 C d_MM_roll_318 (by decide) ?_
        exact rest 1 (by rw [if_pos (Or.inr (Int32.not_le.mp c314))])
  have loop3 : S.ro.length < 40 → (∀ (v : RoT) h1, RepM g T h1 mo A 0 (S.1, S.2.1, S.2.2.1, S.2.2.2.1, S.2.2.2.2.1 ++ [v], S.2.2.2.2.2) (rlF S F a) → ExM T h h1 → PR (some (.int (nI S.ro.length))) h1) → ∀ (z2 z5 z6 : Option Value) (j i : Nat) (acc : Int32) (h5 : Hp), i + j = 10 → RepM g T h5 mo A 0 S (rl3 S F a acc) → ExM T h h5 → gaS a S.gf 0 10 (F 7 S.ro.length) = gaS a S.gf i j acc → Z g 7 0 0 p e R s m args below meth c (vx_MQ below (zQ g PR) (zX g PX) args s 0 0 (zA g)) 0 0 243 [some (.ref mo), some (.int a), z2, some (.int (bI (anyN (asM S.ps a) 0 60))), some (.int (nI i)), z5, z6] [] h5 := by
    intro hl k z2 z5 z6 j
    have hin : vp_in (nI S.ro.length) 40 := vp_in_nI (by omega) (by decide)
    have hcl : (nI S.ro.length).toNatClampNeg = S.ro.length := nI_clamp (by omega)
    induction j with
    | zero =>
      intro i acc h5 hi r1 e1 hs
      have : i = 10 := by omega
      subst this
      rw [show gaS a S.gf 10 0 acc = acc from rfl] at hs
      rw [← hs] at r1
      refine z_iload C d_MM_roll_243 rfl ?_
      refine z_bipush (v := 10) C d_MM_roll_245 (by decide) ?_
      refine z_icmp_ge 293 C d_MM_roll_247 (by decide) (fun c247 => ?_) (fun c247 => ?_)
      · exact fin hl k h5 r1 e1 _ _ _ _
      · exact absurd (by decide) c247
    | succ j ih =>
      intro i acc h5 hi r1 e1 hs
      rw [show gaS a S.gf i (j + 1) acc = gaS a S.gf (i + 1) j (if a = -1 ∨ a = nI i then acc + S.gf i else acc) from rfl] at hs
      have a7 : h5 (A 7) = some (ia g 40 (upd (F 7) S.ro.length acc)) := r1.a7
      have a0 : h5 (A 0) = some (ia g 10 (F 0)) := r1.a0
      have yes : (a = -1 ∨ a = nI i) → Z g 7 0 0 p e R s m args below meth c (vx_MQ below (zQ g PR) (zX g PX) args s 0 0 (zA g)) 0 0 261 [some (.ref mo), some (.int a), z2, some (.int (bI (anyN (asM S.ps a) 0 60))), some (.int (nI i)), z5, z6] [] h5 := by
        intro hy
        rw [if_pos hy] at hs
        refine z_aload_n C d_MM_roll_261 rfl rfl ?_
        refine z_get (ci := 8) (T := T_MM) (N := 29) C d_MM_roll_262 12 i_MM rfl (by decide) k_759 (fun _ q => q) (r1.1) (by rfl) ?_
        refine z_aload_n C d_MM_roll_265 rfl rfl ?_
        refine z_get (ci := 8) (T := T_MM) (N := 29) C d_MM_roll_266 8 i_MM rfl (by decide) k_755 (fun _ q => q) (r1.1) (by rfl) ?_
        refine z_aload_n C d_MM_roll_269 rfl rfl ?_
        refine z_get (ci := 8) (T := T_MM) (N := 29) C d_MM_roll_270 12 i_MM rfl (by decide) k_759 (fun _ q => q) (r1.1) (by rfl) ?_
        refine z_aload_n C d_MM_roll_273 rfl rfl ?_
        refine z_get (ci := 8) (T := T_MM) (N := 29) C d_MM_roll_274 8 i_MM rfl (by decide) k_755 (fun _ q => q) (r1.1) (by rfl) ?_
        refine z_iald C d_MM_roll_277 (a7) hin ?_
        rw [hcl, show upd (F 7) S.ro.length acc S.ro.length = acc from if_pos rfl]
        refine z_aload_n C d_MM_roll_278 rfl rfl ?_
        refine z_get (ci := 8) (T := T_MM) (N := 29) C d_MM_roll_279 3 i_MM rfl (by decide) k_750 (fun _ q => q) (r1.1) (by rfl) ?_
        refine z_iload C d_MM_roll_282 rfl ?_
        refine z_iald C d_MM_roll_284 (a0) (vp_in_nI (by omega) (by decide)) ?_
        rw [nI_clamp (by omega), hg i (by omega)]
        refine z_iadd C d_MM_roll_285 ?_
        refine z_iast C d_MM_roll_286 (a7) hin ?_
        rw [hcl, upd_upd]
        have r2 := r1.put (j := 7) (by decide) (upd (F 7) S.ro.length (acc + S.gf i))
        rw [sF_sF] at r2
        have e2 := e1.trans (r1.exP (j := 7) (by decide) (e := mmA g 7 (upd (F 7) S.ro.length (acc + S.gf i))))
        refine z_iinc C d_MM_roll_287 rfl (by decide) rfl ?_
        simp only [List.set, zi1, zim1]
        rw [nI_1]
        refine z_goto 243 C d_MM_roll_290 (by decide) ?_
        exact ih (i + 1) _ _ (by omega) r2 e2 hs
      refine z_iload C d_MM_roll_243 rfl ?_
      refine z_bipush (v := 10) C d_MM_roll_245 (by decide) ?_
      refine z_icmp_ge 293 C d_MM_roll_247 (by decide) (fun c247 => ?_) (fun c247 => ?_)
      · exact absurd c247 (by rw [show (10 : Int32) = nI 10 from rfl]; exact nI_ge (by omega) (by omega))
      · refine z_iload_n C d_MM_roll_250 rfl rfl ?_
        refine z_iconst (v := (-1)) C d_MM_roll_251 (by decide) ?_
        refine z_icmp_eq 261 C d_MM_roll_252 (by decide) (fun c252 => ?_) (fun c252 => ?_)
        · exact yes (Or.inl c252)
        · refine z_iload C d_MM_roll_255 rfl ?_
          refine z_iload_n C d_MM_roll_257 rfl rfl ?_
          refine z_icmp_ne 287 C d_MM_roll_258 (by decide) (fun c258 => ?_) (fun c258 => ?_)
          · rw [if_neg (fun z => z.elim c252 (fun w => c258 w.symm))] at hs
            refine z_iinc C d_MM_roll_287 rfl (by decide) rfl ?_
            simp only [List.set, zi1, zim1]
            rw [nI_1]
            refine z_goto 243 C d_MM_roll_290 (by decide) ?_
            exact ih (i + 1) acc h5 (by omega) r1 e1 hs
          · have c258' : nI i = a := c258
            exact yes (Or.inr c258'.symm)
  have loop2 : S.ro.length < 40 → (∀ (v : RoT) h1, RepM g T h1 mo A 0 (S.1, S.2.1, S.2.2.1, S.2.2.2.1, S.2.2.2.2.1 ++ [v], S.2.2.2.2.2) (rlF S F a) → ExM T h h1 → PR (some (.int (nI S.ro.length))) h1) → ∀ (z2 : Option Value) (j i : Nat) (h5 : Hp), i + j = 60 → RepM g T h5 mo A 0 S (rl2 S F a i) → ExM T h h5 → ∀ (z5 z6 : Option Value), Z g 7 0 0 p e R s m args below meth c (vx_MQ below (zQ g PR) (zX g PX) args s 0 0 (zA g)) 0 0 138 [some (.ref mo), some (.int a), z2, some (.int (bI (anyN (asM S.ps a) 0 i))), some (.int (nI i)), z5, z6] [] h5 := by
    intro hl k z2 j
    induction j with
    | zero =>
      intro i h5 hi r1 e1 z5 z6
      have : i = 60 := by omega
      subst this
      have r2 : RepM g T h5 mo A 0 S (rl3 S F a (F 7 S.ro.length)) := by
        rw [rl3, upd_id]
        rw [show F 7 = rl2 S F a 60 7 from rfl, sF_id]
        exact r1
      refine z_iload C d_MM_roll_138 rfl ?_
      refine z_bipush (v := 60) C d_MM_roll_140 (by decide) ?_
      refine z_icmp_ge 240 C d_MM_roll_142 (by decide) (fun c142 => ?_) (fun c142 => ?_)
      · refine z_iconst (v := 0) C d_MM_roll_240 (by decide) ?_
        refine z_istore C d_MM_roll_241 (by decide) rfl ?_
        dsimp only [List.set]
        exact loop3 hl k z2 _ _ 10 0 _ h5 (by omega) r2 e1 rfl
      · exact absurd (by decide) c142
    | succ j ih =>
      intro i h5 hi r1 e1 z5 z6
      have ih2 := ih (i + 1)
      rw [anyN_snoc, Nat.zero_add] at ih2
      have hin : vp_in (nI (S.ro.length * 60 + i)) 2400 := vp_in_nI (by omega) (by decide)
      have hcl : (nI (S.ro.length * 60 + i)).toNatClampNeg = S.ro.length * 60 + i := nI_clamp (by omega)
      have a10 : h5 (A 10) = some (ba g 2400 (fil (F 10) (S.ro.length * 60) i (fun q => bI (asM S.ps a q)))) := r1.a10
      have J205 : ∀ w, w = asM S.ps a i → Z g 7 0 0 p e R s m args below meth c (vx_MQ below (zQ g PR) (zX g PX) args s 0 0 (zA g)) 0 0 205 [some (.ref mo), some (.int a), z2, some (.int (bI (anyN (asM S.ps a) 0 i))), some (.int (nI i)), some (.int (nI (S.ro.length * 60 + i))), some (.int (hI S.ps i))] [.int (bI w), .int (nI (S.ro.length * 60 + i)), .ref (A 10)] h5 := by
        intro w hw
        subst hw
        refine z_zast C d_MM_roll_205 (a10) hin (by first | rfl | assumption | exact bI_nar _) ?_
        rw [hcl]
        have e9 : upd (fil (F 10) (S.ro.length * 60) i (fun q => bI (asM S.ps a q))) (S.ro.length * 60 + i) (bI (asM S.ps a i)) = fil (F 10) (S.ro.length * 60) (i + 1) (fun q => bI (asM S.ps a q)) := fil_s (F 10) (S.ro.length * 60) i (fun q => bI (asM S.ps a q))
        rw [e9]
        have r2 := r1.put (j := 10) (by decide) (fil (F 10) (S.ro.length * 60) (i + 1) (fun q => bI (asM S.ps a q)))
        have e2 := e1.trans (r1.exP (j := 10) (by decide) (e := mmA g 10 (fil (F 10) (S.ro.length * 60) (i + 1) (fun q => bI (asM S.ps a q)))))
        have a11 : zu h5 (A 10) (mmA g 10 (fil (F 10) (S.ro.length * 60) (i + 1) (fun q => bI (asM S.ps a q)))) (A 11) = some (ia g 2400 (fil (F 11) (S.ro.length * 60) i (fun _ => -1))) := r2.a11
        refine z_aload_n C d_MM_roll_206 rfl rfl ?_
        refine z_get (ci := 8) (T := T_MM) (N := 29) C d_MM_roll_207 16 i_MM rfl (by decide) k_763 (fun _ q => q) (r2.1) (by rfl) ?_
        refine z_iload C d_MM_roll_210 rfl ?_
        refine z_iconst (v := (-1)) C d_MM_roll_212 (by decide) ?_
        refine z_iast C d_MM_roll_213 (a11) hin ?_
        rw [hcl]
        have e8 : upd (fil (F 11) (S.ro.length * 60) i (fun _ => -1)) (S.ro.length * 60 + i) (-1) = fil (F 11) (S.ro.length * 60) (i + 1) (fun _ => -1) := fil_s (F 11) (S.ro.length * 60) i (fun _ => -1)
        rw [e8]
        have r3 := r2.put (j := 11) (by decide) (fil (F 11) (S.ro.length * 60) (i + 1) (fun _ => -1))
        have e3 := e2.trans (r2.exP (j := 11) (by decide) (e := mmA g 11 (fil (F 11) (S.ro.length * 60) (i + 1) (fun _ => -1))))
        rw [sF_4] at r3
        have a10' : zu (zu h5 (A 10) (mmA g 10 (fil (F 10) (S.ro.length * 60) (i + 1) (fun q => bI (asM S.ps a q))))) (A 11) (mmA g 11 (fil (F 11) (S.ro.length * 60) (i + 1) (fun _ => -1))) (A 10) = some (ba g 2400 (fil (F 10) (S.ro.length * 60) (i + 1) (fun q => bI (asM S.ps a q)))) := r3.a10
        have ih3 := ih2 _ (by omega) r3 e3 (some (.int (nI (S.ro.length * 60 + i)))) (some (.int (hI S.ps i)))
        refine z_iload_n C d_MM_roll_214 rfl rfl ?_
        refine z_if_ne 228 C d_MM_roll_215 (by decide) (fun c215 => ?_) (fun c215 => ?_)
        · rw [bI1 c215, Bool.true_or] at ih3
          refine z_iconst (v := 1) C d_MM_roll_228 (by decide) ?_
          refine z_goto 233 C d_MM_roll_229 (by decide) ?_
          refine z_istore_n C d_MM_roll_233 rfl (by decide) rfl ?_
          dsimp only [List.set]
          refine z_iinc C d_MM_roll_234 rfl (by decide) rfl ?_
          simp only [List.set, zi1, zim1]
          rw [nI_1]
          refine z_goto 138 C d_MM_roll_237 (by decide) ?_
          exact ih3
        · rw [bI0 c215, Bool.false_or] at ih3
          refine z_aload_n C d_MM_roll_218 rfl rfl ?_
          refine z_get (ci := 8) (T := T_MM) (N := 29) C d_MM_roll_219 15 i_MM rfl (by decide) k_762 (fun _ q => q) (r3.1) (by rfl) ?_
          refine z_iload C d_MM_roll_222 rfl ?_
          refine z_zald C d_MM_roll_224 (a10') hin ?_
          rw [hcl, show fil (F 10) (S.ro.length * 60) (i + 1) (fun q => bI (asM S.ps a q)) (S.ro.length * 60 + i) = bI (asM S.ps a i) from by
            unfold fil
            rw [if_pos (by omega), show S.ro.length * 60 + i - S.ro.length * 60 = i from by omega]]
          refine z_if_eq 232 C d_MM_roll_225 (by decide) (fun c225 => ?_) (fun c225 => ?_)
          · rw [bI0 c225] at ih3
            refine z_iconst (v := 0) C d_MM_roll_232 (by decide) ?_
            refine z_istore_n C d_MM_roll_233 rfl (by decide) rfl ?_
            dsimp only [List.set]
            refine z_iinc C d_MM_roll_234 rfl (by decide) rfl ?_
            simp only [List.set, zi1, zim1]
            rw [nI_1]
            refine z_goto 138 C d_MM_roll_237 (by decide) ?_
            exact ih3
          · rw [bI1 c225] at ih3
            refine z_iconst (v := 1) C d_MM_roll_228 (by decide) ?_
            refine z_goto 233 C d_MM_roll_229 (by decide) ?_
            refine z_istore_n C d_MM_roll_233 rfl (by decide) rfl ?_
            dsimp only [List.set]
            refine z_iinc C d_MM_roll_234 rfl (by decide) rfl ?_
            simp only [List.set, zi1, zim1]
            rw [nI_1]
            refine z_goto 138 C d_MM_roll_237 (by decide) ?_
            exact ih3
      have J176 : Z g 7 0 0 p e R s m args below meth c (vx_MQ below (zQ g PR) (zX g PX) args s 0 0 (zA g)) 0 0 176 [some (.ref mo), some (.int a), z2, some (.int (bI (anyN (asM S.ps a) 0 i))), some (.int (nI i)), some (.int (nI (S.ro.length * 60 + i))), z6] [.int (hI S.ps i)] h5 := by
        refine z_istore C d_MM_roll_176 (by decide) rfl ?_
        dsimp only [List.set]
        refine z_aload_n C d_MM_roll_178 rfl rfl ?_
        refine z_get (ci := 8) (T := T_MM) (N := 29) C d_MM_roll_179 15 i_MM rfl (by decide) k_762 (fun _ q => q) (r1.1) (by rfl) ?_
        refine z_iload C d_MM_roll_182 rfl ?_
        refine z_iload C d_MM_roll_184 rfl ?_
        refine z_if_lt 204 C d_MM_roll_186 (by decide) (fun c186 => ?_) (fun c186 => ?_)
        · refine z_iconst (v := 0) C d_MM_roll_204 (by decide) ?_
          exact J205 false (by rw [asM, decide_eq_true c186]; rfl)
        · refine z_iload_n C d_MM_roll_189 rfl rfl ?_
          refine z_iconst (v := (-1)) C d_MM_roll_190 (by decide) ?_
          refine z_icmp_eq 200 C d_MM_roll_191 (by decide) (fun c191 => ?_) (fun c191 => ?_)
          · refine z_iconst (v := 1) C d_MM_roll_200 (by decide) ?_
            refine z_goto 205 C d_MM_roll_201 (by decide) ?_
            exact J205 true (by rw [asM, decide_eq_false c186, show (a == -1) = true from beq_iff_eq.mpr c191]; rfl)
          · refine z_iload C d_MM_roll_194 rfl ?_
            refine z_iload_n C d_MM_roll_196 rfl rfl ?_
            refine z_icmp_ne 204 C d_MM_roll_197 (by decide) (fun c197 => ?_) (fun c197 => ?_)
            · refine z_iconst (v := 0) C d_MM_roll_204 (by decide) ?_
              exact J205 false (by rw [asM, show (hI S.ps i == a) = false from beq_eq_false_iff_ne.mpr c197, show (a == -1) = false from beq_eq_false_iff_ne.mpr c191]; rw [Bool.or_false, Bool.and_false])
            · refine z_iconst (v := 1) C d_MM_roll_200 (by decide) ?_
              refine z_goto 205 C d_MM_roll_201 (by decide) ?_
              exact J205 true (by rw [asM, decide_eq_false c186, show (hI S.ps i == a) = true from beq_iff_eq.mpr c197, Bool.or_true]; rfl)
      refine z_iload C d_MM_roll_138 rfl ?_
      refine z_bipush (v := 60) C d_MM_roll_140 (by decide) ?_
      refine z_icmp_ge 240 C d_MM_roll_142 (by decide) (fun c142 => ?_) (fun c142 => ?_)
      · exact absurd c142 (by rw [show (60 : Int32) = nI 60 from rfl]; exact nI_ge (by omega) (by omega))
      · refine z_aload_n C d_MM_roll_145 rfl rfl ?_
        refine z_get (ci := 8) (T := T_MM) (N := 29) C d_MM_roll_146 8 i_MM rfl (by decide) k_755 (fun _ q => q) (r1.1) (by rfl) ?_
        refine z_bipush (v := 60) C d_MM_roll_149 (by decide) ?_
        refine z_imul C d_MM_roll_151 ?_
        refine z_iload C d_MM_roll_152 rfl ?_
        refine z_iadd C d_MM_roll_154 ?_
        rw [nI60]
        refine z_istore C d_MM_roll_155 (by decide) rfl ?_
        dsimp only [List.set]
        refine z_iload C d_MM_roll_157 rfl ?_
        refine z_aload_n C d_MM_roll_159 rfl rfl ?_
        refine z_get (ci := 8) (T := T_MM) (N := 29) C d_MM_roll_160 2 i_MM rfl (by decide) k_749 (fun _ q => q) (r1.1) (by rfl) ?_
        refine z_icmp_ge 175 C d_MM_roll_163 (by decide) (fun c163 => ?_) (fun c163 => ?_)
        · have hnp : S.ps.length ≤ i := by
            rcases Nat.lt_or_ge i S.ps.length with z | z
            · exact absurd c163 (nI_ge z (by omega))
            · exact z
          rw [hI, List.getElem?_eq_none hnp] at J176
          refine z_iconst (v := (-1)) C d_MM_roll_175 (by decide) ?_
          exact J176
        · have hnp : i < S.ps.length := (nI_ltI (by omega) (by omega)).mp (Int32.not_le.mp c163)
          obtain ⟨e0, he⟩ : ∃ e0, S.ps[i]? = some e0 := ⟨_, List.getElem?_eq_getElem hnp⟩
          rw [hI, he] at J176
          dsimp only at J176
          rw [hh i e0 he] at J176
          refine z_aload_n C d_MM_roll_166 rfl rfl ?_
          refine z_iload C d_MM_roll_167 rfl ?_
          refine z_callV (n := 1) (As := [.int (nI i)]) (rest := []) (r1 := 2) (mc1 := 0) (ms1 := 0) (ci := 8) (T0 := T_MM) C d_MM_roll_169 k_864 k_861 k_863 ks_27 k_5 (by decide +kernel) rfl rfl (r1.1) (by decide) (by decide) (Nat.le_of_ble_eq_true rfl) (by first | decide | omega) (by first | decide | omega) rfl ?_
          refine ct_MM_here r1 hv ?_
          dsimp only [zps]
          refine z_goto 176 C d_MM_roll_172 (by decide) ?_
          exact J176
  have J102 : ∀ kn st rm, kn = (a == -1 || inN a 10) → st = (decide (S.md.countP (fun e => e.op ≠ 0) = 0) && !S.ro.any (roC1 a)) → rm = decide (S.ro.length < 40) → ∀ z2 z3, Z g 7 0 0 p e R s m args below meth c (vx_MQ below (zQ g PR) (zX g PX) args s 0 0 (zA g)) 0 0 102 [some (.ref mo), some (.int a), z2, z3, none, none, none] [.int (bI rm), .int (bI st), .int 1, .int (bI kn), .int 13, .ref mo] h := by
    intro kn st rm h1 h2 h3 z2 z3
    refine z_callV (n := 5) (As := [.int 13, .int (bI kn), .int 1, .int (bI st), .int (bI rm)]) (rest := []) (r1 := 1) (mc1 := 0) (ms1 := 0) (ci := 8) (T0 := T_MM) C d_MM_roll_102 k_846 k_843 k_845 ks_25 k_5 (by decide +kernel) rfl rfl (hM.1) (by decide) (by decide) (Nat.le_of_ble_eq_true rfl) (by first | decide | omega) (by first | decide | omega) rfl ?_
    refine ct_MM_goes (kn := kn) (rg := true) (st := st) (rm := rm) hM (fun h5 r1 e1 => ?_)
    dsimp only [zps]
    refine z_if_ne 110 C d_MM_roll_105 (by decide) (fun c105 => ?_) (fun c105 => ?_)
    · obtain ⟨g1, -, g3, g4⟩ := b4f (bI1 c105)
      subst g1 g3 g4
      have i1 := (Bool.and_eq_true_iff.mp h2.symm)
      have hl : S.ro.length < 40 := of_decide_eq_true h3.symm
      have q2 : S.ro.any (roC1 a) = false := by
        cases hq : S.ro.any (roC1 a) with
        | false => rfl
        | true => rw [hq] at i1; exact absurd i1.2 (by decide)
      have k := ks h1.symm (of_decide_eq_true i1.1) q2 hl
      have hin : vp_in (nI S.ro.length) 40 := vp_in_nI (by omega) (by decide)
      have hcl : (nI S.ro.length).toNatClampNeg = S.ro.length := nI_clamp (by omega)
      refine z_aload_n C d_MM_roll_110 rfl rfl ?_
      refine z_get (ci := 8) (T := T_MM) (N := 29) C d_MM_roll_111 9 i_MM rfl (by decide) k_756 (fun _ q => q) (r1.1) (by rfl) ?_
      refine z_aload_n C d_MM_roll_114 rfl rfl ?_
      refine z_get (ci := 8) (T := T_MM) (N := 29) C d_MM_roll_115 8 i_MM rfl (by decide) k_755 (fun _ q => q) (r1.1) (by rfl) ?_
      refine z_iload_n C d_MM_roll_118 rfl rfl ?_
      refine z_iast C d_MM_roll_119 (r1.a4) hin ?_
      rw [hcl]
      have r2 := r1.put (j := 4) (by decide) (upd (F 4) S.ro.length a)
      have e2 := e1.trans (r1.exP (j := 4) (by decide) (e := mmA g 4 (upd (F 4) S.ro.length a)))
      refine z_aload_n C d_MM_roll_120 rfl rfl ?_
      refine z_get (ci := 8) (T := T_MM) (N := 29) C d_MM_roll_121 11 i_MM rfl (by decide) k_758 (fun _ q => q) (r2.1) (by rfl) ?_
      refine z_aload_n C d_MM_roll_124 rfl rfl ?_
      refine z_get (ci := 8) (T := T_MM) (N := 29) C d_MM_roll_125 8 i_MM rfl (by decide) k_755 (fun _ q => q) (r2.1) (by rfl) ?_
      refine z_aload_n C d_MM_roll_128 rfl rfl ?_
      refine z_get (ci := 8) (T := T_MM) (N := 29) C d_MM_roll_129 4 i_MM rfl (by decide) k_751 (fun _ q => q) (r2.1) (by rfl) ?_
      refine z_iast C d_MM_roll_132 (r2.a6) hin ?_
      rw [hcl]
      have r3 := r2.put (j := 6) (by decide) (upd (F 6) S.ro.length (nI S.mv.length))
      have e3 := e2.trans (r2.exP (j := 6) (by decide) (e := mmA g 6 (upd (F 6) S.ro.length (nI S.mv.length))))
      have r4 : RepM g T (zu (zu h5 (A 4) (mmA g 4 (upd (F 4) S.ro.length a))) (A 6) (mmA g 6 (upd (F 6) S.ro.length (nI S.mv.length)))) mo A 0 S (rl2 S F a 0) := by
        rw [rl2, fil_0, fil_0]
        rw [show F 10 = rl1 S F a 10 from rfl, sF_id, show F 11 = rl1 S F a 11 from rfl, sF_id]
        exact r3
      refine z_iconst (v := 0) C d_MM_roll_133 (by decide) ?_
      refine z_istore_n C d_MM_roll_134 rfl (by decide) rfl ?_
      dsimp only [List.set]
      refine z_iconst (v := 0) C d_MM_roll_135 (by decide) ?_
      refine z_istore C d_MM_roll_136 (by decide) rfl ?_
      dsimp only [List.set]
      exact loop2 hl k _ 60 0 _ (by omega) r4 e3 _ _
    · refine z_iconst (v := 0) C d_MM_roll_108 (by decide) ?_
      refine z_iret C d_MM_roll_109 ?_
      exact kf kn st rm h1 h2 h3 (bI0 c105) h5 r1 e1
  have J86 : ∀ kn st, kn = (a == -1 || inN a 10) → st = (decide (S.md.countP (fun e => e.op ≠ 0) = 0) && !S.ro.any (roC1 a)) → ∀ z3, Z g 7 0 0 p e R s m args below meth c (vx_MQ below (zQ g PR) (zX g PX) args s 0 0 (zA g)) 0 0 86 [some (.ref mo), some (.int a), some (.int (bI st)), z3, none, none, none] [.int (bI kn), .int 13, .ref mo] h := by
    intro kn st h1 h2 z3
    refine z_iconst (v := 1) C d_MM_roll_86 (by decide) ?_
    refine z_iload_n C d_MM_roll_87 rfl rfl ?_
    refine z_aload_n C d_MM_roll_88 rfl rfl ?_
    refine z_get (ci := 8) (T := T_MM) (N := 29) C d_MM_roll_89 8 i_MM rfl (by decide) k_755 (fun _ q => q) (hM.1) (by rfl) ?_
    refine z_bipush (v := 40) C d_MM_roll_92 (by decide) ?_
    refine z_icmp_ge 101 C d_MM_roll_94 (by decide) (fun c94 => ?_) (fun c94 => ?_)
    · refine z_iconst (v := 0) C d_MM_roll_101 (by decide) ?_
      exact J102 kn st false h1 h2 (nlt_dec (b := 40) (by omega) (by omega) c94).symm _ _
    · refine z_iconst (v := 1) C d_MM_roll_97 (by decide) ?_
      refine z_goto 102 C d_MM_roll_98 (by decide) ?_
      exact J102 kn st true h1 h2 (lt_dec (b := 40) (by omega) (by omega) c94).symm _ _
  have loop1 : ∀ (j i : Nat) (b : Bool), i + j = S.ro.length → (decide (S.md.countP (fun e => e.op ≠ 0) = 0) && !S.ro.any (roC1 a)) = (b && !(S.ro.drop i).any (roC1 a)) → Z g 7 0 0 p e R s m args below meth c (vx_MQ below (zQ g PR) (zX g PX) args s 0 0 (zA g)) 0 0 15 [some (.ref mo), some (.int a), some (.int (bI b)), some (.int (nI i)), none, none, none] [] h := by
    intro j
    induction j with
    | zero =>
      intro i b hi hp
      have : i = S.ro.length := by omega
      subst this
      rw [List.drop_length, List.any_nil, Bool.not_false, Bool.and_true] at hp
      refine z_iload_n C d_MM_roll_15 rfl rfl ?_
      refine z_aload_n C d_MM_roll_16 rfl rfl ?_
      refine z_get (ci := 8) (T := T_MM) (N := 29) C d_MM_roll_17 8 i_MM rfl (by decide) k_755 (fun _ q => q) (hM.1) (by rfl) ?_
      refine z_icmp_ge 66 C d_MM_roll_20 (by decide) (fun c20 => ?_) (fun c20 => ?_)
      · refine z_aload_n C d_MM_roll_66 rfl rfl ?_
        refine z_bipush (v := 13) C d_MM_roll_67 (by decide) ?_
        refine z_iload_n C d_MM_roll_69 rfl rfl ?_
        refine z_iconst (v := (-1)) C d_MM_roll_70 (by decide) ?_
        refine z_icmp_eq 81 C d_MM_roll_71 (by decide) (fun c71 => ?_) (fun c71 => ?_)
        · refine z_iconst (v := 1) C d_MM_roll_81 (by decide) ?_
          refine z_goto 86 C d_MM_roll_82 (by decide) ?_
          exact J86 true b (by rw [show (a == -1) = true from beq_iff_eq.mpr c71]; rfl) hp.symm _
        · refine z_iload_n C d_MM_roll_74 rfl rfl ?_
          refine z_callS (n := 1) (As := [.int a]) (rest := [.int 13, .ref mo]) (r1 := 2) (mc1 := 0) (ms1 := 0) C d_MM_roll_75 k_860 k_858 k_859 k_5 (by decide +kernel) rfl (by decide) (by decide) (Nat.le_of_ble_eq_true rfl) (by first | decide | omega) (by first | decide | omega) rfl ?_
          refine ct_MM_isSector ?_
          dsimp only [zps]
          refine z_if_eq 85 C d_MM_roll_78 (by decide) (fun c78 => ?_) (fun c78 => ?_)
          · refine z_iconst (v := 0) C d_MM_roll_85 (by decide) ?_
            exact J86 false b (by rw [show (a == -1) = false from beq_eq_false_iff_ne.mpr c71, bI0 c78]; rfl) hp.symm _
          · refine z_iconst (v := 1) C d_MM_roll_81 (by decide) ?_
            refine z_goto 86 C d_MM_roll_82 (by decide) ?_
            exact J86 true b (by rw [bI1 c78, Bool.or_true]) hp.symm _
      · exact absurd (Int32.le_refl _) c20
    | succ j ih =>
      intro i b hi hp
      obtain ⟨e0, he, hd⟩ := zdrop (l := S.ro) (k := i) (by omega)
      obtain ⟨w1, w2⟩ := hro i e0 he
      rw [hd, List.any_cons] at hp
      have hin : vp_in (nI i) 40 := vp_in_nI (by omega) (by decide)
      have hcl : (nI i).toNatClampNeg = i := nI_clamp (by omega)
      have next : ∀ b, (decide (S.md.countP (fun e => e.op ≠ 0) = 0) && !S.ro.any (roC1 a)) = (b && !(S.ro.drop (i + 1)).any (roC1 a)) → Z g 7 0 0 p e R s m args below meth c (vx_MQ below (zQ g PR) (zX g PX) args s 0 0 (zA g)) 0 0 60 [some (.ref mo), some (.int a), some (.int (bI b)), some (.int (nI i)), none, none, none] [] h := by
        intro b hp2
        refine z_iinc C d_MM_roll_60 rfl (by decide) rfl ?_
        simp only [List.set, zi1, zim1]
        rw [nI_1]
        refine z_goto 15 C d_MM_roll_63 (by decide) ?_
        exact ih (i + 1) b (by omega) hp2
      have no : roC1 a e0 = true → Z g 7 0 0 p e R s m args below meth c (vx_MQ below (zQ g PR) (zX g PX) args s 0 0 (zA g)) 0 0 58 [some (.ref mo), some (.int a), some (.int (bI b)), some (.int (nI i)), none, none, none] [] h := by
        intro hy
        rw [hy, Bool.true_or, Bool.not_true, Bool.and_false] at hp
        refine z_iconst (v := 0) C d_MM_roll_58 (by decide) ?_
        refine z_istore_n C d_MM_roll_59 rfl (by decide) rfl ?_
        dsimp only [List.set]
        exact next false (by rw [hp]; rfl)
      refine z_iload_n C d_MM_roll_15 rfl rfl ?_
      refine z_aload_n C d_MM_roll_16 rfl rfl ?_
      refine z_get (ci := 8) (T := T_MM) (N := 29) C d_MM_roll_17 8 i_MM rfl (by decide) k_755 (fun _ q => q) (hM.1) (by rfl) ?_
      refine z_icmp_ge 66 C d_MM_roll_20 (by decide) (fun c20 => ?_) (fun c20 => ?_)
      · exact absurd c20 (nI_ge (by omega) (by omega))
      · refine z_aload_n C d_MM_roll_23 rfl rfl ?_
        refine z_get (ci := 8) (T := T_MM) (N := 29) C d_MM_roll_24 10 i_MM rfl (by decide) k_757 (fun _ q => q) (hM.1) (by rfl) ?_
        refine z_iload_n C d_MM_roll_27 rfl rfl ?_
        refine z_iald C d_MM_roll_28 (hM.a5) hin ?_
        rw [hcl, w1]
        refine z_iconst (v := 3) C d_MM_roll_29 (by decide) ?_
        refine z_icmp_ge 60 C d_MM_roll_30 (by decide) (fun c30 => ?_) (fun c30 => ?_)
        · rw [show roC1 a e0 = false from by rw [roC1, decide_eq_false (Int32.not_lt.mpr c30), Bool.false_and], Bool.false_or] at hp
          exact next b hp
        · have q1 : decide (e0.rd < 3) = true := decide_eq_true (Int32.not_le.mp c30)
          refine z_iload_n C d_MM_roll_33 rfl rfl ?_
          refine z_iconst (v := (-1)) C d_MM_roll_34 (by decide) ?_
          refine z_icmp_eq 58 C d_MM_roll_35 (by decide) (fun c35 => ?_) (fun c35 => ?_)
          · exact no (by rw [roC1, q1, show (a == -1) = true from beq_iff_eq.mpr c35]; rfl)
          · refine z_aload_n C d_MM_roll_38 rfl rfl ?_
            refine z_get (ci := 8) (T := T_MM) (N := 29) C d_MM_roll_39 9 i_MM rfl (by decide) k_756 (fun _ q => q) (hM.1) (by rfl) ?_
            refine z_iload_n C d_MM_roll_42 rfl rfl ?_
            refine z_iald C d_MM_roll_43 (hM.a4) hin ?_
            rw [hcl, w2]
            refine z_iconst (v := (-1)) C d_MM_roll_44 (by decide) ?_
            refine z_icmp_eq 58 C d_MM_roll_45 (by decide) (fun c45 => ?_) (fun c45 => ?_)
            · exact no (by rw [roC1, q1, decide_eq_true (Or.inl c45), Bool.or_true]; rfl)
            · refine z_aload_n C d_MM_roll_48 rfl rfl ?_
              refine z_get (ci := 8) (T := T_MM) (N := 29) C d_MM_roll_49 9 i_MM rfl (by decide) k_756 (fun _ q => q) (hM.1) (by rfl) ?_
              refine z_iload_n C d_MM_roll_52 rfl rfl ?_
              refine z_iald C d_MM_roll_53 (hM.a4) hin ?_
              rw [hcl, w2]
              refine z_iload_n C d_MM_roll_54 rfl rfl ?_
              refine z_icmp_ne 60 C d_MM_roll_55 (by decide) (fun c55 => ?_) (fun c55 => ?_)
              · rw [show roC1 a e0 = false from by
                  rw [roC1, show (a == -1) = false from beq_eq_false_iff_ne.mpr c35, decide_eq_false (p := e0.1.2 = -1 ∨ e0.1.2 = a) (fun z => z.elim c45 c55), Bool.or_false, Bool.and_false], Bool.false_or] at hp
                exact next b hp
              · exact no (by rw [roC1, q1, decide_eq_true (Or.inr c55), Bool.or_true]; rfl)
  refine z_aload_n C d_MM_roll_0 rfl rfl ?_
  refine z_callV (n := 0) (As := []) (rest := []) (r1 := 1) (mc1 := 0) (ms1 := 0) (ci := 8) (T0 := T_MM) C d_MM_roll_1 k_888 k_885 k_887 ks_30 k_5 (by decide +kernel) rfl rfl (hM.1) (by decide) (by decide) (Nat.le_of_ble_eq_true rfl) (by first | decide | omega) (by first | decide | omega) rfl ?_
  refine ct_MM_openMaydays hM hb3 hmd ?_
  dsimp only [zps]
  refine z_if_ne 11 C d_MM_roll_4 (by decide) (fun c4 => ?_) (fun c4 => ?_)
  · refine z_iconst (v := 0) C d_MM_roll_11 (by decide) ?_
    refine z_istore_n C d_MM_roll_12 rfl (by decide) rfl ?_
    dsimp only [List.set]
    refine z_iconst (v := 0) C d_MM_roll_13 (by decide) ?_
    refine z_istore_n C d_MM_roll_14 rfl (by decide) rfl ?_
    dsimp only [List.set]
    refine loop1 S.ro.length 0 false (by omega) ?_
    rw [decide_eq_false (p := S.md.countP (fun e => decide (e.op ≠ 0)) = 0) (fun z => c4 (by rw [z]; rfl))]
    rfl
  · refine z_iconst (v := 1) C d_MM_roll_7 (by decide) ?_
    refine z_goto 12 C d_MM_roll_8 (by decide) ?_
    refine z_istore_n C d_MM_roll_12 rfl (by decide) rfl ?_
    dsimp only [List.set]
    refine z_iconst (v := 0) C d_MM_roll_13 (by decide) ?_
    refine z_istore_n C d_MM_roll_14 rfl (by decide) rfl ?_
    dsimp only [List.set]
    refine loop1 S.ro.length 0 true (by omega) ?_
    have h0 : S.md.countP (fun e => decide (e.op ≠ 0)) = 0 := Classical.byContradiction fun q => nI_ne0 (Nat.pos_of_ne_zero q) (by omega) c4
    rw [decide_eq_true h0, List.drop_zero]
end NC
