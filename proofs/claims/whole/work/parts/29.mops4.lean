/-! the reference's public methods: answer, rollAt, round, roll -/
theorem nI4z (r : Nat) : 4 * nI r = nI (4 * r) := by rw [show (4 : Int32) = nI 4 from rfl, pk_mul]
theorem nI4k (r k : Nat) (v : Int32) (hv : v = nI k) : nI (4 * r) + v = nI (4 * r + k) := by rw [hv, nI_add]
def dbB (F : FT) (k : Nat) (b : Int32) : Bool := (F 10 k != 0) && !decide (F 11 k < 0) && (F 11 k != b)
abbrev twG (S : CS) (F : FT) (d v b a : Int32) : FT := sF F 13 (upd (upd (upd (upd (F 13) (4 * S.db.length) d) (4 * S.db.length + 1) v) (4 * S.db.length + 2) b) (4 * S.db.length + 3) a)
section NB
variable {g : zG} {T : Tg} {h : Hp} {PR : Option Value → Hp → Prop} {PX : String → Hp → Prop} {mo : Nat} {A : Nat → Nat} {th : Int32} {S : CS} {F : FT}
set_option maxRecDepth 100000 in
theorem ct_MM_answer {a b d : Int32} (hM : RepM g T h mo A th S F) (hb : S.ps.length ≤ 60) (hb2 : S.ro.length ≤ 40) (hb3 : S.db.length ≤ 100)
    (kf : ∀ kn st rm, kn = (inN a S.ro.length && (inN b 10 && inN d S.ps.length)) → st = (kn && decide (F 5 a.toNatClampNeg < 3)) → rm = (!(kn && dbB F (a.toNatClampNeg * 60 + d.toNatClampNeg) b) || decide (S.db.length < 100)) → (kn && true && st && rm) = false → ∀ h1, RepM g T h1 mo A (goT 13 kn true st rm) S F → ExM T h h1 → PR (some (.int 0)) h1)
    (k4 : ∀ r i, r < S.ro.length → i < S.ps.length → a = nI r → d = nI i → inN b 10 = true → F 5 r < 3 → F 10 (r * 60 + i) = 0 → ∀ h1, RepM g T h1 mo A 0 S (sF F 9 (upd (F 9) r (F 9 r + 1))) → ExM T h h1 → PR (some (.int 4)) h1)
    (k1 : ∀ r i, r < S.ro.length → i < S.ps.length → a = nI r → d = nI i → inN b 10 = true → F 5 r < 3 → F 10 (r * 60 + i) ≠ 0 → F 11 (r * 60 + i) < 0 → ∀ h1, RepM g T h1 mo A 0 S (sF F 11 (upd (F 11) (r * 60 + i) b)) → ExM T h h1 → PR (some (.int 1)) h1)
    (k2 : ∀ r i, r < S.ro.length → i < S.ps.length → a = nI r → d = nI i → inN b 10 = true → F 5 r < 3 → F 10 (r * 60 + i) ≠ 0 → ¬ F 11 (r * 60 + i) < 0 → F 11 (r * 60 + i) = b → ∀ h1, RepM g T h1 mo A 0 S F → ExM T h h1 → PR (some (.int 2)) h1)
    (k3 : ∀ r i, r < S.ro.length → i < S.ps.length → a = nI r → d = nI i → inN b 10 = true → F 5 r < 3 → F 10 (r * 60 + i) ≠ 0 → ¬ F 11 (r * 60 + i) < 0 → F 11 (r * 60 + i) ≠ b → S.db.length < 100 → ∀ (v : DcT) h1, RepM g T h1 mo A 0 (S.1, S.2.1, S.2.2.1, S.2.2.2.1, S.2.2.2.2.1, S.2.2.2.2.2.1 ++ [v], S.2.2.2.2.2.2) (twG S F d (F 11 (r * 60 + i)) b a) → ExM T h h1 → PR (some (.int 3)) h1) (v0 : DcT) : Ct g y_MM_answer w_MM_answer 3 0 0 [.ref mo, .int a, .int b, .int d] h PR PX := by
  refine Ct_intro (cc := c_MM_answer) (nL := 7) (ret := (some FieldType.int)) (ls := [some (.ref mo), some (.int a), some (.int b), some (.int d), none, none, none]) (by decide) (Nat.le_of_ble_eq_true rfl) rfl rfl ?_
  intro p e R s m args below meth c C ht hname
  have J135 : ∀ kn st rm ix, kn = (inN a S.ro.length && (inN b 10 && inN d S.ps.length)) → (kn = true → ix = nI (a.toNatClampNeg * 60 + d.toNatClampNeg)) → st = (kn && decide (F 5 a.toNatClampNeg < 3)) → rm = (!(kn && dbB F (a.toNatClampNeg * 60 + d.toNatClampNeg) b) || decide (S.db.length < 100)) → Z g 7 0 0 p e R s m args below meth c (vx_MQ below (zQ g PR) (zX g PX) args s 0 0 (zA g)) 0 0 135 [some (.ref mo), some (.int a), some (.int b), some (.int d), some (.int (bI kn)), some (.int ix), some (.int (bI (kn && dbB F (a.toNatClampNeg * 60 + d.toNatClampNeg) b)))] [.int (bI rm), .int (bI st), .int 1, .int (bI kn), .int 13, .ref mo] h := by
    intro kn st rm ix h1 hix h2 h3
    refine z_callV (n := 5) (As := [.int 13, .int (bI kn), .int 1, .int (bI st), .int (bI rm)]) (rest := []) (r1 := 1) (mc1 := 0) (ms1 := 0) (ci := 8) (T0 := T_MM) C d_MM_answer_135 k_846 k_843 k_845 ks_25 k_5 (by decide +kernel) rfl rfl (hM.1) (by decide) (by decide) (Nat.le_of_ble_eq_true rfl) (by first | decide | omega) (by first | decide | omega) rfl ?_
    refine ct_MM_goes (kn := kn) (rg := true) (st := st) (rm := rm) hM (fun h5 r1 e1 => ?_)
    dsimp only [zps]
    refine z_if_ne 143 C d_MM_answer_138 (by decide) (fun c138 => ?_) (fun c138 => ?_)
    · obtain ⟨g1, -, g3, g4⟩ := b4f (bI1 c138)
      subst g1 g3 g4
      have hx := hix rfl
      subst hx
      rw [Bool.true_and] at h2 h3
      have i1 := (Bool.and_eq_true_iff.mp h1.symm)
      have i2 := (Bool.and_eq_true_iff.mp i1.2)
      obtain ⟨r, hr, rfl⟩ := inN_t (by omega) i1.1
      obtain ⟨i, hi, rfl⟩ := inN_t (by omega) i2.2
      rw [nI_clamp (by omega)] at h2 h3
      rw [nI_clamp (by omega)] at h3
      rw [nI_clamp (by omega), nI_clamp (by omega)]
      have hon := of_decide_eq_true h2.symm
      have k4' := k4 r i hr hi rfl rfl i2.1 hon
      have k1' := k1 r i hr hi rfl rfl i2.1 hon
      have k2' := k2 r i hr hi rfl rfl i2.1 hon
      have k3' := k3 r i hr hi rfl rfl i2.1 hon
      clear k4 k1 k2 k3 kf
      have hin : vp_in (nI (r * 60 + i)) 2400 := vp_in_nI (by omega) (by decide)
      have hcl : (nI (r * 60 + i)).toNatClampNeg = r * 60 + i := nI_clamp (by omega)
      refine z_aload_n C d_MM_answer_143 rfl rfl ?_
      refine z_get (ci := 8) (T := T_MM) (N := 29) C d_MM_answer_144 15 i_MM rfl (by decide) k_762 (fun _ q => q) (r1.1) (by rfl) ?_
      refine z_iload C d_MM_answer_147 rfl ?_
      refine z_zald C d_MM_answer_149 (r1.a10) hin ?_
      rw [hcl]
      refine z_if_ne 165 C d_MM_answer_150 (by decide) (fun c150 => ?_) (fun c150 => ?_)
      · refine z_aload_n C d_MM_answer_165 rfl rfl ?_
        refine z_get (ci := 8) (T := T_MM) (N := 29) C d_MM_answer_166 16 i_MM rfl (by decide) k_763 (fun _ q => q) (r1.1) (by rfl) ?_
        refine z_iload C d_MM_answer_169 rfl ?_
        refine z_iald C d_MM_answer_171 (r1.a11) hin ?_
        rw [hcl]
        refine z_if_ge 185 C d_MM_answer_172 (by decide) (fun c172 => ?_) (fun c172 => ?_)
        · have hn : ¬ F 11 (r * 60 + i) < 0 := Int32.not_lt.mpr c172
          have e7 : dbB F (r * 60 + i) b = (F 11 (r * 60 + i) != b) := by rw [dbB, show (F 10 (r * 60 + i) != 0) = true from bne_iff_ne.mpr c150, decide_eq_false hn]; rfl
          rw [e7] at h3 ⊢
          rw [Bool.true_and]
          refine z_iload C d_MM_answer_185 rfl ?_
          refine z_if_ne 192 C d_MM_answer_187 (by decide) (fun c187 => ?_) (fun c187 => ?_)
          · have q1 := bI1 c187
            rw [q1, Bool.not_true, Bool.false_or] at h3
            have hl : S.db.length < 100 := of_decide_eq_true h3.symm
            have k := k3' c150 hn (bne_iff_ne.mp q1) hl v0
            refine z_aload_n C d_MM_answer_192 rfl rfl ?_
            refine z_get (ci := 8) (T := T_MM) (N := 29) C d_MM_answer_193 19 i_MM rfl (by decide) k_766 (fun _ q => q) (r1.1) (by rfl) ?_
            refine z_iconst (v := 4) C d_MM_answer_196 (by decide) ?_
            refine z_aload_n C d_MM_answer_197 rfl rfl ?_
            refine z_get (ci := 8) (T := T_MM) (N := 29) C d_MM_answer_198 18 i_MM rfl (by decide) k_765 (fun _ q => q) (r1.1) (by rfl) ?_
            refine z_imul C d_MM_answer_201 ?_
            rw [nI4z]
            refine z_iload_n C d_MM_answer_202 rfl rfl ?_
            refine z_iast C d_MM_answer_203 (r1.a13) (vp_in_nI (by omega) (by decide)) ?_
            rw [nI_clamp (by omega)]
            have r2 := r1.put (j := 13) (by decide) (upd (F 13) (4 * S.db.length) (nI i))
            have e2 := e1.trans (r1.exP (j := 13) (by decide) (e := mmA g 13 (upd (F 13) (4 * S.db.length) (nI i))))
            refine z_aload_n C d_MM_answer_204 rfl rfl ?_
            refine z_get (ci := 8) (T := T_MM) (N := 29) C d_MM_answer_205 19 i_MM rfl (by decide) k_766 (fun _ q => q) (r2.1) (by rfl) ?_
            refine z_iconst (v := 4) C d_MM_answer_208 (by decide) ?_
            refine z_aload_n C d_MM_answer_209 rfl rfl ?_
            refine z_get (ci := 8) (T := T_MM) (N := 29) C d_MM_answer_210 18 i_MM rfl (by decide) k_765 (fun _ q => q) (r2.1) (by rfl) ?_
            refine z_imul C d_MM_answer_213 ?_
            rw [nI4z]
            refine z_iconst (v := 1) C d_MM_answer_214 (by decide) ?_
            refine z_iadd C d_MM_answer_215 ?_
            rw [nI_1]
            refine z_aload_n C d_MM_answer_216 rfl rfl ?_
            refine z_get (ci := 8) (T := T_MM) (N := 29) C d_MM_answer_217 16 i_MM rfl (by decide) k_763 (fun _ q => q) (r2.1) (by rfl) ?_
            refine z_iload C d_MM_answer_220 rfl ?_
            refine z_iald C d_MM_answer_222 (r2.a11) hin ?_
            rw [hcl]
            refine z_iast C d_MM_answer_223 (r2.a13) (vp_in_nI (by omega) (by decide)) ?_
            rw [nI_clamp (by omega)]
            have r3 := r2.put (j := 13) (by decide) (upd (upd (F 13) (4 * S.db.length) (nI i)) (4 * S.db.length + 1) (F 11 (r * 60 + i)))
            have e3 := e2.trans (r2.exP (j := 13) (by decide) (e := mmA g 13 (upd (upd (F 13) (4 * S.db.length) (nI i)) (4 * S.db.length + 1) (F 11 (r * 60 + i)))))
            rw [sF_sF] at r3
            refine z_aload_n C d_MM_answer_224 rfl rfl ?_
            refine z_get (ci := 8) (T := T_MM) (N := 29) C d_MM_answer_225 19 i_MM rfl (by decide) k_766 (fun _ q => q) (r3.1) (by rfl) ?_
            refine z_iconst (v := 4) C d_MM_answer_228 (by decide) ?_
            refine z_aload_n C d_MM_answer_229 rfl rfl ?_
            refine z_get (ci := 8) (T := T_MM) (N := 29) C d_MM_answer_230 18 i_MM rfl (by decide) k_765 (fun _ q => q) (r3.1) (by rfl) ?_
            refine z_imul C d_MM_answer_233 ?_
            rw [nI4z]
            refine z_iconst (v := 2) C d_MM_answer_234 (by decide) ?_
            refine z_iadd C d_MM_answer_235 ?_
            rw [show nI (4 * S.db.length) + 2 = nI (4 * S.db.length + 2) from nI_add _ 2]
            refine z_iload_n C d_MM_answer_236 rfl rfl ?_
            refine z_iast C d_MM_answer_237 (r3.a13) (vp_in_nI (by omega) (by decide)) ?_
            rw [nI_clamp (by omega)]
            have r4 := r3.put (j := 13) (by decide) (upd (upd (upd (F 13) (4 * S.db.length) (nI i)) (4 * S.db.length + 1) (F 11 (r * 60 + i))) (4 * S.db.length + 2) b)
            have e4 := e3.trans (r3.exP (j := 13) (by decide) (e := mmA g 13 (upd (upd (upd (F 13) (4 * S.db.length) (nI i)) (4 * S.db.length + 1) (F 11 (r * 60 + i))) (4 * S.db.length + 2) b)))
            rw [sF_sF] at r4
            refine z_aload_n C d_MM_answer_238 rfl rfl ?_
            refine z_get (ci := 8) (T := T_MM) (N := 29) C d_MM_answer_239 19 i_MM rfl (by decide) k_766 (fun _ q => q) (r4.1) (by rfl) ?_
            refine z_iconst (v := 4) C d_MM_answer_242 (by decide) ?_
            refine z_aload_n C d_MM_answer_243 rfl rfl ?_
            refine z_get (ci := 8) (T := T_MM) (N := 29) C d_MM_answer_244 18 i_MM rfl (by decide) k_765 (fun _ q => q) (r4.1) (by rfl) ?_
            refine z_imul C d_MM_answer_247 ?_
            rw [nI4z]
            refine z_iconst (v := 3) C d_MM_answer_248 (by decide) ?_
            refine z_iadd C d_MM_answer_249 ?_
            rw [show nI (4 * S.db.length) + 3 = nI (4 * S.db.length + 3) from nI_add _ 3]
            refine z_iload_n C d_MM_answer_250 rfl rfl ?_
            refine z_iast C d_MM_answer_251 (r4.a13) (vp_in_nI (by omega) (by decide)) ?_
            rw [nI_clamp (by omega)]
            have r5 := r4.put (j := 13) (by decide) (upd (upd (upd (upd (F 13) (4 * S.db.length) (nI i)) (4 * S.db.length + 1) (F 11 (r * 60 + i))) (4 * S.db.length + 2) b) (4 * S.db.length + 3) (nI r))
            have e5 := e4.trans (r4.exP (j := 13) (by decide) (e := mmA g 13 (upd (upd (upd (upd (F 13) (4 * S.db.length) (nI i)) (4 * S.db.length + 1) (F 11 (r * 60 + i))) (4 * S.db.length + 2) b) (4 * S.db.length + 3) (nI r))))
            rw [sF_sF] at r5
            refine z_aload_n C d_MM_answer_252 rfl rfl ?_
            refine z_dup C d_MM_answer_253 rfl ?_
            refine z_get (ci := 8) (T := T_MM) (N := 29) C d_MM_answer_254 18 i_MM rfl (by decide) k_765 (fun _ q => q) (r5.1) (by rfl) ?_
            refine z_iconst (v := 1) C d_MM_answer_257 (by decide) ?_
            refine z_iadd C d_MM_answer_258 ?_
            refine z_put (ci := 8) (T := T_MM) (N := 29) (ty := .int) C d_MM_answer_259 18 ty_MM t_MM n_MM i_MM rfl (by decide) k_765 (fun _ q => q) rfl (by decide +kernel) (by rfl) (by rfl) (r5.1) (by exact Nat.le_of_ble_eq_true rfl) ?_
            dsimp only [List.set]
            rw [nI_1]
            refine z_iconst (v := 3) C d_MM_answer_262 (by decide) ?_
            refine z_iret C d_MM_answer_263 ?_
            exact k _ (r5.fldE 0 (S.1, S.2.1, S.2.2.1, S.2.2.2.1, S.2.2.2.2.1, S.2.2.2.2.2.1 ++ [v0], S.2.2.2.2.2.2) (by unfold mmC CS.db; rw [la1]; rfl)) (e5.trans r5.exF)
          · have q1 := bI0 c187
            refine z_iconst (v := 2) C d_MM_answer_190 (by decide) ?_
            refine z_iret C d_MM_answer_191 ?_
            exact k2' c150 hn (bne_eq_false_iff_eq.mp q1) h5 r1 e1
        · refine z_aload_n C d_MM_answer_175 rfl rfl ?_
          refine z_get (ci := 8) (T := T_MM) (N := 29) C d_MM_answer_176 16 i_MM rfl (by decide) k_763 (fun _ q => q) (r1.1) (by rfl) ?_
          refine z_iload C d_MM_answer_179 rfl ?_
          refine z_iload_n C d_MM_answer_181 rfl rfl ?_
          refine z_iast C d_MM_answer_182 (r1.a11) hin ?_
          rw [hcl]
          refine z_iconst (v := 1) C d_MM_answer_183 (by decide) ?_
          refine z_iret C d_MM_answer_184 ?_
          exact k1' c150 (Int32.not_le.mp c172) _ (r1.put (j := 11) (by decide) (upd (F 11) (r * 60 + i) b)) (e1.trans (r1.exP (by decide)))
      · have c150' : F 10 (r * 60 + i) = 0 := c150
        refine z_aload_n C d_MM_answer_153 rfl rfl ?_
        refine z_get (ci := 8) (T := T_MM) (N := 29) C d_MM_answer_154 14 i_MM rfl (by decide) k_761 (fun _ q => q) (r1.1) (by rfl) ?_
        refine z_iload_n C d_MM_answer_157 rfl rfl ?_
        refine z_dup2 C d_MM_answer_158 rfl rfl ?_
        refine z_iald C d_MM_answer_159 (r1.a9) (vp_in_nI (by omega) (by decide)) ?_
        rw [nI_clamp (n := r) (by omega)]
        refine z_iconst (v := 1) C d_MM_answer_160 (by decide) ?_
        refine z_iadd C d_MM_answer_161 ?_
        refine z_iast C d_MM_answer_162 (r1.a9) (vp_in_nI (by omega) (by decide)) ?_
        rw [nI_clamp (n := r) (by omega)]
        refine z_iconst (v := 4) C d_MM_answer_163 (by decide) ?_
        refine z_iret C d_MM_answer_164 ?_
        exact k4' c150' _ (r1.put (j := 9) (by decide) (upd (F 9) r (F 9 r + 1))) (e1.trans (r1.exP (by decide)))
    · refine z_iconst (v := 0) C d_MM_answer_141 (by decide) ?_
      refine z_iret C d_MM_answer_142 ?_
      exact kf kn st rm h1 h2 h3 (bI0 c138) h5 r1 e1
  have J116 : ∀ kn st ix, kn = (inN a S.ro.length && (inN b 10 && inN d S.ps.length)) → (kn = true → ix = nI (a.toNatClampNeg * 60 + d.toNatClampNeg)) → st = (kn && decide (F 5 a.toNatClampNeg < 3)) → Z g 7 0 0 p e R s m args below meth c (vx_MQ below (zQ g PR) (zX g PX) args s 0 0 (zA g)) 0 0 116 [some (.ref mo), some (.int a), some (.int b), some (.int d), some (.int (bI kn)), some (.int ix), some (.int (bI (kn && dbB F (a.toNatClampNeg * 60 + d.toNatClampNeg) b)))] [.int (bI st), .int 1, .int (bI kn), .int 13, .ref mo] h := by
    intro kn st ix h1 hix h2
    refine z_iload C d_MM_answer_116 rfl ?_
    refine z_if_eq 130 C d_MM_answer_118 (by decide) (fun c118 => ?_) (fun c118 => ?_)
    · refine z_iconst (v := 1) C d_MM_answer_130 (by decide) ?_
      refine z_goto 135 C d_MM_answer_131 (by decide) ?_
      exact J135 kn st true ix h1 hix h2 (by rw [bI0 c118]; rfl)
    · have q := bI1 c118
      refine z_aload_n C d_MM_answer_121 rfl rfl ?_
      refine z_get (ci := 8) (T := T_MM) (N := 29) C d_MM_answer_122 18 i_MM rfl (by decide) k_765 (fun _ q => q) (hM.1) (by rfl) ?_
      refine z_bipush (v := 100) C d_MM_answer_125 (by decide) ?_
      refine z_icmp_ge 134 C d_MM_answer_127 (by decide) (fun c127 => ?_) (fun c127 => ?_)
      · refine z_iconst (v := 0) C d_MM_answer_134 (by decide) ?_
        exact J135 kn st false ix h1 hix h2 (by rw [q, nlt_dec (b := 100) (by omega) (by omega) c127]; rfl)
      · refine z_iconst (v := 1) C d_MM_answer_130 (by decide) ?_
        refine z_goto 135 C d_MM_answer_131 (by decide) ?_
        exact J135 kn st true ix h1 hix h2 (by rw [lt_dec (b := 100) (by omega) (by omega) c127, Bool.or_true])
  have J88 : ∀ kn ix db, kn = (inN a S.ro.length && (inN b 10 && inN d S.ps.length)) → (kn = true → ix = nI (a.toNatClampNeg * 60 + d.toNatClampNeg)) → db = (kn && dbB F (a.toNatClampNeg * 60 + d.toNatClampNeg) b) → Z g 7 0 0 p e R s m args below meth c (vx_MQ below (zQ g PR) (zX g PX) args s 0 0 (zA g)) 0 0 88 [some (.ref mo), some (.int a), some (.int b), some (.int d), some (.int (bI kn)), some (.int ix), none] [.int (bI db)] h := by
    intro kn ix db h1 hix hdb
    subst hdb
    refine z_istore C d_MM_answer_88 (by decide) rfl ?_
    dsimp only [List.set]
    refine z_aload_n C d_MM_answer_90 rfl rfl ?_
    refine z_bipush (v := 13) C d_MM_answer_91 (by decide) ?_
    refine z_iload C d_MM_answer_93 rfl ?_
    refine z_iconst (v := 1) C d_MM_answer_95 (by decide) ?_
    refine z_iload C d_MM_answer_96 rfl ?_
    refine z_if_eq 115 C d_MM_answer_98 (by decide) (fun c98 => ?_) (fun c98 => ?_)
    · refine z_iconst (v := 0) C d_MM_answer_115 (by decide) ?_
      exact J116 kn false ix h1 hix (by rw [bI0 c98]; rfl)
    · have g1 := bI1 c98
      rw [g1] at h1
      have i1 := (Bool.and_eq_true_iff.mp h1.symm)
      obtain ⟨j, hj, hja⟩ := inN_t (by omega) i1.1
      have hin : vp_in a 40 := by rw [hja]; exact vp_in_nI (by omega) (by decide)
      rw [← g1] at h1
      refine z_aload_n C d_MM_answer_101 rfl rfl ?_
      refine z_get (ci := 8) (T := T_MM) (N := 29) C d_MM_answer_102 10 i_MM rfl (by decide) k_757 (fun _ q => q) (hM.1) (by rfl) ?_
      refine z_iload_n C d_MM_answer_105 rfl rfl ?_
      refine z_iald C d_MM_answer_106 (hM.a5) hin ?_
      refine z_iconst (v := 3) C d_MM_answer_107 (by decide) ?_
      refine z_icmp_ge 115 C d_MM_answer_108 (by decide) (fun c108 => ?_) (fun c108 => ?_)
      · refine z_iconst (v := 0) C d_MM_answer_115 (by decide) ?_
        exact J116 kn false ix h1 hix (by rw [decide_eq_false (Int32.not_lt.mpr c108), Bool.and_false])
      · refine z_iconst (v := 1) C d_MM_answer_111 (by decide) ?_
        refine z_goto 116 C d_MM_answer_112 (by decide) ?_
        exact J116 kn true ix h1 hix (by rw [g1, decide_eq_true (Int32.not_le.mp c108)]; rfl)
  have J45 : ∀ kn ix, kn = (inN a S.ro.length && (inN b 10 && inN d S.ps.length)) → (kn = true → ix = nI (a.toNatClampNeg * 60 + d.toNatClampNeg)) → Z g 7 0 0 p e R s m args below meth c (vx_MQ below (zQ g PR) (zX g PX) args s 0 0 (zA g)) 0 0 45 [some (.ref mo), some (.int a), some (.int b), some (.int d), some (.int (bI kn)), none, none] [.int ix] h := by
    intro kn ix h1 hix
    refine z_istore C d_MM_answer_45 (by decide) rfl ?_
    dsimp only [List.set]
    refine z_iload C d_MM_answer_47 rfl ?_
    refine z_if_eq 87 C d_MM_answer_49 (by decide) (fun c49 => ?_) (fun c49 => ?_)
    · refine z_iconst (v := 0) C d_MM_answer_87 (by decide) ?_
      exact J88 kn ix false h1 hix (by rw [bI0 c49]; rfl)
    · have g1 := bI1 c49
      subst g1
      have hx := hix rfl
      subst hx
      have i1 := (Bool.and_eq_true_iff.mp h1.symm)
      have i2 := (Bool.and_eq_true_iff.mp i1.2)
      have w1 : a.toNatClampNeg < 40 := by
        obtain ⟨r, hr, e9⟩ := inN_t (by omega) i1.1
        rw [e9, nI_clamp (by omega)]
        omega
      have w2 : d.toNatClampNeg < 60 := by
        obtain ⟨r, hr, e9⟩ := inN_t (by omega) i2.2
        rw [e9, nI_clamp (by omega)]
        omega
      have hin : vp_in (nI (a.toNatClampNeg * 60 + d.toNatClampNeg)) 2400 := vp_in_nI (by omega) (by decide)
      have hcl : (nI (a.toNatClampNeg * 60 + d.toNatClampNeg)).toNatClampNeg = a.toNatClampNeg * 60 + d.toNatClampNeg := nI_clamp (by omega)
      have J := fun db => J88 true (nI (a.toNatClampNeg * 60 + d.toNatClampNeg)) db h1 hix
      rw [Bool.true_and, dbB] at J
      refine z_aload_n C d_MM_answer_52 rfl rfl ?_
      refine z_get (ci := 8) (T := T_MM) (N := 29) C d_MM_answer_53 15 i_MM rfl (by decide) k_762 (fun _ q => q) (hM.1) (by rfl) ?_
      refine z_iload C d_MM_answer_56 rfl ?_
      refine z_zald C d_MM_answer_58 (hM.a10) hin ?_
      rw [hcl]
      refine z_if_eq 87 C d_MM_answer_59 (by decide) (fun c59 => ?_) (fun c59 => ?_)
      · refine z_iconst (v := 0) C d_MM_answer_87 (by decide) ?_
        exact J false (by rw [c59]; rfl)
      · rw [show (F 10 (a.toNatClampNeg * 60 + d.toNatClampNeg) != 0) = true from bne_iff_ne.mpr c59, Bool.true_and] at J
        refine z_aload_n C d_MM_answer_62 rfl rfl ?_
        refine z_get (ci := 8) (T := T_MM) (N := 29) C d_MM_answer_63 16 i_MM rfl (by decide) k_763 (fun _ q => q) (hM.1) (by rfl) ?_
        refine z_iload C d_MM_answer_66 rfl ?_
        refine z_iald C d_MM_answer_68 (hM.a11) hin ?_
        rw [hcl]
        refine z_if_lt 87 C d_MM_answer_69 (by decide) (fun c69 => ?_) (fun c69 => ?_)
        · refine z_iconst (v := 0) C d_MM_answer_87 (by decide) ?_
          exact J false (by rw [decide_eq_true c69]; rfl)
        · rw [decide_eq_false c69, Bool.not_false, Bool.true_and] at J
          refine z_aload_n C d_MM_answer_72 rfl rfl ?_
          refine z_get (ci := 8) (T := T_MM) (N := 29) C d_MM_answer_73 16 i_MM rfl (by decide) k_763 (fun _ q => q) (hM.1) (by rfl) ?_
          refine z_iload C d_MM_answer_76 rfl ?_
          refine z_iald C d_MM_answer_78 (hM.a11) hin ?_
          rw [hcl]
          refine z_iload_n C d_MM_answer_79 rfl rfl ?_
          refine z_icmp_eq 87 C d_MM_answer_80 (by decide) (fun c80 => ?_) (fun c80 => ?_)
          · refine z_iconst (v := 0) C d_MM_answer_87 (by decide) ?_
            exact J false (bne_eq_false_iff_eq.mpr c80).symm
          · refine z_iconst (v := 1) C d_MM_answer_83 (by decide) ?_
            refine z_goto 88 C d_MM_answer_84 (by decide) ?_
            exact J true (bne_iff_ne.mpr c80).symm
  have J28 : ∀ kn, kn = (inN a S.ro.length && (inN b 10 && inN d S.ps.length)) → Z g 7 0 0 p e R s m args below meth c (vx_MQ below (zQ g PR) (zX g PX) args s 0 0 (zA g)) 0 0 28 [some (.ref mo), some (.int a), some (.int b), some (.int d), none, none, none] [.int (bI kn)] h := by
    intro kn h1
    refine z_istore C d_MM_answer_28 (by decide) rfl ?_
    dsimp only [List.set]
    refine z_iload C d_MM_answer_30 rfl ?_
    refine z_if_eq 44 C d_MM_answer_32 (by decide) (fun c32 => ?_) (fun c32 => ?_)
    · refine z_iconst (v := 0) C d_MM_answer_44 (by decide) ?_
      exact J45 kn 0 h1 (fun z => by rw [z] at c32; exact absurd c32 (by decide))
    · have g1 := bI1 c32
      rw [g1] at h1
      have i1 := (Bool.and_eq_true_iff.mp h1.symm)
      have i2 := (Bool.and_eq_true_iff.mp i1.2)
      obtain ⟨r, hr, hra⟩ := inN_t (by omega) i1.1
      obtain ⟨i, hi, hid⟩ := inN_t (by omega) i2.2
      rw [← g1] at h1
      refine z_iload_n C d_MM_answer_35 rfl rfl ?_
      refine z_bipush (v := 60) C d_MM_answer_36 (by decide) ?_
      refine z_imul C d_MM_answer_38 ?_
      refine z_iload_n C d_MM_answer_39 rfl rfl ?_
      refine z_iadd C d_MM_answer_40 ?_
      refine z_goto 45 C d_MM_answer_41 (by decide) ?_
      refine J45 kn _ h1 (fun _ => ?_)
      rw [hra, hid, nI60, nI_clamp (by omega), nI_clamp (by omega)]
  refine z_aload_n C d_MM_answer_0 rfl rfl ?_
  refine z_iload_n C d_MM_answer_1 rfl rfl ?_
  refine z_callV (n := 1) (As := [.int a]) (rest := []) (r1 := 2) (mc1 := 0) (ms1 := 0) (ci := 8) (T0 := T_MM) C d_MM_answer_2 k_896 k_893 k_895 ks_31 k_5 (by decide +kernel) rfl rfl (hM.1) (by decide) (by decide) (Nat.le_of_ble_eq_true rfl) (by first | decide | omega) (by first | decide | omega) rfl ?_
  refine ct_MM_isRoll hM hb2 ?_
  dsimp only [zps]
  refine z_if_eq 27 C d_MM_answer_5 (by decide) (fun c5 => ?_) (fun c5 => ?_)
  · refine z_iconst (v := 0) C d_MM_answer_27 (by decide) ?_
    exact J28 false (by rw [bI0 c5]; rfl)
  · refine z_iload_n C d_MM_answer_8 rfl rfl ?_
    refine z_callS (n := 1) (As := [.int b]) (rest := []) (r1 := 2) (mc1 := 0) (ms1 := 0) C d_MM_answer_9 k_860 k_858 k_859 k_5 (by decide +kernel) rfl (by decide) (by decide) (Nat.le_of_ble_eq_true rfl) (by first | decide | omega) (by first | decide | omega) rfl ?_
    refine ct_MM_isSector ?_
    dsimp only [zps]
    refine z_if_eq 27 C d_MM_answer_12 (by decide) (fun c12 => ?_) (fun c12 => ?_)
    · refine z_iconst (v := 0) C d_MM_answer_27 (by decide) ?_
      exact J28 false (by rw [bI0 c12, Bool.false_and, Bool.and_false])
    · refine z_aload_n C d_MM_answer_15 rfl rfl ?_
      refine z_iload_n C d_MM_answer_16 rfl rfl ?_
      refine z_callV (n := 1) (As := [.int d]) (rest := []) (r1 := 2) (mc1 := 0) (ms1 := 0) (ci := 8) (T0 := T_MM) C d_MM_answer_17 k_854 k_851 k_853 ks_26 k_5 (by decide +kernel) rfl rfl (hM.1) (by decide) (by decide) (Nat.le_of_ble_eq_true rfl) (by first | decide | omega) (by first | decide | omega) rfl ?_
      refine ct_MM_isPerson hM hb ?_
      dsimp only [zps]
      refine z_if_eq 27 C d_MM_answer_20 (by decide) (fun c20 => ?_) (fun c20 => ?_)
      · refine z_iconst (v := 0) C d_MM_answer_27 (by decide) ?_
        exact J28 false (by rw [bI0 c20, Bool.and_false, Bool.and_false])
      · refine z_iconst (v := 1) C d_MM_answer_23 (by decide) ?_
        refine z_goto 28 C d_MM_answer_24 (by decide) ?_
        exact J28 true (by rw [bI1 c5, bI1 c12, bI1 c20]; rfl)
def raM (S : CS) (F : FT) (r fm : Nat) (t : Int32) : Int32 := if t = 0 then F 5 r else if t = 1 then nI (cnt (fun i => F 10 (r * 60 + i) != 0) 0 60) else if t = 2 then nI (cnt (fun i => (F 10 (r * 60 + i) != 0) && !decide (F 11 (r * 60 + i) < 0)) 0 60) else if t = 3 then nI (cnt (opM F S.mv r fm) 0 S.ps.length) else if t = 4 then F 7 r else if t = 5 then (if 0 < F 7 r - F 8 r then F 7 r - F 8 r else 0) else F 9 r
set_option maxRecDepth 100000 in
theorem ct_MM_rollAt {a t : Int32} (hM : RepM g T h mo A th S F) (hv : mvR S F) (hb : S.ps.length ≤ 60) (hb2 : S.ro.length ≤ 40) (hf : ∀ o, o < S.ro.length → ∃ fm, fm ≤ S.mv.length ∧ F 6 o = nI fm)
    (kf : (inN a S.ro.length && inN t 7) = false → ∀ h1, RepM g T h1 mo A 1 S F → ExM T h h1 → PR (some (.int 0)) h1)
    (ks : ∀ r fm, r < S.ro.length → a = nI r → inN t 7 = true → fm ≤ S.mv.length → F 6 r = nI fm → ∀ h1, RepM g T h1 mo A 0 S F → ExM T h h1 → PR (some (.int (raM S F r fm t))) h1) : Ct g y_MM_rollAt w_MM_rollAt 4 0 0 [.ref mo, .int a, .int t] h PR PX := by
  refine Ct_intro (cc := c_MM_rollAt) (nL := 6) (ret := (some FieldType.int)) (ls := [some (.ref mo), some (.int a), some (.int t), none, none, none]) (by decide) (Nat.le_of_ble_eq_true rfl) rfl rfl ?_
  intro p e R s m args below meth c C ht hname
  have fin : ∀ (h5 : Hp) (r fm : Nat), RepM g T h5 mo A 0 S F → r < S.ro.length → fm ≤ S.mv.length → F 6 r = nI fm → PR (some (.int (raM S F r fm t))) h5 → ∀ z5, Z g 6 0 0 p e R s m args below meth c (vx_MQ below (zQ g PR) (zX g PX) args s 0 0 (zA g)) 0 0 96 [some (.ref mo), some (.int (nI r)), some (.int t), some (.int (nI (cnt (fun i => F 10 (r * 60 + i) != 0) 0 60))), some (.int (nI (cnt (fun i => (F 10 (r * 60 + i) != 0) && !decide (F 11 (r * 60 + i) < 0)) 0 60))), z5] [] h5 := by
    intro h5 r fm r1 hr hfm hF k z5
    have hin : vp_in (nI r) 40 := vp_in_nI (by omega) (by decide)
    have hcl : (nI r).toNatClampNeg = r := nI_clamp (by omega)
    rw [raM] at k
    refine z_aload_n C d_MM_rollAt_96 rfl rfl ?_
    refine z_get (ci := 8) (T := T_MM) (N := 29) C d_MM_rollAt_97 12 i_MM rfl (by decide) k_759 (fun _ q => q) (r1.1) (by rfl) ?_
    refine z_iload_n C d_MM_rollAt_100 rfl rfl ?_
    refine z_iald C d_MM_rollAt_101 (r1.a7) hin ?_
    rw [hcl]
    refine z_aload_n C d_MM_rollAt_102 rfl rfl ?_
    refine z_get (ci := 8) (T := T_MM) (N := 29) C d_MM_rollAt_103 13 i_MM rfl (by decide) k_760 (fun _ q => q) (r1.1) (by rfl) ?_
    refine z_iload_n C d_MM_rollAt_106 rfl rfl ?_
    refine z_iald C d_MM_rollAt_107 (r1.a8) hin ?_
    rw [hcl]
    refine z_isub C d_MM_rollAt_108 ?_
    refine z_istore C d_MM_rollAt_109 (by decide) rfl ?_
    dsimp only [List.set]
    refine z_iload_n C d_MM_rollAt_111 rfl rfl ?_
    refine z_if_ne 124 C d_MM_rollAt_112 (by decide) (fun c112 => ?_) (fun c112 => ?_)
    · rw [if_neg c112] at k
      refine z_iload_n C d_MM_rollAt_124 rfl rfl ?_
      refine z_iconst (v := 1) C d_MM_rollAt_125 (by decide) ?_
      refine z_icmp_ne 133 C d_MM_rollAt_126 (by decide) (fun c126 => ?_) (fun c126 => ?_)
      · rw [if_neg c126] at k
        refine z_iload_n C d_MM_rollAt_133 rfl rfl ?_
        refine z_iconst (v := 2) C d_MM_rollAt_134 (by decide) ?_
        refine z_icmp_ne 143 C d_MM_rollAt_135 (by decide) (fun c135 => ?_) (fun c135 => ?_)
        · rw [if_neg c135] at k
          refine z_iload_n C d_MM_rollAt_143 rfl rfl ?_
          refine z_iconst (v := 3) C d_MM_rollAt_144 (by decide) ?_
          refine z_icmp_ne 156 C d_MM_rollAt_145 (by decide) (fun c145 => ?_) (fun c145 => ?_)
          · rw [if_neg c145] at k
            refine z_iload_n C d_MM_rollAt_156 rfl rfl ?_
            refine z_iconst (v := 4) C d_MM_rollAt_157 (by decide) ?_
            refine z_icmp_ne 170 C d_MM_rollAt_158 (by decide) (fun c158 => ?_) (fun c158 => ?_)
            · rw [if_neg c158] at k
              refine z_iload_n C d_MM_rollAt_170 rfl rfl ?_
              refine z_iconst (v := 5) C d_MM_rollAt_171 (by decide) ?_
              refine z_icmp_ne 189 C d_MM_rollAt_172 (by decide) (fun c172 => ?_) (fun c172 => ?_)
              · rw [if_neg c172] at k
                refine z_aload_n C d_MM_rollAt_189 rfl rfl ?_
                refine z_get (ci := 8) (T := T_MM) (N := 29) C d_MM_rollAt_190 14 i_MM rfl (by decide) k_761 (fun _ q => q) (r1.1) (by rfl) ?_
                refine z_iload_n C d_MM_rollAt_193 rfl rfl ?_
                refine z_iald C d_MM_rollAt_194 (r1.a9) hin ?_
                rw [hcl]
                refine z_iret C d_MM_rollAt_195 ?_
                exact k
              · rw [if_pos c172] at k
                refine z_iload C d_MM_rollAt_175 rfl ?_
                refine z_if_le 185 C d_MM_rollAt_177 (by decide) (fun c177 => ?_) (fun c177 => ?_)
                · rw [if_neg (Int32.not_lt.mpr c177)] at k
                  refine z_iconst (v := 0) C d_MM_rollAt_185 (by decide) ?_
                  refine z_goto 195 C d_MM_rollAt_186 (by decide) ?_
                  refine z_iret C d_MM_rollAt_195 ?_
                  exact k
                · rw [if_pos (Int32.not_le.mp c177)] at k
                  refine z_iload C d_MM_rollAt_180 rfl ?_
                  refine z_goto 195 C d_MM_rollAt_182 (by decide) ?_
                  refine z_iret C d_MM_rollAt_195 ?_
                  exact k
            · rw [if_pos c158] at k
              refine z_aload_n C d_MM_rollAt_161 rfl rfl ?_
              refine z_get (ci := 8) (T := T_MM) (N := 29) C d_MM_rollAt_162 12 i_MM rfl (by decide) k_759 (fun _ q => q) (r1.1) (by rfl) ?_
              refine z_iload_n C d_MM_rollAt_165 rfl rfl ?_
              refine z_iald C d_MM_rollAt_166 (r1.a7) hin ?_
              rw [hcl]
              refine z_goto 195 C d_MM_rollAt_167 (by decide) ?_
              refine z_iret C d_MM_rollAt_195 ?_
              exact k
          · rw [if_pos c145] at k
            refine z_aload_n C d_MM_rollAt_148 rfl rfl ?_
            refine z_iload_n C d_MM_rollAt_149 rfl rfl ?_
            refine z_callV (n := 1) (As := [.int (nI r)]) (rest := []) (r1 := 3) (mc1 := 0) (ms1 := 0) (ci := 8) (T0 := T_MM) C d_MM_rollAt_150 k_908 k_905 k_907 ks_32 k_5 (by decide +kernel) rfl rfl (r1.1) (by decide) (by decide) (Nat.le_of_ble_eq_true rfl) (by first | decide | omega) (by first | decide | omega) rfl ?_
            refine ct_MM_open r1 hv hb (by omega) hfm hF ?_
            dsimp only [zps]
            refine z_goto 195 C d_MM_rollAt_153 (by decide) ?_
            refine z_iret C d_MM_rollAt_195 ?_
            exact k
        · rw [if_pos c135] at k
          refine z_iload C d_MM_rollAt_138 rfl ?_
          refine z_goto 195 C d_MM_rollAt_140 (by decide) ?_
          refine z_iret C d_MM_rollAt_195 ?_
          exact k
      · rw [if_pos c126] at k
        refine z_iload_n C d_MM_rollAt_129 rfl rfl ?_
        refine z_goto 195 C d_MM_rollAt_130 (by decide) ?_
        refine z_iret C d_MM_rollAt_195 ?_
        exact k
    · rw [if_pos c112] at k
      refine z_aload_n C d_MM_rollAt_115 rfl rfl ?_
      refine z_get (ci := 8) (T := T_MM) (N := 29) C d_MM_rollAt_116 10 i_MM rfl (by decide) k_757 (fun _ q => q) (r1.1) (by rfl) ?_
      refine z_iload_n C d_MM_rollAt_119 rfl rfl ?_
      refine z_iald C d_MM_rollAt_120 (r1.a5) hin ?_
      rw [hcl]
      refine z_goto 195 C d_MM_rollAt_121 (by decide) ?_
      refine z_iret C d_MM_rollAt_195 ?_
      exact k
  have loop : ∀ (h5 : Hp) (r fm : Nat), RepM g T h5 mo A 0 S F → r < S.ro.length → fm ≤ S.mv.length → F 6 r = nI fm → PR (some (.int (raM S F r fm t))) h5 → ∀ (j i c1 c2 : Nat), i + j = 60 → cnt (fun i => F 10 (r * 60 + i) != 0) 0 60 = c1 + cnt (fun i => F 10 (r * 60 + i) != 0) i j → cnt (fun i => (F 10 (r * 60 + i) != 0) && !decide (F 11 (r * 60 + i) < 0)) 0 60 = c2 + cnt (fun i => (F 10 (r * 60 + i) != 0) && !decide (F 11 (r * 60 + i) < 0)) i j → Z g 6 0 0 p e R s m args below meth c (vx_MQ below (zQ g PR) (zX g PX) args s 0 0 (zA g)) 0 0 44 [some (.ref mo), some (.int (nI r)), some (.int t), some (.int (nI c1)), some (.int (nI c2)), some (.int (nI i))] [] h5 := by
    intro h5 r fm r1 hr hfm hF k j
    induction j with
    | zero =>
      intro i n1 n2 hi p1 p2
      have : i = 60 := by omega
      subst this
      rw [show cnt (fun i => F 10 (r * 60 + i) != 0) 60 0 = 0 from rfl] at p1
      rw [show cnt (fun i => (F 10 (r * 60 + i) != 0) && !decide (F 11 (r * 60 + i) < 0)) 60 0 = 0 from rfl] at p2
      have f9 := fin h5 r fm r1 hr hfm hF k (some (.int (nI 60)))
      rw [p1, p2] at f9
      refine z_iload C d_MM_rollAt_44 rfl ?_
      refine z_bipush (v := 60) C d_MM_rollAt_46 (by decide) ?_
      refine z_icmp_ge 96 C d_MM_rollAt_48 (by decide) (fun c48 => ?_) (fun c48 => ?_)
      · exact f9
      · exact absurd (by decide) c48
    | succ j ih =>
      intro i n1 n2 hi p1 p2
      rw [show cnt (fun i => F 10 (r * 60 + i) != 0) i (j + 1) = (if (F 10 (r * 60 + i) != 0) = true then 1 else 0) + cnt (fun i => F 10 (r * 60 + i) != 0) (i + 1) j from rfl] at p1
      rw [show cnt (fun i => (F 10 (r * 60 + i) != 0) && !decide (F 11 (r * 60 + i) < 0)) i (j + 1) = (if ((F 10 (r * 60 + i) != 0) && !decide (F 11 (r * 60 + i) < 0)) = true then 1 else 0) + cnt (fun i => (F 10 (r * 60 + i) != 0) && !decide (F 11 (r * 60 + i) < 0)) (i + 1) j from rfl] at p2
      have hin : vp_in (nI (r * 60 + i)) 2400 := vp_in_nI (by omega) (by decide)
      have hcl : (nI (r * 60 + i)).toNatClampNeg = r * 60 + i := nI_clamp (by omega)
      refine z_iload C d_MM_rollAt_44 rfl ?_
      refine z_bipush (v := 60) C d_MM_rollAt_46 (by decide) ?_
      refine z_icmp_ge 96 C d_MM_rollAt_48 (by decide) (fun c48 => ?_) (fun c48 => ?_)
      · exact absurd c48 (by rw [show (60 : Int32) = nI 60 from rfl]; exact nI_ge (by omega) (by omega))
      · refine z_aload_n C d_MM_rollAt_51 rfl rfl ?_
        refine z_get (ci := 8) (T := T_MM) (N := 29) C d_MM_rollAt_52 15 i_MM rfl (by decide) k_762 (fun _ q => q) (r1.1) (by rfl) ?_
        refine z_iload_n C d_MM_rollAt_55 rfl rfl ?_
        refine z_bipush (v := 60) C d_MM_rollAt_56 (by decide) ?_
        refine z_imul C d_MM_rollAt_58 ?_
        refine z_iload C d_MM_rollAt_59 rfl ?_
        refine z_iadd C d_MM_rollAt_61 ?_
        rw [nI60]
        refine z_zald C d_MM_rollAt_62 (r1.a10) hin ?_
        rw [hcl]
        refine z_if_ne 69 C d_MM_rollAt_63 (by decide) (fun c63 => ?_) (fun c63 => ?_)
        · rw [show (F 10 (r * 60 + i) != 0) = true from bne_iff_ne.mpr c63, if_pos rfl] at p1
          rw [show (F 10 (r * 60 + i) != 0) = true from bne_iff_ne.mpr c63, Bool.true_and] at p2
          refine z_iinc C d_MM_rollAt_69 rfl (by decide) rfl ?_
          simp only [List.set, zi1, zim1]
          refine z_aload_n C d_MM_rollAt_72 rfl rfl ?_
          refine z_get (ci := 8) (T := T_MM) (N := 29) C d_MM_rollAt_73 16 i_MM rfl (by decide) k_763 (fun _ q => q) (r1.1) (by rfl) ?_
          refine z_iload_n C d_MM_rollAt_76 rfl rfl ?_
          refine z_bipush (v := 60) C d_MM_rollAt_77 (by decide) ?_
          refine z_imul C d_MM_rollAt_79 ?_
          refine z_iload C d_MM_rollAt_80 rfl ?_
          refine z_iadd C d_MM_rollAt_82 ?_
          rw [nI60]
          refine z_iald C d_MM_rollAt_83 (r1.a11) hin ?_
          rw [hcl]
          refine z_if_lt 90 C d_MM_rollAt_84 (by decide) (fun c84 => ?_) (fun c84 => ?_)
          · rw [decide_eq_true c84, if_neg (by decide)] at p2
            refine z_iinc C d_MM_rollAt_90 rfl (by decide) rfl ?_
            simp only [List.set, zi1, zim1]
            rw [nI_1, nI_1]
            refine z_goto 44 C d_MM_rollAt_93 (by decide) ?_
            exact ih (i + 1) (n1 + 1) n2 (by omega) (by omega) (by omega)
          · rw [decide_eq_false c84, if_pos (by rfl)] at p2
            refine z_iinc C d_MM_rollAt_87 rfl (by decide) rfl ?_
            simp only [List.set, zi1, zim1]
            refine z_iinc C d_MM_rollAt_90 rfl (by decide) rfl ?_
            simp only [List.set, zi1, zim1]
            rw [nI_1, nI_1, nI_1]
            refine z_goto 44 C d_MM_rollAt_93 (by decide) ?_
            exact ih (i + 1) (n1 + 1) (n2 + 1) (by omega) (by omega) (by omega)
        · have c63' : F 10 (r * 60 + i) = 0 := c63
          rw [c63', if_neg (by decide)] at p1
          rw [c63', if_neg (by simp)] at p2
          refine z_goto 90 C d_MM_rollAt_66 (by decide) ?_
          refine z_iinc C d_MM_rollAt_90 rfl (by decide) rfl ?_
          simp only [List.set, zi1, zim1]
          rw [nI_1]
          refine z_goto 44 C d_MM_rollAt_93 (by decide) ?_
          exact ih (i + 1) n1 n2 (by omega) (by omega) (by omega)
  have J : ∀ kn, kn = (inN a S.ro.length && inN t 7) → Z g 6 0 0 p e R s m args below meth c (vx_MQ below (zQ g PR) (zX g PX) args s 0 0 (zA g)) 0 0 25 [some (.ref mo), some (.int a), some (.int t), none, none, none] [.int (bI kn), .int 1, .ref mo] h := by
    intro kn h1
    refine z_iconst (v := 1) C d_MM_rollAt_25 (by decide) ?_
    refine z_iconst (v := 1) C d_MM_rollAt_26 (by decide) ?_
    refine z_iconst (v := 1) C d_MM_rollAt_27 (by decide) ?_
    refine z_callV (n := 5) (As := [.int 1, .int (bI kn), .int 1, .int 1, .int 1]) (rest := []) (r1 := 1) (mc1 := 0) (ms1 := 0) (ci := 8) (T0 := T_MM) C d_MM_rollAt_28 k_846 k_843 k_845 ks_25 k_5 (by decide +kernel) rfl rfl (hM.1) (by decide) (by decide) (Nat.le_of_ble_eq_true rfl) (by first | decide | omega) (by first | decide | omega) rfl ?_
    refine ct_MM_goes (kn := kn) (rg := true) (st := true) (rm := true) hM (fun h5 r1 e1 => ?_)
    dsimp only [zps]
    refine z_if_ne 36 C d_MM_rollAt_31 (by decide) (fun c31 => ?_) (fun c31 => ?_)
    · obtain ⟨g1, -, -, -⟩ := b4f (bI1 c31)
      subst g1
      have i1 := (Bool.and_eq_true_iff.mp h1.symm)
      obtain ⟨r, hr, rfl⟩ := inN_t (by omega) i1.1
      obtain ⟨fm, f1, f2⟩ := hf r hr
      refine z_iconst (v := 0) C d_MM_rollAt_36 (by decide) ?_
      refine z_istore_n C d_MM_rollAt_37 rfl (by decide) rfl ?_
      dsimp only [List.set]
      refine z_iconst (v := 0) C d_MM_rollAt_38 (by decide) ?_
      refine z_istore C d_MM_rollAt_39 (by decide) rfl ?_
      dsimp only [List.set]
      refine z_iconst (v := 0) C d_MM_rollAt_41 (by decide) ?_
      refine z_istore C d_MM_rollAt_42 (by decide) rfl ?_
      dsimp only [List.set]
      exact loop h5 r fm r1 hr f1 f2 (ks r fm hr rfl i1.2 f1 f2 h5 r1 e1) 60 0 0 0 (by omega) (by rw [Nat.zero_add]) (by rw [Nat.zero_add])
    · have h9 := bI0 c31
      rw [Bool.and_true, Bool.and_true, Bool.and_true] at h9
      subst h9
      refine z_iconst (v := 0) C d_MM_rollAt_34 (by decide) ?_
      refine z_iret C d_MM_rollAt_35 ?_
      exact kf h1.symm h5 r1 e1
  refine z_aload_n C d_MM_rollAt_0 rfl rfl ?_
  refine z_iconst (v := 1) C d_MM_rollAt_1 (by decide) ?_
  refine z_aload_n C d_MM_rollAt_2 rfl rfl ?_
  refine z_iload_n C d_MM_rollAt_3 rfl rfl ?_
  refine z_callV (n := 1) (As := [.int a]) (rest := [.int 1, .ref mo]) (r1 := 2) (mc1 := 0) (ms1 := 0) (ci := 8) (T0 := T_MM) C d_MM_rollAt_4 k_896 k_893 k_895 ks_31 k_5 (by decide +kernel) rfl rfl (hM.1) (by decide) (by decide) (Nat.le_of_ble_eq_true rfl) (by first | decide | omega) (by first | decide | omega) rfl ?_
  refine ct_MM_isRoll hM hb2 ?_
  dsimp only [zps]
  refine z_if_eq 24 C d_MM_rollAt_7 (by decide) (fun c7 => ?_) (fun c7 => ?_)
  · refine z_iconst (v := 0) C d_MM_rollAt_24 (by decide) ?_
    exact J false (by rw [bI0 c7]; rfl)
  · refine z_iload_n C d_MM_rollAt_10 rfl rfl ?_
    refine z_iconst (v := 0) C d_MM_rollAt_11 (by decide) ?_
    refine z_bipush (v := 6) C d_MM_rollAt_12 (by decide) ?_
    refine z_callS (n := 3) (As := [.int t, .int 0, .int 6]) (rest := [.int 1, .ref mo]) (r1 := 1) (mc1 := 0) (ms1 := 0) C d_MM_rollAt_14 k_857 k_855 k_856 k_5 (by decide +kernel) rfl (by decide) (by decide) (Nat.le_of_ble_eq_true rfl) (by first | decide | omega) (by first | decide | omega) rfl ?_
    refine ct_MM_in ?_
    dsimp only [zps]
    rw [inN7]
    refine z_if_eq 24 C d_MM_rollAt_17 (by decide) (fun c17 => ?_) (fun c17 => ?_)
    · refine z_iconst (v := 0) C d_MM_rollAt_24 (by decide) ?_
      exact J false (by rw [bI0 c17, Bool.and_false])
    · refine z_iconst (v := 1) C d_MM_rollAt_20 (by decide) ?_
      refine z_goto 25 C d_MM_rollAt_21 (by decide) ?_
      exact J true (by rw [bI1 c7, bI1 c17]; rfl)
abbrev rdF (F : FT) (r : Nat) : FT := sF F 5 (upd (F 5) r (F 5 r + 1))
abbrev reF (S : CS) (F : FT) (r fm i : Nat) : FT := sF (rdF F r) 12 (fil (F 12) (r * 60) i (fun q => bI (stB F S.mv r q fm)))
set_option maxRecDepth 100000 in
theorem ct_MM_round {a : Int32} (hM : RepM g T h mo A th S F) (hv : mvR S F) (hb : S.ps.length ≤ 60) (hb2 : S.ro.length ≤ 40) (hb3 : S.md.length ≤ 30) (hmd : ∀ (i : Nat) (e : MdT), S.md[i]? = some e → F 14 i = e.op) (hf : ∀ o, o < S.ro.length → ∃ fm, fm ≤ S.mv.length ∧ F 6 o = nI fm)
    (kf : ∀ st, st = (inN a S.ro.length && (decide (F 5 a.toNatClampNeg < 3) && decide (S.md.countP (fun e => e.op ≠ 0) = 0))) → (inN a S.ro.length && true && st && true) = false → ∀ h1, RepM g T h1 mo A (goT 5 (inN a S.ro.length) true st true) S F → ExM T h h1 → PR (some (.int 0)) h1)
    (ks1 : ∀ r fm, r < S.ro.length → a = nI r → F 5 r < 3 → S.md.countP (fun e => e.op ≠ 0) = 0 → fm ≤ S.mv.length → F 6 r = nI fm → F 5 r + 1 < 3 → ∀ h1, RepM g T h1 mo A 0 S (rdF F r) → ExM T h h1 → PR (some (.int (nI (cnt (opM F S.mv r fm) 0 S.ps.length)))) h1)
    (ks2 : ∀ r fm, r < S.ro.length → a = nI r → F 5 r < 3 → S.md.countP (fun e => e.op ≠ 0) = 0 → fm ≤ S.mv.length → F 6 r = nI fm → ¬ F 5 r + 1 < 3 → ∀ h1, RepM g T h1 mo A 0 S (sF (reF S F r fm S.ps.length) 6 (upd (F 6) r (nI S.mv.length))) → ExM T h h1 → PR (some (.int (nI (cnt (opM F S.mv r fm) 0 S.ps.length)))) h1) : Ct g y_MM_round w_MM_round 4 0 0 [.ref mo, .int a] h PR PX := by
  refine Ct_intro (cc := c_MM_round) (nL := 5) (ret := (some FieldType.int)) (ls := [some (.ref mo), some (.int a), none, none, none]) (by decide) (Nat.le_of_ble_eq_true rfl) rfl rfl ?_
  intro p e R s m args below meth c C ht hname
  have hcp := List.countP_le_length (l := S.md) (p := fun e => decide (e.op ≠ 0))
  have loop : ∀ (r fm : Nat) (z2 : Option Value) (v3 : Int32), r < S.ro.length → fm ≤ S.mv.length → F 6 r = nI fm → ∀ (j i : Nat) (h5 : Hp), i + j = S.ps.length → RepM g T h5 mo A 0 S (reF S F r fm i) → (∀ h6, RepM g T h6 mo A 0 S (reF S F r fm S.ps.length) → ExM T h5 h6 → ∀ z4, Z g 5 0 0 p e R s m args below meth c (vx_MQ below (zQ g PR) (zX g PX) args s 0 0 (zA g)) 0 0 110 [some (.ref mo), some (.int (nI r)), z2, some (.int v3), z4] [] h6) → Z g 5 0 0 p e R s m args below meth c (vx_MQ below (zQ g PR) (zX g PX) args s 0 0 (zA g)) 0 0 76 [some (.ref mo), some (.int (nI r)), z2, some (.int v3), some (.int (nI i))] [] h5 := by
    intro r fm z2 v3 hr hfm hF j
    induction j with
    | zero =>
      intro i h5 hi r1 hk
      have : i = S.ps.length := by omega
      subst this
      refine z_iload C d_MM_round_76 rfl ?_
      refine z_aload_n C d_MM_round_78 rfl rfl ?_
      refine z_get (ci := 8) (T := T_MM) (N := 29) C d_MM_round_79 2 i_MM rfl (by decide) k_749 (fun _ q => q) (r1.1) (by rfl) ?_
      refine z_icmp_ge 110 C d_MM_round_82 (by decide) (fun c82 => ?_) (fun c82 => ?_)
      · exact hk h5 r1 ExM.rf _
      · exact absurd (Int32.le_refl _) c82
    | succ j ih =>
      intro i h5 hi r1 hk
      refine z_iload C d_MM_round_76 rfl ?_
      refine z_aload_n C d_MM_round_78 rfl rfl ?_
      refine z_get (ci := 8) (T := T_MM) (N := 29) C d_MM_round_79 2 i_MM rfl (by decide) k_749 (fun _ q => q) (r1.1) (by rfl) ?_
      refine z_icmp_ge 110 C d_MM_round_82 (by decide) (fun c82 => ?_) (fun c82 => ?_)
      · exact absurd c82 (nI_ge (by omega) (by omega))
      · refine z_aload_n C d_MM_round_85 rfl rfl ?_
        refine z_get (ci := 8) (T := T_MM) (N := 29) C d_MM_round_86 17 i_MM rfl (by decide) k_764 (fun _ q => q) (r1.1) (by rfl) ?_
        refine z_iload_n C d_MM_round_89 rfl rfl ?_
        refine z_bipush (v := 60) C d_MM_round_90 (by decide) ?_
        refine z_imul C d_MM_round_92 ?_
        refine z_iload C d_MM_round_93 rfl ?_
        refine z_iadd C d_MM_round_95 ?_
        rw [nI60]
        refine z_aload_n C d_MM_round_96 rfl rfl ?_
        refine z_iload_n C d_MM_round_97 rfl rfl ?_
        refine z_iload C d_MM_round_98 rfl ?_
        refine z_callV (n := 2) (As := [.int (nI r), .int (nI i)]) (rest := [.int (nI (r * 60 + i)), .ref (A 12)]) (r1 := 2) (mc1 := 0) (ms1 := 0) (ci := 8) (T0 := T_MM) C d_MM_round_100 k_912 k_909 k_911 ks_33 k_5 (by decide +kernel) rfl rfl (r1.1) (by decide) (by decide) (Nat.le_of_ble_eq_true rfl) (by first | decide | omega) (by first | decide | omega) rfl ?_
        refine ct_MM_isStill (fm := fm) r1 hv (by omega) (by omega) hfm hF ?_
        dsimp only [zps]
        rw [show stB (reF S F r fm i) S.mv r i fm = stB F S.mv r i fm from rfl]
        refine z_zast C d_MM_round_103 (r1.a12) (vp_in_nI (by omega) (by decide)) (by first | rfl | assumption | exact bI_nar _) ?_
        rw [nI_clamp (by omega)]
        have r2 := r1.put (j := 12) (by decide) (upd (reF S F r fm i 12) (r * 60 + i) (bI (stB F S.mv r i fm)))
        have e9 : upd (reF S F r fm i 12) (r * 60 + i) (bI (stB F S.mv r i fm)) = fil (F 12) (r * 60) (i + 1) (fun q => bI (stB F S.mv r q fm)) := by
          rw [show reF S F r fm i 12 = fil (F 12) (r * 60) i (fun q => bI (stB F S.mv r q fm)) from sF_s]
          exact fil_s (F 12) (r * 60) i (fun q => bI (stB F S.mv r q fm))
        have e8 := r1.exP (j := 12) (by decide) (e := mmA g 12 (upd (reF S F r fm i 12) (r * 60 + i) (bI (stB F S.mv r i fm))))
        rw [e9, sF_sF] at r2
        rw [e9] at e8
        rw [e9]
        refine z_iinc C d_MM_round_104 rfl (by decide) rfl ?_
        simp only [List.set, zi1, zim1]
        rw [nI_1]
        refine z_goto 76 C d_MM_round_107 (by decide) ?_
        exact ih (i + 1) _ (by omega) r2 (fun h6 r6 e6 => hk h6 r6 (e8.trans e6))
  have J : ∀ st, st = (inN a S.ro.length && (decide (F 5 a.toNatClampNeg < 3) && decide (S.md.countP (fun e => e.op ≠ 0) = 0))) → Z g 5 0 0 p e R s m args below meth c (vx_MQ below (zQ g PR) (zX g PX) args s 0 0 (zA g)) 0 0 36 [some (.ref mo), some (.int a), some (.int (bI (inN a S.ro.length))), none, none] [.int (bI st), .int 1, .int (bI (inN a S.ro.length)), .int 5, .ref mo] h := by
    intro st h1
    refine z_iconst (v := 1) C d_MM_round_36 (by decide) ?_
    refine z_callV (n := 5) (As := [.int 5, .int (bI (inN a S.ro.length)), .int 1, .int (bI st), .int 1]) (rest := []) (r1 := 1) (mc1 := 0) (ms1 := 0) (ci := 8) (T0 := T_MM) C d_MM_round_37 k_846 k_843 k_845 ks_25 k_5 (by decide +kernel) rfl rfl (hM.1) (by decide) (by decide) (Nat.le_of_ble_eq_true rfl) (by first | decide | omega) (by first | decide | omega) rfl ?_
    refine ct_MM_goes (kn := inN a S.ro.length) (rg := true) (st := st) (rm := true) hM (fun h5 r1 e1 => ?_)
    dsimp only [zps]
    refine z_if_ne 45 C d_MM_round_40 (by decide) (fun c40 => ?_) (fun c40 => ?_)
    · obtain ⟨g1, -, g3, -⟩ := b4f (bI1 c40)
      subst g3
      rw [g1] at r1
      rw [g1, Bool.true_and] at h1
      have i1 := (Bool.and_eq_true_iff.mp h1.symm)
      obtain ⟨r, hr, rfl⟩ := inN_t (by omega) g1
      obtain ⟨fm, f1, f2⟩ := hf r hr
      have q1 := of_decide_eq_true i1.1
      have q2 := of_decide_eq_true i1.2
      rw [nI_clamp (by omega)] at q1
      have k1 := ks1 r fm hr rfl q1 q2 f1 f2
      have k2 := ks2 r fm hr rfl q1 q2 f1 f2
      clear ks1 ks2 kf
      have hin : vp_in (nI r) 40 := vp_in_nI (by omega) (by decide)
      have hcl : (nI r).toNatClampNeg = r := nI_clamp (by omega)
      refine z_aload_n C d_MM_round_45 rfl rfl ?_
      refine z_iload_n C d_MM_round_46 rfl rfl ?_
      refine z_callV (n := 1) (As := [.int (nI r)]) (rest := []) (r1 := 3) (mc1 := 0) (ms1 := 0) (ci := 8) (T0 := T_MM) C d_MM_round_47 k_908 k_905 k_907 ks_32 k_5 (by decide +kernel) rfl rfl (r1.1) (by decide) (by decide) (Nat.le_of_ble_eq_true rfl) (by first | decide | omega) (by first | decide | omega) rfl ?_
      refine ct_MM_open r1 hv hb (by omega) f1 f2 ?_
      dsimp only [zps]
      refine z_istore_n C d_MM_round_50 rfl (by decide) rfl ?_
      dsimp only [List.set]
      refine z_aload_n C d_MM_round_51 rfl rfl ?_
      refine z_get (ci := 8) (T := T_MM) (N := 29) C d_MM_round_52 10 i_MM rfl (by decide) k_757 (fun _ q => q) (r1.1) (by rfl) ?_
      refine z_iload_n C d_MM_round_55 rfl rfl ?_
      refine z_dup2 C d_MM_round_56 rfl rfl ?_
      refine z_iald C d_MM_round_57 (r1.a5) hin ?_
      rw [hcl]
      refine z_iconst (v := 1) C d_MM_round_58 (by decide) ?_
      refine z_iadd C d_MM_round_59 ?_
      refine z_iast C d_MM_round_60 (r1.a5) hin ?_
      rw [hcl]
      have r2 := r1.put (j := 5) (by decide) (upd (F 5) r (F 5 r + 1))
      have e2 := e1.trans (r1.exP (j := 5) (by decide) (e := mmA g 5 (upd (F 5) r (F 5 r + 1))))
      have a5 : zu h5 (A 5) (mmA g 5 (upd (F 5) r (F 5 r + 1))) (A 5) = some (ia g 40 (upd (F 5) r (F 5 r + 1))) := r2.a5
      refine z_aload_n C d_MM_round_61 rfl rfl ?_
      refine z_get (ci := 8) (T := T_MM) (N := 29) C d_MM_round_62 10 i_MM rfl (by decide) k_757 (fun _ q => q) (r2.1) (by rfl) ?_
      refine z_iload_n C d_MM_round_65 rfl rfl ?_
      refine z_iald C d_MM_round_66 (a5) hin ?_
      rw [hcl, show upd (F 5) r (F 5 r + 1) r = F 5 r + 1 from if_pos rfl]
      refine z_iconst (v := 3) C d_MM_round_67 (by decide) ?_
      refine z_icmp_ge 73 C d_MM_round_68 (by decide) (fun c68 => ?_) (fun c68 => ?_)
      · have r3 : RepM g T (zu h5 (A 5) (mmA g 5 (upd (F 5) r (F 5 r + 1)))) mo A 0 S (reF S F r fm 0) := by
          rw [reF, fil_0]
          rw [show F 12 = rdF F r 12 from rfl, sF_id]
          exact r2
        refine z_iconst (v := 0) C d_MM_round_73 (by decide) ?_
        refine z_istore C d_MM_round_74 (by decide) rfl ?_
        dsimp only [List.set]
        refine loop r fm _ _ hr f1 f2 S.ps.length 0 _ (by omega) r3 (fun h6 r6 e6 z4 => ?_)
        have a6 : h6 (A 6) = some (ia g 40 (F 6)) := r6.a6
        refine z_aload_n C d_MM_round_110 rfl rfl ?_
        refine z_get (ci := 8) (T := T_MM) (N := 29) C d_MM_round_111 11 i_MM rfl (by decide) k_758 (fun _ q => q) (r6.1) (by rfl) ?_
        refine z_iload_n C d_MM_round_114 rfl rfl ?_
        refine z_aload_n C d_MM_round_115 rfl rfl ?_
        refine z_get (ci := 8) (T := T_MM) (N := 29) C d_MM_round_116 4 i_MM rfl (by decide) k_751 (fun _ q => q) (r6.1) (by rfl) ?_
        refine z_iast C d_MM_round_119 (a6) hin ?_
        rw [hcl]
        refine z_iload_n C d_MM_round_120 rfl rfl ?_
        refine z_iret C d_MM_round_121 ?_
        exact k2 (Int32.not_lt.mpr c68) _ (r6.put (j := 6) (by decide) (upd (F 6) r (nI S.mv.length))) ((e2.trans e6).trans (r6.exP (by decide)))
      · refine z_iload_n C d_MM_round_71 rfl rfl ?_
        refine z_iret C d_MM_round_72 ?_
        exact k1 (Int32.not_le.mp c68) _ r2 e2
    · refine z_iconst (v := 0) C d_MM_round_43 (by decide) ?_
      refine z_iret C d_MM_round_44 ?_
      exact kf st h1 (bI0 c40) h5 r1 e1
  refine z_aload_n C d_MM_round_0 rfl rfl ?_
  refine z_iload_n C d_MM_round_1 rfl rfl ?_
  refine z_callV (n := 1) (As := [.int a]) (rest := []) (r1 := 2) (mc1 := 0) (ms1 := 0) (ci := 8) (T0 := T_MM) C d_MM_round_2 k_896 k_893 k_895 ks_31 k_5 (by decide +kernel) rfl rfl (hM.1) (by decide) (by decide) (Nat.le_of_ble_eq_true rfl) (by first | decide | omega) (by first | decide | omega) rfl ?_
  refine ct_MM_isRoll hM hb2 ?_
  dsimp only [zps]
  refine z_istore_n C d_MM_round_5 rfl (by decide) rfl ?_
  dsimp only [List.set]
  refine z_aload_n C d_MM_round_6 rfl rfl ?_
  refine z_iconst (v := 5) C d_MM_round_7 (by decide) ?_
  refine z_iload_n C d_MM_round_8 rfl rfl ?_
  refine z_iconst (v := 1) C d_MM_round_9 (by decide) ?_
  refine z_iload_n C d_MM_round_10 rfl rfl ?_
  refine z_if_eq 35 C d_MM_round_11 (by decide) (fun c11 => ?_) (fun c11 => ?_)
  · refine z_iconst (v := 0) C d_MM_round_35 (by decide) ?_
    exact J false (by rw [bI0 c11]; rfl)
  · have g1 := bI1 c11
    obtain ⟨j, hj, hja⟩ := inN_t (by omega) g1
    have hin : vp_in a 40 := by rw [hja]; exact vp_in_nI (by omega) (by decide)
    refine z_aload_n C d_MM_round_14 rfl rfl ?_
    refine z_get (ci := 8) (T := T_MM) (N := 29) C d_MM_round_15 10 i_MM rfl (by decide) k_757 (fun _ q => q) (hM.1) (by rfl) ?_
    refine z_iload_n C d_MM_round_18 rfl rfl ?_
    refine z_iald C d_MM_round_19 (hM.a5) hin ?_
    refine z_iconst (v := 3) C d_MM_round_20 (by decide) ?_
    refine z_icmp_ge 35 C d_MM_round_21 (by decide) (fun c21 => ?_) (fun c21 => ?_)
    · refine z_iconst (v := 0) C d_MM_round_35 (by decide) ?_
      exact J false (by rw [decide_eq_false (Int32.not_lt.mpr c21), Bool.false_and, Bool.and_false])
    · refine z_aload_n C d_MM_round_24 rfl rfl ?_
      refine z_callV (n := 0) (As := []) (rest := [.int 1, .int (bI (inN a S.ro.length)), .int 5, .ref mo]) (r1 := 1) (mc1 := 0) (ms1 := 0) (ci := 8) (T0 := T_MM) C d_MM_round_25 k_888 k_885 k_887 ks_30 k_5 (by decide +kernel) rfl rfl (hM.1) (by decide) (by decide) (Nat.le_of_ble_eq_true rfl) (by first | decide | omega) (by first | decide | omega) rfl ?_
      refine ct_MM_openMaydays hM hb3 hmd ?_
      dsimp only [zps]
      refine z_if_ne 35 C d_MM_round_28 (by decide) (fun c28 => ?_) (fun c28 => ?_)
      · refine z_iconst (v := 0) C d_MM_round_35 (by decide) ?_
        refine J false ?_
        rw [decide_eq_false (p := S.md.countP (fun e => decide (e.op ≠ 0)) = 0) (fun z => c28 (by rw [z]; rfl)), Bool.and_false, Bool.and_false]
      · refine z_iconst (v := 1) C d_MM_round_31 (by decide) ?_
        refine z_goto 36 C d_MM_round_32 (by decide) ?_
        refine J true ?_
        have h0 : S.md.countP (fun e => decide (e.op ≠ 0)) = 0 := Classical.byContradiction fun q => nI_ne0 (Nat.pos_of_ne_zero q) (by omega) c28
        rw [decide_eq_true h0, g1, decide_eq_true (Int32.not_le.mp c21)]
        rfl
end NB
