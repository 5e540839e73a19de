/-! THE LAW'S BODY -/
theorem cmp_self (x : Int64) : lg_cmp x x = 0 := by
  unfold lg_cmp
  simp
theorem in01 : vp_in 0 1 := by
  unfold vp_in
  decide
/-- what holds between two calls -/
def LI (g : zG) (T : Tg) (h : Hp) (x mo ou : Nat) (A : Nat → Nat) (S : CS) (F : FT) : Prop := RepC g T h x S ∧ (∃ th, RepM g T h mo A th S F) ∧ Rel S F ∧ (∃ f, h ou = some (la g 1 f)) ∧ T ou = (0, 30)
theorem RepM.keepO {g : zG} {T T1 : Tg} {h h1 : Hp} {mo ou : Nat} {A : Nat → Nat} {th : Int32} {S : CS} {F : FT} (hM : RepM g T h mo A th S F) (hTo : T ou = (0, 30)) (ex : ExO g ou T h T1 h1) : RepM g T1 h1 mo A th S F := by
  obtain ⟨m1, m2, m3⟩ := hM
  have no : ∀ q, T q ≠ (0, 30) → q ≠ ou := fun q hq z => hq (by rw [z, hTo])
  refine ⟨(ex.2.1 mo (zne m1) (by rw [m2]) (no mo (by rw [m2]; decide))).trans m1, (ex.1 mo (zne m1)).trans m2, fun j hj => ?_⟩
  obtain ⟨n1, n2⟩ := m3 j hj
  exact ⟨(ex.2.1 _ (zne n1) (by rw [n2]) (no _ (by rw [n2]; intro z; injection z with _ z; omega))).trans n1, (ex.1 _ (zne n1)).trans n2⟩
theorem RepC.keepM {g : zG} {T : Tg} {h h1 : Hp} {x : Nat} {S : CS} (hR : RepC g T h x S) (ex : ExM T h h1) : RepC g T h1 x S := hR.ext (fun _ _ => rfl) (fun q _ hk => ex.1 q (fun z => absurd z hk))
theorem ExM.out {T : Tg} {h h1 : Hp} {ou : Nat} (ex : ExM T h h1) (hTo : T ou = (0, 30)) : h1 ou = h ou := ex.1 ou (fun _ => by rw [hTo]; decide)
section LAW
variable {g : zG} {mc ms : Nat} {p : Program} {e : Env} {R : Room} {s : State} {m : MethodId} {args : Array Value} {below : List Frame} {meth : Method} {c : Code} {Q : State → Prop} {rc rs : Nat} {h : Hp} {T : Tg} {x mo ou b L i : Nat} {A : Nat → Nat} {S : CS} {F : FT} {xs : Nat → Int32} {v5 v6 : Option Value}
theorem z_slen {own : String} {cc : ByteArray} {nL r pc : Nat} {ret : Option FieldType} {ls : List (Option Value)} {st : List Value} (C : zC g own cc nL ret r mc ms p e R s m args below meth c) (d : decode cc pc = .ok (.arraylength, 1)) (hX : va_X b L xs s s.heap) (hbl : b < s.heap.size) (hbA : ¬ zA g b) (kk : Z g nL mc ms p e R s m args below meth c Q rc rs (pc + 1) ls (.int (nI L) :: st) h) : Z g nL mc ms p e R s m args below meth c Q rc rs pc ls (.ref b :: st) h := fun ws H locs lsA cells slots a1 a2 a3 a4 a5 a6 a7 => va_slen C.1 C.2.1 hX hbl hbA a4 d (kk ws H locs lsA cells slots a1 a2 a3 a4 a5 a6 a7)
theorem z_sld {own : String} {cc : ByteArray} {nL r pc : Nat} {ret : Option FieldType} {ls : List (Option Value)} {st : List Value} {j : Int32} (C : zC g own cc nL ret r mc ms p e R s m args below meth c) (d : decode cc pc = .ok (.iaload, 1)) (hX : va_X b L xs s s.heap) (hbl : b < s.heap.size) (hbA : ¬ zA g b) (hin : vp_in j L) (kk : Z g nL mc ms p e R s m args below meth c Q rc rs (pc + 1) ls (.int (xs j.toNatClampNeg) :: st) h) : Z g nL mc ms p e R s m args below meth c Q rc rs pc ls (.int j :: .ref b :: st) h := fun ws H locs lsA cells slots a1 a2 a3 a4 a5 a6 a7 => va_sld C.1 C.2.1 hX hbl hbA a4 hin d (kk ws H locs lsA cells slots a1 a2 a3 a4 a5 a6 a7)
set_option maxRecDepth 100000 in
theorem lb_person (C : zC g "RollCallsLaw" code 7 (some .boolean) 11 mc ms p e R s m args below meth c) (hX : va_X b L xs s s.heap) (hbl : b < s.heap.size) (hbA : ¬ zA g b) (i1 : vp_in (nI i + 1) L) (i2 : vp_in (nI i + 2) L) (i3 : vp_in (nI i + 3) L) (hI : LI g T h x mo ou A S F) (hrc : 6 ≤ rc) (hrs : 540 ≤ rs) (k : ∀ (T1 : Tg) (h1 : Hp) (S1 : CS) (F1 : FT) (w5 w6 : Option Value), LI g T1 h1 x mo ou A S1 F1 → Z g 7 mc ms p e R s m args below meth c Q (rc - 6) (rs - 540) 1304 [some (.ref b), some (.ref x), some (.ref mo), some (.ref ou), some (.int (nI i)), w5, w6] [] h1) : Z g 7 mc ms p e R s m args below meth c Q rc rs 132 [some (.ref b), some (.ref x), some (.ref mo), some (.ref ou), some (.int (nI i)), v5, v6] [] h := by
  obtain ⟨hR, ⟨th, hM⟩, hL, ⟨fo, ho⟩, hTo⟩ := hI
  refine z_aload_n C d_LW_law_132 rfl rfl ?_
  refine z_aload_n C d_LW_law_133 rfl rfl ?_
  refine z_callSW (n := 2) (As := [.ref x, .ref ou]) (rest := []) (r1 := 10) (mc1 := 6) (ms1 := 540) C d_LW_law_134 k_87 k_85 k_86 k_0 (by decide +kernel) rfl (by decide) (by decide) (Nat.le_of_ble_eq_true rfl) (by first | decide | omega) (by first | decide | omega) rfl ?_
  refine wx_person hR ho hTo (fun kc ans S1 h1 T1 oc hR1 hx1 hv => ?_)
  dsimp only [zps]
  refine z_istore C d_LW_law_137 (by decide) rfl ?_
  dsimp only [List.set]
  have hTo1 : T1 ou = (0, 30) := (hx1.1 ou (zne ho)).trans hTo
  have hM1 := hM.keepO hTo hx1
  refine z_aload_n C d_LW_law_139 rfl rfl ?_
  refine z_callV (n := 0) (As := []) (rest := []) (r1 := 2) (mc1 := 0) (ms1 := 0) (ci := 8) (T0 := T_MM) C d_LW_law_140 k_842 k_839 k_840 k_841 k_5 (by decide +kernel) rfl rfl (hM1.1) (by decide) (by decide) (Nat.le_of_ble_eq_true rfl) (by first | decide | omega) (by first | decide | omega) rfl ?_
  refine mx_person hM1 hL oc (fun b0 F1 h2 hM2 hL2 hx2 hb => ?_)
  dsimp only [zps]
  refine z_istore C d_LW_law_143 (by decide) rfl ?_
  dsimp only [List.set]
  refine z_aload_n C d_LW_law_145 rfl rfl ?_
  refine z_callV (n := 0) (As := []) (rest := []) (r1 := 1) (mc1 := 0) (ms1 := 0) (ci := 8) (T0 := T_MM) C d_LW_law_146 k_838 k_835 k_836 k_837 k_5 (by decide +kernel) rfl rfl (hM2.1) (by decide) (by decide) (Nat.le_of_ble_eq_true rfl) (by first | decide | omega) (by first | decide | omega) rfl ?_
  refine ct_MM_thrown hM2 ?_
  dsimp only [zps]
  have hI2 : LI g T1 h2 x mo ou A S1 F1 := ⟨hR1.keepM hx2, ⟨_, hM2⟩, hL2, hx1.2.2.2.imp (fun f hf => (hx2.out hTo1).trans hf), hTo1⟩
  refine z_iload C d_LW_law_149 rfl ?_
  refine z_icmp_eq 156 C d_LW_law_151 (by decide) (fun cq => ?_) (fun cq => ?_)
  rotate_left
  · exact absurd rfl cq
  refine z_iload C d_LW_law_156 rfl ?_
  refine z_if_ne 173 C d_LW_law_158 (by decide) (fun cz => ?_) (fun cz => ?_)
  · refine z_goto 1304 C d_LW_law_173 (by decide) ?_
    refine z_less (rc1 := rc - 6) (rs1 := rs - 540) (by omega) (by omega) ?_
    exact k T1 h2 S1 F1 _ _ hI2
  · obtain ⟨f, hf, hf0⟩ := hv cz
    have hf2 : h2 ou = some (la g 1 f) := (hx2.out hTo1).trans hf
    refine z_aload_n C d_LW_law_161 rfl rfl ?_
    refine z_iconst (v := 0) C d_LW_law_162 (by decide) ?_
    refine z_lald C d_LW_law_163 (hf2) in01 ?_
    refine z_iload C d_LW_law_164 rfl ?_
    refine z_i2l C d_LW_law_166 ?_
    refine z_lcmp C d_LW_law_167 ?_
    rw [show f (0 : Int32).toNatClampNeg = b0.toInt64 from hf0.trans (by rw [hb cz]), cmp_self]
    refine z_if_eq 173 C d_LW_law_168 (by decide) (fun cw => ?_) (fun cw => ?_)
    · refine z_goto 1304 C d_LW_law_173 (by decide) ?_
      refine z_less (rc1 := rc - 6) (rs1 := rs - 540) (by omega) (by omega) ?_
      exact k T1 h2 S1 F1 _ _ hI2
    · exact absurd rfl cw
set_option maxRecDepth 100000 in
theorem lb_enter (C : zC g "RollCallsLaw" code 7 (some .boolean) 11 mc ms p e R s m args below meth c) (hX : va_X b L xs s s.heap) (hbl : b < s.heap.size) (hbA : ¬ zA g b) (i1 : vp_in (nI i + 1) L) (i2 : vp_in (nI i + 2) L) (i3 : vp_in (nI i + 3) L) (hI : LI g T h x mo ou A S F) (hrc : 6 ≤ rc) (hrs : 540 ≤ rs) (k : ∀ (T1 : Tg) (h1 : Hp) (S1 : CS) (F1 : FT) (w5 w6 : Option Value), LI g T1 h1 x mo ou A S1 F1 → Z g 7 mc ms p e R s m args below meth c Q (rc - 6) (rs - 540) 1304 [some (.ref b), some (.ref x), some (.ref mo), some (.ref ou), some (.int (nI i)), w5, w6] [] h1) : Z g 7 mc ms p e R s m args below meth c Q rc rs 176 [some (.ref b), some (.ref x), some (.ref mo), some (.ref ou), some (.int (nI i)), v5, v6] [] h := by
  obtain ⟨hR, ⟨th, hM⟩, hL, ⟨fo, ho⟩, hTo⟩ := hI
  refine z_aload_n C d_LW_law_176 rfl rfl ?_
  refine z_aload_n C d_LW_law_177 rfl rfl ?_
  refine z_iload C d_LW_law_178 rfl ?_
  refine z_iconst (v := 1) C d_LW_law_180 (by decide) ?_
  refine z_iadd C d_LW_law_181 ?_
  refine z_sld C d_LW_law_182 hX hbl hbA i1 ?_
  refine z_aload_n C d_LW_law_183 rfl rfl ?_
  refine z_iload C d_LW_law_184 rfl ?_
  refine z_iconst (v := 2) C d_LW_law_186 (by decide) ?_
  refine z_iadd C d_LW_law_187 ?_
  refine z_sld C d_LW_law_188 hX hbl hbA i2 ?_
  refine z_callSW (n := 3) (As := [.ref x, .int (xs (nI i + 1).toNatClampNeg), .int (xs (nI i + 2).toNatClampNeg)]) (rest := []) (r1 := 10) (mc1 := 6) (ms1 := 540) C d_LW_law_189 k_247 k_245 k_246 k_0 (by decide +kernel) rfl (by decide) (by decide) (Nat.le_of_ble_eq_true rfl) (by first | decide | omega) (by first | decide | omega) rfl ?_
  refine wx_enter hR ho hTo (fun kc ans S1 h1 T1 oc hR1 hx1 => ?_)
  dsimp only [zps]
  refine z_istore C d_LW_law_192 (by decide) rfl ?_
  dsimp only [List.set]
  have hTo1 : T1 ou = (0, 30) := (hx1.1 ou (zne ho)).trans hTo
  have hM1 := hM.keepO hTo hx1
  refine z_aload_n C d_LW_law_194 rfl rfl ?_
  refine z_aload_n C d_LW_law_195 rfl rfl ?_
  refine z_iload C d_LW_law_196 rfl ?_
  refine z_iconst (v := 1) C d_LW_law_198 (by decide) ?_
  refine z_iadd C d_LW_law_199 ?_
  refine z_sld C d_LW_law_200 hX hbl hbA i1 ?_
  refine z_aload_n C d_LW_law_201 rfl rfl ?_
  refine z_iload C d_LW_law_202 rfl ?_
  refine z_iconst (v := 2) C d_LW_law_204 (by decide) ?_
  refine z_iadd C d_LW_law_205 ?_
  refine z_sld C d_LW_law_206 hX hbl hbA i2 ?_
  refine z_callV (n := 2) (As := [.int (xs (nI i + 1).toNatClampNeg), .int (xs (nI i + 2).toNatClampNeg)]) (rest := []) (r1 := 3) (mc1 := 0) (ms1 := 0) (ci := 8) (T0 := T_MM) C d_LW_law_207 k_850 k_847 k_848 k_849 k_5 (by decide +kernel) rfl rfl (hM1.1) (by decide) (by decide) (Nat.le_of_ble_eq_true rfl) (by first | decide | omega) (by first | decide | omega) rfl ?_
  refine mx_enter hM1 hL oc (fun F1 h2 hM2 hL2 hx2 => ?_)
  dsimp only [zps]
  refine z_aload_n C d_LW_law_210 rfl rfl ?_
  refine z_callV (n := 0) (As := []) (rest := []) (r1 := 1) (mc1 := 0) (ms1 := 0) (ci := 8) (T0 := T_MM) C d_LW_law_211 k_838 k_835 k_836 k_837 k_5 (by decide +kernel) rfl rfl (hM2.1) (by decide) (by decide) (Nat.le_of_ble_eq_true rfl) (by first | decide | omega) (by first | decide | omega) rfl ?_
  refine ct_MM_thrown hM2 ?_
  dsimp only [zps]
  have hI2 : LI g T1 h2 x mo ou A S1 F1 := ⟨hR1.keepM hx2, ⟨_, hM2⟩, hL2, hx1.2.2.2.imp (fun f hf => (hx2.out hTo1).trans hf), hTo1⟩
  refine z_iload C d_LW_law_214 rfl ?_
  refine z_icmp_eq 221 C d_LW_law_216 (by decide) (fun cq => ?_) (fun cq => ?_)
  rotate_left
  · exact absurd rfl cq
  refine z_goto 1304 C d_LW_law_221 (by decide) ?_
  refine z_less (rc1 := rc - 6) (rs1 := rs - 540) (by omega) (by omega) ?_
  exact k T1 h2 S1 F1 _ _ hI2
set_option maxRecDepth 100000 in
theorem lb_leave (C : zC g "RollCallsLaw" code 7 (some .boolean) 11 mc ms p e R s m args below meth c) (hX : va_X b L xs s s.heap) (hbl : b < s.heap.size) (hbA : ¬ zA g b) (i1 : vp_in (nI i + 1) L) (i2 : vp_in (nI i + 2) L) (i3 : vp_in (nI i + 3) L) (hI : LI g T h x mo ou A S F) (hrc : 6 ≤ rc) (hrs : 540 ≤ rs) (k : ∀ (T1 : Tg) (h1 : Hp) (S1 : CS) (F1 : FT) (w5 w6 : Option Value), LI g T1 h1 x mo ou A S1 F1 → Z g 7 mc ms p e R s m args below meth c Q (rc - 6) (rs - 540) 1304 [some (.ref b), some (.ref x), some (.ref mo), some (.ref ou), some (.int (nI i)), w5, w6] [] h1) : Z g 7 mc ms p e R s m args below meth c Q rc rs 224 [some (.ref b), some (.ref x), some (.ref mo), some (.ref ou), some (.int (nI i)), v5, v6] [] h := by
  obtain ⟨hR, ⟨th, hM⟩, hL, ⟨fo, ho⟩, hTo⟩ := hI
  refine z_aload_n C d_LW_law_224 rfl rfl ?_
  refine z_aload_n C d_LW_law_225 rfl rfl ?_
  refine z_iload C d_LW_law_226 rfl ?_
  refine z_iconst (v := 1) C d_LW_law_228 (by decide) ?_
  refine z_iadd C d_LW_law_229 ?_
  refine z_sld C d_LW_law_230 hX hbl hbA i1 ?_
  refine z_callSW (n := 2) (As := [.ref x, .int (xs (nI i + 1).toNatClampNeg)]) (rest := []) (r1 := 10) (mc1 := 6) (ms1 := 540) C d_LW_law_231 k_334 k_332 k_333 k_0 (by decide +kernel) rfl (by decide) (by decide) (Nat.le_of_ble_eq_true rfl) (by first | decide | omega) (by first | decide | omega) rfl ?_
  refine wx_leave hR ho hTo (fun kc ans S1 h1 T1 oc hR1 hx1 => ?_)
  dsimp only [zps]
  refine z_istore C d_LW_law_234 (by decide) rfl ?_
  dsimp only [List.set]
  have hTo1 : T1 ou = (0, 30) := (hx1.1 ou (zne ho)).trans hTo
  have hM1 := hM.keepO hTo hx1
  refine z_aload_n C d_LW_law_236 rfl rfl ?_
  refine z_aload_n C d_LW_law_237 rfl rfl ?_
  refine z_iload C d_LW_law_238 rfl ?_
  refine z_iconst (v := 1) C d_LW_law_240 (by decide) ?_
  refine z_iadd C d_LW_law_241 ?_
  refine z_sld C d_LW_law_242 hX hbl hbA i1 ?_
  refine z_callV (n := 1) (As := [.int (xs (nI i + 1).toNatClampNeg)]) (rest := []) (r1 := 3) (mc1 := 0) (ms1 := 0) (ci := 8) (T0 := T_MM) C d_LW_law_243 k_876 k_873 k_874 k_875 k_5 (by decide +kernel) rfl rfl (hM1.1) (by decide) (by decide) (Nat.le_of_ble_eq_true rfl) (by first | decide | omega) (by first | decide | omega) rfl ?_
  refine mx_leave hM1 hL oc (fun F1 h2 hM2 hL2 hx2 => ?_)
  dsimp only [zps]
  refine z_aload_n C d_LW_law_246 rfl rfl ?_
  refine z_callV (n := 0) (As := []) (rest := []) (r1 := 1) (mc1 := 0) (ms1 := 0) (ci := 8) (T0 := T_MM) C d_LW_law_247 k_838 k_835 k_836 k_837 k_5 (by decide +kernel) rfl rfl (hM2.1) (by decide) (by decide) (Nat.le_of_ble_eq_true rfl) (by first | decide | omega) (by first | decide | omega) rfl ?_
  refine ct_MM_thrown hM2 ?_
  dsimp only [zps]
  have hI2 : LI g T1 h2 x mo ou A S1 F1 := ⟨hR1.keepM hx2, ⟨_, hM2⟩, hL2, hx1.2.2.2.imp (fun f hf => (hx2.out hTo1).trans hf), hTo1⟩
  refine z_iload C d_LW_law_250 rfl ?_
  refine z_icmp_eq 257 C d_LW_law_252 (by decide) (fun cq => ?_) (fun cq => ?_)
  rotate_left
  · exact absurd rfl cq
  refine z_goto 1304 C d_LW_law_257 (by decide) ?_
  refine z_less (rc1 := rc - 6) (rs1 := rs - 540) (by omega) (by omega) ?_
  exact k T1 h2 S1 F1 _ _ hI2
set_option maxRecDepth 100000 in
theorem lb_guests (C : zC g "RollCallsLaw" code 7 (some .boolean) 11 mc ms p e R s m args below meth c) (hX : va_X b L xs s s.heap) (hbl : b < s.heap.size) (hbA : ¬ zA g b) (i1 : vp_in (nI i + 1) L) (i2 : vp_in (nI i + 2) L) (i3 : vp_in (nI i + 3) L) (hI : LI g T h x mo ou A S F) (hrc : 6 ≤ rc) (hrs : 540 ≤ rs) (k : ∀ (T1 : Tg) (h1 : Hp) (S1 : CS) (F1 : FT) (w5 w6 : Option Value), LI g T1 h1 x mo ou A S1 F1 → Z g 7 mc ms p e R s m args below meth c Q (rc - 6) (rs - 540) 1304 [some (.ref b), some (.ref x), some (.ref mo), some (.ref ou), some (.int (nI i)), w5, w6] [] h1) : Z g 7 mc ms p e R s m args below meth c Q rc rs 260 [some (.ref b), some (.ref x), some (.ref mo), some (.ref ou), some (.int (nI i)), v5, v6] [] h := by
  obtain ⟨hR, ⟨th, hM⟩, hL, ⟨fo, ho⟩, hTo⟩ := hI
  refine z_aload_n C d_LW_law_260 rfl rfl ?_
  refine z_aload_n C d_LW_law_261 rfl rfl ?_
  refine z_iload C d_LW_law_262 rfl ?_
  refine z_iconst (v := 1) C d_LW_law_264 (by decide) ?_
  refine z_iadd C d_LW_law_265 ?_
  refine z_sld C d_LW_law_266 hX hbl hbA i1 ?_
  refine z_aload_n C d_LW_law_267 rfl rfl ?_
  refine z_iload C d_LW_law_268 rfl ?_
  refine z_iconst (v := 2) C d_LW_law_270 (by decide) ?_
  refine z_iadd C d_LW_law_271 ?_
  refine z_sld C d_LW_law_272 hX hbl hbA i2 ?_
  refine z_callSW (n := 3) (As := [.ref x, .int (xs (nI i + 1).toNatClampNeg), .int (xs (nI i + 2).toNatClampNeg)]) (rest := []) (r1 := 10) (mc1 := 6) (ms1 := 540) C d_LW_law_273 k_342 k_340 k_341 k_0 (by decide +kernel) rfl (by decide) (by decide) (Nat.le_of_ble_eq_true rfl) (by first | decide | omega) (by first | decide | omega) rfl ?_
  refine wx_guests hR ho hTo (fun kc ans S1 h1 T1 oc hR1 hx1 => ?_)
  dsimp only [zps]
  refine z_istore C d_LW_law_276 (by decide) rfl ?_
  dsimp only [List.set]
  have hTo1 : T1 ou = (0, 30) := (hx1.1 ou (zne ho)).trans hTo
  have hM1 := hM.keepO hTo hx1
  refine z_aload_n C d_LW_law_278 rfl rfl ?_
  refine z_aload_n C d_LW_law_279 rfl rfl ?_
  refine z_iload C d_LW_law_280 rfl ?_
  refine z_iconst (v := 1) C d_LW_law_282 (by decide) ?_
  refine z_iadd C d_LW_law_283 ?_
  refine z_sld C d_LW_law_284 hX hbl hbA i1 ?_
  refine z_aload_n C d_LW_law_285 rfl rfl ?_
  refine z_iload C d_LW_law_286 rfl ?_
  refine z_iconst (v := 2) C d_LW_law_288 (by decide) ?_
  refine z_iadd C d_LW_law_289 ?_
  refine z_sld C d_LW_law_290 hX hbl hbA i2 ?_
  refine z_callV (n := 2) (As := [.int (xs (nI i + 1).toNatClampNeg), .int (xs (nI i + 2).toNatClampNeg)]) (rest := []) (r1 := 3) (mc1 := 0) (ms1 := 0) (ci := 8) (T0 := T_MM) C d_LW_law_291 k_880 k_877 k_878 k_879 k_5 (by decide +kernel) rfl rfl (hM1.1) (by decide) (by decide) (Nat.le_of_ble_eq_true rfl) (by first | decide | omega) (by first | decide | omega) rfl ?_
  refine mx_guests hM1 hL oc (fun F1 h2 hM2 hL2 hx2 => ?_)
  dsimp only [zps]
  refine z_aload_n C d_LW_law_294 rfl rfl ?_
  refine z_callV (n := 0) (As := []) (rest := []) (r1 := 1) (mc1 := 0) (ms1 := 0) (ci := 8) (T0 := T_MM) C d_LW_law_295 k_838 k_835 k_836 k_837 k_5 (by decide +kernel) rfl rfl (hM2.1) (by decide) (by decide) (Nat.le_of_ble_eq_true rfl) (by first | decide | omega) (by first | decide | omega) rfl ?_
  refine ct_MM_thrown hM2 ?_
  dsimp only [zps]
  have hI2 : LI g T1 h2 x mo ou A S1 F1 := ⟨hR1.keepM hx2, ⟨_, hM2⟩, hL2, hx1.2.2.2.imp (fun f hf => (hx2.out hTo1).trans hf), hTo1⟩
  refine z_iload C d_LW_law_298 rfl ?_
  refine z_icmp_eq 305 C d_LW_law_300 (by decide) (fun cq => ?_) (fun cq => ?_)
  rotate_left
  · exact absurd rfl cq
  refine z_goto 1304 C d_LW_law_305 (by decide) ?_
  refine z_less (rc1 := rc - 6) (rs1 := rs - 540) (by omega) (by omega) ?_
  exact k T1 h2 S1 F1 _ _ hI2
set_option maxRecDepth 100000 in
theorem lb_roll (C : zC g "RollCallsLaw" code 7 (some .boolean) 11 mc ms p e R s m args below meth c) (hX : va_X b L xs s s.heap) (hbl : b < s.heap.size) (hbA : ¬ zA g b) (i1 : vp_in (nI i + 1) L) (i2 : vp_in (nI i + 2) L) (i3 : vp_in (nI i + 3) L) (hI : LI g T h x mo ou A S F) (hrc : 6 ≤ rc) (hrs : 540 ≤ rs) (k : ∀ (T1 : Tg) (h1 : Hp) (S1 : CS) (F1 : FT) (w5 w6 : Option Value), LI g T1 h1 x mo ou A S1 F1 → Z g 7 mc ms p e R s m args below meth c Q (rc - 6) (rs - 540) 1304 [some (.ref b), some (.ref x), some (.ref mo), some (.ref ou), some (.int (nI i)), w5, w6] [] h1) : Z g 7 mc ms p e R s m args below meth c Q rc rs 308 [some (.ref b), some (.ref x), some (.ref mo), some (.ref ou), some (.int (nI i)), v5, v6] [] h := by
  obtain ⟨hR, ⟨th, hM⟩, hL, ⟨fo, ho⟩, hTo⟩ := hI
  refine z_aload_n C d_LW_law_308 rfl rfl ?_
  refine z_aload_n C d_LW_law_309 rfl rfl ?_
  refine z_iload C d_LW_law_310 rfl ?_
  refine z_iconst (v := 1) C d_LW_law_312 (by decide) ?_
  refine z_iadd C d_LW_law_313 ?_
  refine z_sld C d_LW_law_314 hX hbl hbA i1 ?_
  refine z_aload_n C d_LW_law_315 rfl rfl ?_
  refine z_callSW (n := 3) (As := [.ref x, .int (xs (nI i + 1).toNatClampNeg), .ref ou]) (rest := []) (r1 := 10) (mc1 := 6) (ms1 := 540) C d_LW_law_316 k_366 k_364 k_365 k_0 (by decide +kernel) rfl (by decide) (by decide) (Nat.le_of_ble_eq_true rfl) (by first | decide | omega) (by first | decide | omega) rfl ?_
  refine wx_roll hR ho hTo (fun kc ans S1 h1 T1 oc hR1 hx1 hv => ?_)
  dsimp only [zps]
  refine z_istore C d_LW_law_319 (by decide) rfl ?_
  dsimp only [List.set]
  have hTo1 : T1 ou = (0, 30) := (hx1.1 ou (zne ho)).trans hTo
  have hM1 := hM.keepO hTo hx1
  refine z_aload_n C d_LW_law_321 rfl rfl ?_
  refine z_aload_n C d_LW_law_322 rfl rfl ?_
  refine z_iload C d_LW_law_323 rfl ?_
  refine z_iconst (v := 1) C d_LW_law_325 (by decide) ?_
  refine z_iadd C d_LW_law_326 ?_
  refine z_sld C d_LW_law_327 hX hbl hbA i1 ?_
  refine z_callV (n := 1) (As := [.int (xs (nI i + 1).toNatClampNeg)]) (rest := []) (r1 := 3) (mc1 := 0) (ms1 := 0) (ci := 8) (T0 := T_MM) C d_LW_law_328 k_884 k_881 k_882 k_883 k_5 (by decide +kernel) rfl rfl (hM1.1) (by decide) (by decide) (Nat.le_of_ble_eq_true rfl) (by first | decide | omega) (by first | decide | omega) rfl ?_
  refine mx_roll hM1 hL oc (fun b0 F1 h2 hM2 hL2 hx2 hb => ?_)
  dsimp only [zps]
  refine z_istore C d_LW_law_331 (by decide) rfl ?_
  dsimp only [List.set]
  refine z_aload_n C d_LW_law_333 rfl rfl ?_
  refine z_callV (n := 0) (As := []) (rest := []) (r1 := 1) (mc1 := 0) (ms1 := 0) (ci := 8) (T0 := T_MM) C d_LW_law_334 k_838 k_835 k_836 k_837 k_5 (by decide +kernel) rfl rfl (hM2.1) (by decide) (by decide) (Nat.le_of_ble_eq_true rfl) (by first | decide | omega) (by first | decide | omega) rfl ?_
  refine ct_MM_thrown hM2 ?_
  dsimp only [zps]
  have hI2 : LI g T1 h2 x mo ou A S1 F1 := ⟨hR1.keepM hx2, ⟨_, hM2⟩, hL2, hx1.2.2.2.imp (fun f hf => (hx2.out hTo1).trans hf), hTo1⟩
  refine z_iload C d_LW_law_337 rfl ?_
  refine z_icmp_eq 344 C d_LW_law_339 (by decide) (fun cq => ?_) (fun cq => ?_)
  rotate_left
  · exact absurd rfl cq
  refine z_iload C d_LW_law_344 rfl ?_
  refine z_if_ne 361 C d_LW_law_346 (by decide) (fun cz => ?_) (fun cz => ?_)
  · refine z_goto 1304 C d_LW_law_361 (by decide) ?_
    refine z_less (rc1 := rc - 6) (rs1 := rs - 540) (by omega) (by omega) ?_
    exact k T1 h2 S1 F1 _ _ hI2
  · obtain ⟨f, hf, hf0⟩ := hv cz
    have hf2 : h2 ou = some (la g 1 f) := (hx2.out hTo1).trans hf
    refine z_aload_n C d_LW_law_349 rfl rfl ?_
    refine z_iconst (v := 0) C d_LW_law_350 (by decide) ?_
    refine z_lald C d_LW_law_351 (hf2) in01 ?_
    refine z_iload C d_LW_law_352 rfl ?_
    refine z_i2l C d_LW_law_354 ?_
    refine z_lcmp C d_LW_law_355 ?_
    rw [show f (0 : Int32).toNatClampNeg = b0.toInt64 from hf0.trans (by rw [hb cz]), cmp_self]
    refine z_if_eq 361 C d_LW_law_356 (by decide) (fun cw => ?_) (fun cw => ?_)
    · refine z_goto 1304 C d_LW_law_361 (by decide) ?_
      refine z_less (rc1 := rc - 6) (rs1 := rs - 540) (by omega) (by omega) ?_
      exact k T1 h2 S1 F1 _ _ hI2
    · exact absurd rfl cw
set_option maxRecDepth 100000 in
theorem lb_answer (C : zC g "RollCallsLaw" code 7 (some .boolean) 11 mc ms p e R s m args below meth c) (hX : va_X b L xs s s.heap) (hbl : b < s.heap.size) (hbA : ¬ zA g b) (i1 : vp_in (nI i + 1) L) (i2 : vp_in (nI i + 2) L) (i3 : vp_in (nI i + 3) L) (hI : LI g T h x mo ou A S F) (hrc : 6 ≤ rc) (hrs : 540 ≤ rs) (k : ∀ (T1 : Tg) (h1 : Hp) (S1 : CS) (F1 : FT) (w5 w6 : Option Value), LI g T1 h1 x mo ou A S1 F1 → Z g 7 mc ms p e R s m args below meth c Q (rc - 6) (rs - 540) 1304 [some (.ref b), some (.ref x), some (.ref mo), some (.ref ou), some (.int (nI i)), w5, w6] [] h1) : Z g 7 mc ms p e R s m args below meth c Q rc rs 364 [some (.ref b), some (.ref x), some (.ref mo), some (.ref ou), some (.int (nI i)), v5, v6] [] h := by
  obtain ⟨hR, ⟨th, hM⟩, hL, ⟨fo, ho⟩, hTo⟩ := hI
  refine z_aload_n C d_LW_law_364 rfl rfl ?_
  refine z_aload_n C d_LW_law_365 rfl rfl ?_
  refine z_iload C d_LW_law_366 rfl ?_
  refine z_iconst (v := 1) C d_LW_law_368 (by decide) ?_
  refine z_iadd C d_LW_law_369 ?_
  refine z_sld C d_LW_law_370 hX hbl hbA i1 ?_
  refine z_aload_n C d_LW_law_371 rfl rfl ?_
  refine z_iload C d_LW_law_372 rfl ?_
  refine z_iconst (v := 2) C d_LW_law_374 (by decide) ?_
  refine z_iadd C d_LW_law_375 ?_
  refine z_sld C d_LW_law_376 hX hbl hbA i2 ?_
  refine z_aload_n C d_LW_law_377 rfl rfl ?_
  refine z_iload C d_LW_law_378 rfl ?_
  refine z_iconst (v := 3) C d_LW_law_380 (by decide) ?_
  refine z_iadd C d_LW_law_381 ?_
  refine z_sld C d_LW_law_382 hX hbl hbA i3 ?_
  refine z_aload_n C d_LW_law_383 rfl rfl ?_
  refine z_callSW (n := 5) (As := [.ref x, .int (xs (nI i + 1).toNatClampNeg), .int (xs (nI i + 2).toNatClampNeg), .int (xs (nI i + 3).toNatClampNeg), .ref ou]) (rest := []) (r1 := 10) (mc1 := 6) (ms1 := 540) C d_LW_law_384 k_450 k_448 k_449 k_0 (by decide +kernel) rfl (by decide) (by decide) (Nat.le_of_ble_eq_true rfl) (by first | decide | omega) (by first | decide | omega) rfl ?_
  refine wx_answer hR ho hTo (fun kc ans S1 h1 T1 oc hR1 hx1 hv => ?_)
  dsimp only [zps]
  refine z_istore C d_LW_law_387 (by decide) rfl ?_
  dsimp only [List.set]
  have hTo1 : T1 ou = (0, 30) := (hx1.1 ou (zne ho)).trans hTo
  have hM1 := hM.keepO hTo hx1
  refine z_aload_n C d_LW_law_389 rfl rfl ?_
  refine z_aload_n C d_LW_law_390 rfl rfl ?_
  refine z_iload C d_LW_law_391 rfl ?_
  refine z_iconst (v := 1) C d_LW_law_393 (by decide) ?_
  refine z_iadd C d_LW_law_394 ?_
  refine z_sld C d_LW_law_395 hX hbl hbA i1 ?_
  refine z_aload_n C d_LW_law_396 rfl rfl ?_
  refine z_iload C d_LW_law_397 rfl ?_
  refine z_iconst (v := 2) C d_LW_law_399 (by decide) ?_
  refine z_iadd C d_LW_law_400 ?_
  refine z_sld C d_LW_law_401 hX hbl hbA i2 ?_
  refine z_aload_n C d_LW_law_402 rfl rfl ?_
  refine z_iload C d_LW_law_403 rfl ?_
  refine z_iconst (v := 3) C d_LW_law_405 (by decide) ?_
  refine z_iadd C d_LW_law_406 ?_
  refine z_sld C d_LW_law_407 hX hbl hbA i3 ?_
  refine z_callV (n := 3) (As := [.int (xs (nI i + 1).toNatClampNeg), .int (xs (nI i + 2).toNatClampNeg), .int (xs (nI i + 3).toNatClampNeg)]) (rest := []) (r1 := 3) (mc1 := 0) (ms1 := 0) (ci := 8) (T0 := T_MM) C d_LW_law_408 k_892 k_889 k_890 k_891 k_5 (by decide +kernel) rfl rfl (hM1.1) (by decide) (by decide) (Nat.le_of_ble_eq_true rfl) (by first | decide | omega) (by first | decide | omega) rfl ?_
  refine mx_answer hM1 hL oc (fun b0 F1 h2 hM2 hL2 hx2 hb => ?_)
  dsimp only [zps]
  refine z_istore C d_LW_law_411 (by decide) rfl ?_
  dsimp only [List.set]
  refine z_aload_n C d_LW_law_413 rfl rfl ?_
  refine z_callV (n := 0) (As := []) (rest := []) (r1 := 1) (mc1 := 0) (ms1 := 0) (ci := 8) (T0 := T_MM) C d_LW_law_414 k_838 k_835 k_836 k_837 k_5 (by decide +kernel) rfl rfl (hM2.1) (by decide) (by decide) (Nat.le_of_ble_eq_true rfl) (by first | decide | omega) (by first | decide | omega) rfl ?_
  refine ct_MM_thrown hM2 ?_
  dsimp only [zps]
  have hI2 : LI g T1 h2 x mo ou A S1 F1 := ⟨hR1.keepM hx2, ⟨_, hM2⟩, hL2, hx1.2.2.2.imp (fun f hf => (hx2.out hTo1).trans hf), hTo1⟩
  refine z_iload C d_LW_law_417 rfl ?_
  refine z_icmp_eq 424 C d_LW_law_419 (by decide) (fun cq => ?_) (fun cq => ?_)
  rotate_left
  · exact absurd rfl cq
  refine z_iload C d_LW_law_424 rfl ?_
  refine z_if_ne 441 C d_LW_law_426 (by decide) (fun cz => ?_) (fun cz => ?_)
  · refine z_goto 1304 C d_LW_law_441 (by decide) ?_
    refine z_less (rc1 := rc - 6) (rs1 := rs - 540) (by omega) (by omega) ?_
    exact k T1 h2 S1 F1 _ _ hI2
  · obtain ⟨f, hf, hf0⟩ := hv cz
    have hf2 : h2 ou = some (la g 1 f) := (hx2.out hTo1).trans hf
    refine z_aload_n C d_LW_law_429 rfl rfl ?_
    refine z_iconst (v := 0) C d_LW_law_430 (by decide) ?_
    refine z_lald C d_LW_law_431 (hf2) in01 ?_
    refine z_iload C d_LW_law_432 rfl ?_
    refine z_i2l C d_LW_law_434 ?_
    refine z_lcmp C d_LW_law_435 ?_
    rw [show f (0 : Int32).toNatClampNeg = b0.toInt64 from hf0.trans (by rw [hb cz]), cmp_self]
    refine z_if_eq 441 C d_LW_law_436 (by decide) (fun cw => ?_) (fun cw => ?_)
    · refine z_goto 1304 C d_LW_law_441 (by decide) ?_
      refine z_less (rc1 := rc - 6) (rs1 := rs - 540) (by omega) (by omega) ?_
      exact k T1 h2 S1 F1 _ _ hI2
    · exact absurd rfl cw
set_option maxRecDepth 100000 in
theorem lb_seen (C : zC g "RollCallsLaw" code 7 (some .boolean) 11 mc ms p e R s m args below meth c) (hX : va_X b L xs s s.heap) (hbl : b < s.heap.size) (hbA : ¬ zA g b) (i1 : vp_in (nI i + 1) L) (i2 : vp_in (nI i + 2) L) (i3 : vp_in (nI i + 3) L) (hI : LI g T h x mo ou A S F) (hrc : 6 ≤ rc) (hrs : 540 ≤ rs) (k : ∀ (T1 : Tg) (h1 : Hp) (S1 : CS) (F1 : FT) (w5 w6 : Option Value), LI g T1 h1 x mo ou A S1 F1 → Z g 7 mc ms p e R s m args below meth c Q (rc - 6) (rs - 540) 1304 [some (.ref b), some (.ref x), some (.ref mo), some (.ref ou), some (.int (nI i)), w5, w6] [] h1) : Z g 7 mc ms p e R s m args below meth c Q rc rs 444 [some (.ref b), some (.ref x), some (.ref mo), some (.ref ou), some (.int (nI i)), v5, v6] [] h := by
  obtain ⟨hR, ⟨th, hM⟩, hL, ⟨fo, ho⟩, hTo⟩ := hI
  refine z_aload_n C d_LW_law_444 rfl rfl ?_
  refine z_aload_n C d_LW_law_445 rfl rfl ?_
  refine z_iload C d_LW_law_446 rfl ?_
  refine z_iconst (v := 1) C d_LW_law_448 (by decide) ?_
  refine z_iadd C d_LW_law_449 ?_
  refine z_sld C d_LW_law_450 hX hbl hbA i1 ?_
  refine z_aload_n C d_LW_law_451 rfl rfl ?_
  refine z_iload C d_LW_law_452 rfl ?_
  refine z_iconst (v := 2) C d_LW_law_454 (by decide) ?_
  refine z_iadd C d_LW_law_455 ?_
  refine z_sld C d_LW_law_456 hX hbl hbA i2 ?_
  refine z_aload_n C d_LW_law_457 rfl rfl ?_
  refine z_callSW (n := 4) (As := [.ref x, .int (xs (nI i + 1).toNatClampNeg), .int (xs (nI i + 2).toNatClampNeg), .ref ou]) (rest := []) (r1 := 10) (mc1 := 6) (ms1 := 540) C d_LW_law_458 k_503 k_501 k_502 k_0 (by decide +kernel) rfl (by decide) (by decide) (Nat.le_of_ble_eq_true rfl) (by first | decide | omega) (by first | decide | omega) rfl ?_
  refine wx_seen hR ho hTo (fun kc ans S1 h1 T1 oc hR1 hx1 hv => ?_)
  dsimp only [zps]
  refine z_istore C d_LW_law_461 (by decide) rfl ?_
  dsimp only [List.set]
  have hTo1 : T1 ou = (0, 30) := (hx1.1 ou (zne ho)).trans hTo
  have hM1 := hM.keepO hTo hx1
  refine z_aload_n C d_LW_law_463 rfl rfl ?_
  refine z_aload_n C d_LW_law_464 rfl rfl ?_
  refine z_iload C d_LW_law_465 rfl ?_
  refine z_iconst (v := 1) C d_LW_law_467 (by decide) ?_
  refine z_iadd C d_LW_law_468 ?_
  refine z_sld C d_LW_law_469 hX hbl hbA i1 ?_
  refine z_aload_n C d_LW_law_470 rfl rfl ?_
  refine z_iload C d_LW_law_471 rfl ?_
  refine z_iconst (v := 2) C d_LW_law_473 (by decide) ?_
  refine z_iadd C d_LW_law_474 ?_
  refine z_sld C d_LW_law_475 hX hbl hbA i2 ?_
  refine z_callV (n := 2) (As := [.int (xs (nI i + 1).toNatClampNeg), .int (xs (nI i + 2).toNatClampNeg)]) (rest := []) (r1 := 3) (mc1 := 0) (ms1 := 0) (ci := 8) (T0 := T_MM) C d_LW_law_476 k_900 k_897 k_898 k_899 k_5 (by decide +kernel) rfl rfl (hM1.1) (by decide) (by decide) (Nat.le_of_ble_eq_true rfl) (by first | decide | omega) (by first | decide | omega) rfl ?_
  refine mx_seen hM1 hL oc (fun b0 F1 h2 hM2 hL2 hx2 hb => ?_)
  dsimp only [zps]
  refine z_istore C d_LW_law_479 (by decide) rfl ?_
  dsimp only [List.set]
  refine z_aload_n C d_LW_law_481 rfl rfl ?_
  refine z_callV (n := 0) (As := []) (rest := []) (r1 := 1) (mc1 := 0) (ms1 := 0) (ci := 8) (T0 := T_MM) C d_LW_law_482 k_838 k_835 k_836 k_837 k_5 (by decide +kernel) rfl rfl (hM2.1) (by decide) (by decide) (Nat.le_of_ble_eq_true rfl) (by first | decide | omega) (by first | decide | omega) rfl ?_
  refine ct_MM_thrown hM2 ?_
  dsimp only [zps]
  have hI2 : LI g T1 h2 x mo ou A S1 F1 := ⟨hR1.keepM hx2, ⟨_, hM2⟩, hL2, hx1.2.2.2.imp (fun f hf => (hx2.out hTo1).trans hf), hTo1⟩
  refine z_iload C d_LW_law_485 rfl ?_
  refine z_icmp_eq 492 C d_LW_law_487 (by decide) (fun cq => ?_) (fun cq => ?_)
  rotate_left
  · exact absurd rfl cq
  refine z_iload C d_LW_law_492 rfl ?_
  refine z_if_ne 509 C d_LW_law_494 (by decide) (fun cz => ?_) (fun cz => ?_)
  · refine z_goto 1304 C d_LW_law_509 (by decide) ?_
    refine z_less (rc1 := rc - 6) (rs1 := rs - 540) (by omega) (by omega) ?_
    exact k T1 h2 S1 F1 _ _ hI2
  · obtain ⟨f, hf, hf0⟩ := hv cz
    have hf2 : h2 ou = some (la g 1 f) := (hx2.out hTo1).trans hf
    refine z_aload_n C d_LW_law_497 rfl rfl ?_
    refine z_iconst (v := 0) C d_LW_law_498 (by decide) ?_
    refine z_lald C d_LW_law_499 (hf2) in01 ?_
    refine z_iload C d_LW_law_500 rfl ?_
    refine z_i2l C d_LW_law_502 ?_
    refine z_lcmp C d_LW_law_503 ?_
    rw [show f (0 : Int32).toNatClampNeg = b0.toInt64 from hf0.trans (by rw [hb cz]), cmp_self]
    refine z_if_eq 509 C d_LW_law_504 (by decide) (fun cw => ?_) (fun cw => ?_)
    · refine z_goto 1304 C d_LW_law_509 (by decide) ?_
      refine z_less (rc1 := rc - 6) (rs1 := rs - 540) (by omega) (by omega) ?_
      exact k T1 h2 S1 F1 _ _ hI2
    · exact absurd rfl cw
set_option maxRecDepth 100000 in
theorem lb_round (C : zC g "RollCallsLaw" code 7 (some .boolean) 11 mc ms p e R s m args below meth c) (hX : va_X b L xs s s.heap) (hbl : b < s.heap.size) (hbA : ¬ zA g b) (i1 : vp_in (nI i + 1) L) (i2 : vp_in (nI i + 2) L) (i3 : vp_in (nI i + 3) L) (hI : LI g T h x mo ou A S F) (hrc : 6 ≤ rc) (hrs : 540 ≤ rs) (k : ∀ (T1 : Tg) (h1 : Hp) (S1 : CS) (F1 : FT) (w5 w6 : Option Value), LI g T1 h1 x mo ou A S1 F1 → Z g 7 mc ms p e R s m args below meth c Q (rc - 6) (rs - 540) 1304 [some (.ref b), some (.ref x), some (.ref mo), some (.ref ou), some (.int (nI i)), w5, w6] [] h1) : Z g 7 mc ms p e R s m args below meth c Q rc rs 512 [some (.ref b), some (.ref x), some (.ref mo), some (.ref ou), some (.int (nI i)), v5, v6] [] h := by
  obtain ⟨hR, ⟨th, hM⟩, hL, ⟨fo, ho⟩, hTo⟩ := hI
  refine z_aload_n C d_LW_law_512 rfl rfl ?_
  refine z_aload_n C d_LW_law_513 rfl rfl ?_
  refine z_iload C d_LW_law_514 rfl ?_
  refine z_iconst (v := 1) C d_LW_law_516 (by decide) ?_
  refine z_iadd C d_LW_law_517 ?_
  refine z_sld C d_LW_law_518 hX hbl hbA i1 ?_
  refine z_aload_n C d_LW_law_519 rfl rfl ?_
  refine z_callSW (n := 3) (As := [.ref x, .int (xs (nI i + 1).toNatClampNeg), .ref ou]) (rest := []) (r1 := 10) (mc1 := 6) (ms1 := 540) C d_LW_law_520 k_512 k_510 k_511 k_0 (by decide +kernel) rfl (by decide) (by decide) (Nat.le_of_ble_eq_true rfl) (by first | decide | omega) (by first | decide | omega) rfl ?_
  refine wx_round hR ho hTo (fun kc ans S1 h1 T1 oc hR1 hx1 hv => ?_)
  dsimp only [zps]
  refine z_istore C d_LW_law_523 (by decide) rfl ?_
  dsimp only [List.set]
  have hTo1 : T1 ou = (0, 30) := (hx1.1 ou (zne ho)).trans hTo
  have hM1 := hM.keepO hTo hx1
  refine z_aload_n C d_LW_law_525 rfl rfl ?_
  refine z_aload_n C d_LW_law_526 rfl rfl ?_
  refine z_iload C d_LW_law_527 rfl ?_
  refine z_iconst (v := 1) C d_LW_law_529 (by decide) ?_
  refine z_iadd C d_LW_law_530 ?_
  refine z_sld C d_LW_law_531 hX hbl hbA i1 ?_
  refine z_callV (n := 1) (As := [.int (xs (nI i + 1).toNatClampNeg)]) (rest := []) (r1 := 4) (mc1 := 0) (ms1 := 0) (ci := 8) (T0 := T_MM) C d_LW_law_532 k_904 k_901 k_902 k_903 k_5 (by decide +kernel) rfl rfl (hM1.1) (by decide) (by decide) (Nat.le_of_ble_eq_true rfl) (by first | decide | omega) (by first | decide | omega) rfl ?_
  refine mx_round hM1 hL oc (fun b0 F1 h2 hM2 hL2 hx2 hb => ?_)
  dsimp only [zps]
  refine z_istore C d_LW_law_535 (by decide) rfl ?_
  dsimp only [List.set]
  refine z_aload_n C d_LW_law_537 rfl rfl ?_
  refine z_callV (n := 0) (As := []) (rest := []) (r1 := 1) (mc1 := 0) (ms1 := 0) (ci := 8) (T0 := T_MM) C d_LW_law_538 k_838 k_835 k_836 k_837 k_5 (by decide +kernel) rfl rfl (hM2.1) (by decide) (by decide) (Nat.le_of_ble_eq_true rfl) (by first | decide | omega) (by first | decide | omega) rfl ?_
  refine ct_MM_thrown hM2 ?_
  dsimp only [zps]
  have hI2 : LI g T1 h2 x mo ou A S1 F1 := ⟨hR1.keepM hx2, ⟨_, hM2⟩, hL2, hx1.2.2.2.imp (fun f hf => (hx2.out hTo1).trans hf), hTo1⟩
  refine z_iload C d_LW_law_541 rfl ?_
  refine z_icmp_eq 548 C d_LW_law_543 (by decide) (fun cq => ?_) (fun cq => ?_)
  rotate_left
  · exact absurd rfl cq
  refine z_iload C d_LW_law_548 rfl ?_
  refine z_if_ne 565 C d_LW_law_550 (by decide) (fun cz => ?_) (fun cz => ?_)
  · refine z_goto 1304 C d_LW_law_565 (by decide) ?_
    refine z_less (rc1 := rc - 6) (rs1 := rs - 540) (by omega) (by omega) ?_
    exact k T1 h2 S1 F1 _ _ hI2
  · obtain ⟨f, hf, hf0⟩ := hv cz
    have hf2 : h2 ou = some (la g 1 f) := (hx2.out hTo1).trans hf
    refine z_aload_n C d_LW_law_553 rfl rfl ?_
    refine z_iconst (v := 0) C d_LW_law_554 (by decide) ?_
    refine z_lald C d_LW_law_555 (hf2) in01 ?_
    refine z_iload C d_LW_law_556 rfl ?_
    refine z_i2l C d_LW_law_558 ?_
    refine z_lcmp C d_LW_law_559 ?_
    rw [show f (0 : Int32).toNatClampNeg = b0.toInt64 from hf0.trans (by rw [hb cz]), cmp_self]
    refine z_if_eq 565 C d_LW_law_560 (by decide) (fun cw => ?_) (fun cw => ?_)
    · refine z_goto 1304 C d_LW_law_565 (by decide) ?_
      refine z_less (rc1 := rc - 6) (rs1 := rs - 540) (by omega) (by omega) ?_
      exact k T1 h2 S1 F1 _ _ hI2
    · exact absurd rfl cw
set_option maxRecDepth 100000 in
theorem lb_rollAt (C : zC g "RollCallsLaw" code 7 (some .boolean) 11 mc ms p e R s m args below meth c) (hX : va_X b L xs s s.heap) (hbl : b < s.heap.size) (hbA : ¬ zA g b) (i1 : vp_in (nI i + 1) L) (i2 : vp_in (nI i + 2) L) (i3 : vp_in (nI i + 3) L) (hI : LI g T h x mo ou A S F) (hrc : 6 ≤ rc) (hrs : 540 ≤ rs) (k : ∀ (T1 : Tg) (h1 : Hp) (S1 : CS) (F1 : FT) (w5 w6 : Option Value), LI g T1 h1 x mo ou A S1 F1 → Z g 7 mc ms p e R s m args below meth c Q (rc - 6) (rs - 540) 1304 [some (.ref b), some (.ref x), some (.ref mo), some (.ref ou), some (.int (nI i)), w5, w6] [] h1) : Z g 7 mc ms p e R s m args below meth c Q rc rs 568 [some (.ref b), some (.ref x), some (.ref mo), some (.ref ou), some (.int (nI i)), v5, v6] [] h := by
  obtain ⟨hR, ⟨th, hM⟩, hL, ⟨fo, ho⟩, hTo⟩ := hI
  refine z_aload_n C d_LW_law_568 rfl rfl ?_
  refine z_aload_n C d_LW_law_569 rfl rfl ?_
  refine z_iload C d_LW_law_570 rfl ?_
  refine z_iconst (v := 1) C d_LW_law_572 (by decide) ?_
  refine z_iadd C d_LW_law_573 ?_
  refine z_sld C d_LW_law_574 hX hbl hbA i1 ?_
  refine z_aload_n C d_LW_law_575 rfl rfl ?_
  refine z_iload C d_LW_law_576 rfl ?_
  refine z_iconst (v := 2) C d_LW_law_578 (by decide) ?_
  refine z_iadd C d_LW_law_579 ?_
  refine z_sld C d_LW_law_580 hX hbl hbA i2 ?_
  refine z_aload_n C d_LW_law_581 rfl rfl ?_
  refine z_callSW (n := 4) (As := [.ref x, .int (xs (nI i + 1).toNatClampNeg), .int (xs (nI i + 2).toNatClampNeg), .ref ou]) (rest := []) (r1 := 10) (mc1 := 6) (ms1 := 540) C d_LW_law_582 k_532 k_530 k_531 k_0 (by decide +kernel) rfl (by decide) (by decide) (Nat.le_of_ble_eq_true rfl) (by first | decide | omega) (by first | decide | omega) rfl ?_
  refine wx_rollAt hR ho hTo (fun kc ans S1 h1 T1 oc hR1 hx1 hv => ?_)
  dsimp only [zps]
  refine z_istore C d_LW_law_585 (by decide) rfl ?_
  dsimp only [List.set]
  have hTo1 : T1 ou = (0, 30) := (hx1.1 ou (zne ho)).trans hTo
  have hM1 := hM.keepO hTo hx1
  refine z_aload_n C d_LW_law_587 rfl rfl ?_
  refine z_aload_n C d_LW_law_588 rfl rfl ?_
  refine z_iload C d_LW_law_589 rfl ?_
  refine z_iconst (v := 1) C d_LW_law_591 (by decide) ?_
  refine z_iadd C d_LW_law_592 ?_
  refine z_sld C d_LW_law_593 hX hbl hbA i1 ?_
  refine z_aload_n C d_LW_law_594 rfl rfl ?_
  refine z_iload C d_LW_law_595 rfl ?_
  refine z_iconst (v := 2) C d_LW_law_597 (by decide) ?_
  refine z_iadd C d_LW_law_598 ?_
  refine z_sld C d_LW_law_599 hX hbl hbA i2 ?_
  refine z_callV (n := 2) (As := [.int (xs (nI i + 1).toNatClampNeg), .int (xs (nI i + 2).toNatClampNeg)]) (rest := []) (r1 := 4) (mc1 := 0) (ms1 := 0) (ci := 8) (T0 := T_MM) C d_LW_law_600 k_920 k_917 k_918 k_919 k_5 (by decide +kernel) rfl rfl (hM1.1) (by decide) (by decide) (Nat.le_of_ble_eq_true rfl) (by first | decide | omega) (by first | decide | omega) rfl ?_
  refine mx_rollAt hM1 hL oc (fun b0 F1 h2 hM2 hL2 hx2 hb => ?_)
  dsimp only [zps]
  refine z_istore C d_LW_law_603 (by decide) rfl ?_
  dsimp only [List.set]
  refine z_aload_n C d_LW_law_605 rfl rfl ?_
  refine z_callV (n := 0) (As := []) (rest := []) (r1 := 1) (mc1 := 0) (ms1 := 0) (ci := 8) (T0 := T_MM) C d_LW_law_606 k_838 k_835 k_836 k_837 k_5 (by decide +kernel) rfl rfl (hM2.1) (by decide) (by decide) (Nat.le_of_ble_eq_true rfl) (by first | decide | omega) (by first | decide | omega) rfl ?_
  refine ct_MM_thrown hM2 ?_
  dsimp only [zps]
  have hI2 : LI g T1 h2 x mo ou A S1 F1 := ⟨hR1.keepM hx2, ⟨_, hM2⟩, hL2, hx1.2.2.2.imp (fun f hf => (hx2.out hTo1).trans hf), hTo1⟩
  refine z_iload C d_LW_law_609 rfl ?_
  refine z_icmp_eq 616 C d_LW_law_611 (by decide) (fun cq => ?_) (fun cq => ?_)
  rotate_left
  · exact absurd rfl cq
  refine z_iload C d_LW_law_616 rfl ?_
  refine z_if_ne 633 C d_LW_law_618 (by decide) (fun cz => ?_) (fun cz => ?_)
  · refine z_goto 1304 C d_LW_law_633 (by decide) ?_
    refine z_less (rc1 := rc - 6) (rs1 := rs - 540) (by omega) (by omega) ?_
    exact k T1 h2 S1 F1 _ _ hI2
  · obtain ⟨f, hf, hf0⟩ := hv cz
    have hf2 : h2 ou = some (la g 1 f) := (hx2.out hTo1).trans hf
    refine z_aload_n C d_LW_law_621 rfl rfl ?_
    refine z_iconst (v := 0) C d_LW_law_622 (by decide) ?_
    refine z_lald C d_LW_law_623 (hf2) in01 ?_
    refine z_iload C d_LW_law_624 rfl ?_
    refine z_i2l C d_LW_law_626 ?_
    refine z_lcmp C d_LW_law_627 ?_
    rw [show f (0 : Int32).toNatClampNeg = b0.toInt64 from hf0.trans (by rw [hb cz]), cmp_self]
    refine z_if_eq 633 C d_LW_law_628 (by decide) (fun cw => ?_) (fun cw => ?_)
    · refine z_goto 1304 C d_LW_law_633 (by decide) ?_
      refine z_less (rc1 := rc - 6) (rs1 := rs - 540) (by omega) (by omega) ?_
      exact k T1 h2 S1 F1 _ _ hI2
    · exact absurd rfl cw
set_option maxRecDepth 100000 in
theorem lb_missing (C : zC g "RollCallsLaw" code 7 (some .boolean) 11 mc ms p e R s m args below meth c) (hX : va_X b L xs s s.heap) (hbl : b < s.heap.size) (hbA : ¬ zA g b) (i1 : vp_in (nI i + 1) L) (i2 : vp_in (nI i + 2) L) (i3 : vp_in (nI i + 3) L) (hI : LI g T h x mo ou A S F) (hrc : 6 ≤ rc) (hrs : 540 ≤ rs) (k : ∀ (T1 : Tg) (h1 : Hp) (S1 : CS) (F1 : FT) (w5 w6 : Option Value), LI g T1 h1 x mo ou A S1 F1 → Z g 7 mc ms p e R s m args below meth c Q (rc - 6) (rs - 540) 1304 [some (.ref b), some (.ref x), some (.ref mo), some (.ref ou), some (.int (nI i)), w5, w6] [] h1) : Z g 7 mc ms p e R s m args below meth c Q rc rs 636 [some (.ref b), some (.ref x), some (.ref mo), some (.ref ou), some (.int (nI i)), v5, v6] [] h := by
  obtain ⟨hR, ⟨th, hM⟩, hL, ⟨fo, ho⟩, hTo⟩ := hI
  refine z_aload_n C d_LW_law_636 rfl rfl ?_
  refine z_aload_n C d_LW_law_637 rfl rfl ?_
  refine z_iload C d_LW_law_638 rfl ?_
  refine z_iconst (v := 1) C d_LW_law_640 (by decide) ?_
  refine z_iadd C d_LW_law_641 ?_
  refine z_sld C d_LW_law_642 hX hbl hbA i1 ?_
  refine z_aload_n C d_LW_law_643 rfl rfl ?_
  refine z_iload C d_LW_law_644 rfl ?_
  refine z_iconst (v := 2) C d_LW_law_646 (by decide) ?_
  refine z_iadd C d_LW_law_647 ?_
  refine z_sld C d_LW_law_648 hX hbl hbA i2 ?_
  refine z_aload_n C d_LW_law_649 rfl rfl ?_
  refine z_callSW (n := 4) (As := [.ref x, .int (xs (nI i + 1).toNatClampNeg), .int (xs (nI i + 2).toNatClampNeg), .ref ou]) (rest := []) (r1 := 10) (mc1 := 6) (ms1 := 540) C d_LW_law_650 k_540 k_538 k_539 k_0 (by decide +kernel) rfl (by decide) (by decide) (Nat.le_of_ble_eq_true rfl) (by first | decide | omega) (by first | decide | omega) rfl ?_
  refine wx_missing hR ho hTo (fun kc ans S1 h1 T1 oc hR1 hx1 hv => ?_)
  dsimp only [zps]
  refine z_istore C d_LW_law_653 (by decide) rfl ?_
  dsimp only [List.set]
  have hTo1 : T1 ou = (0, 30) := (hx1.1 ou (zne ho)).trans hTo
  have hM1 := hM.keepO hTo hx1
  refine z_aload_n C d_LW_law_655 rfl rfl ?_
  refine z_aload_n C d_LW_law_656 rfl rfl ?_
  refine z_iload C d_LW_law_657 rfl ?_
  refine z_iconst (v := 1) C d_LW_law_659 (by decide) ?_
  refine z_iadd C d_LW_law_660 ?_
  refine z_sld C d_LW_law_661 hX hbl hbA i1 ?_
  refine z_aload_n C d_LW_law_662 rfl rfl ?_
  refine z_iload C d_LW_law_663 rfl ?_
  refine z_iconst (v := 2) C d_LW_law_665 (by decide) ?_
  refine z_iadd C d_LW_law_666 ?_
  refine z_sld C d_LW_law_667 hX hbl hbA i2 ?_
  refine z_callV (n := 2) (As := [.int (xs (nI i + 1).toNatClampNeg), .int (xs (nI i + 2).toNatClampNeg)]) (rest := []) (r1 := 3) (mc1 := 0) (ms1 := 0) (ci := 8) (T0 := T_MM) C d_LW_law_668 k_924 k_921 k_922 k_923 k_5 (by decide +kernel) rfl rfl (hM1.1) (by decide) (by decide) (Nat.le_of_ble_eq_true rfl) (by first | decide | omega) (by first | decide | omega) rfl ?_
  refine mx_missing hM1 hL oc (fun b0 F1 h2 hM2 hL2 hx2 hb => ?_)
  dsimp only [zps]
  refine z_istore C d_LW_law_671 (by decide) rfl ?_
  dsimp only [List.set]
  refine z_aload_n C d_LW_law_673 rfl rfl ?_
  refine z_callV (n := 0) (As := []) (rest := []) (r1 := 1) (mc1 := 0) (ms1 := 0) (ci := 8) (T0 := T_MM) C d_LW_law_674 k_838 k_835 k_836 k_837 k_5 (by decide +kernel) rfl rfl (hM2.1) (by decide) (by decide) (Nat.le_of_ble_eq_true rfl) (by first | decide | omega) (by first | decide | omega) rfl ?_
  refine ct_MM_thrown hM2 ?_
  dsimp only [zps]
  have hI2 : LI g T1 h2 x mo ou A S1 F1 := ⟨hR1.keepM hx2, ⟨_, hM2⟩, hL2, hx1.2.2.2.imp (fun f hf => (hx2.out hTo1).trans hf), hTo1⟩
  refine z_iload C d_LW_law_677 rfl ?_
  refine z_icmp_eq 684 C d_LW_law_679 (by decide) (fun cq => ?_) (fun cq => ?_)
  rotate_left
  · exact absurd rfl cq
  refine z_iload C d_LW_law_684 rfl ?_
  refine z_if_ne 701 C d_LW_law_686 (by decide) (fun cz => ?_) (fun cz => ?_)
  · refine z_goto 1304 C d_LW_law_701 (by decide) ?_
    refine z_less (rc1 := rc - 6) (rs1 := rs - 540) (by omega) (by omega) ?_
    exact k T1 h2 S1 F1 _ _ hI2
  · obtain ⟨f, hf, hf0⟩ := hv cz
    have hf2 : h2 ou = some (la g 1 f) := (hx2.out hTo1).trans hf
    refine z_aload_n C d_LW_law_689 rfl rfl ?_
    refine z_iconst (v := 0) C d_LW_law_690 (by decide) ?_
    refine z_lald C d_LW_law_691 (hf2) in01 ?_
    refine z_iload C d_LW_law_692 rfl ?_
    refine z_i2l C d_LW_law_694 ?_
    refine z_lcmp C d_LW_law_695 ?_
    rw [show f (0 : Int32).toNatClampNeg = b0.toInt64 from hf0.trans (by rw [hb cz]), cmp_self]
    refine z_if_eq 701 C d_LW_law_696 (by decide) (fun cw => ?_) (fun cw => ?_)
    · refine z_goto 1304 C d_LW_law_701 (by decide) ?_
      refine z_less (rc1 := rc - 6) (rs1 := rs - 540) (by omega) (by omega) ?_
      exact k T1 h2 S1 F1 _ _ hI2
    · exact absurd rfl cw
set_option maxRecDepth 100000 in
theorem lb_twice (C : zC g "RollCallsLaw" code 7 (some .boolean) 11 mc ms p e R s m args below meth c) (hX : va_X b L xs s s.heap) (hbl : b < s.heap.size) (hbA : ¬ zA g b) (i1 : vp_in (nI i + 1) L) (i2 : vp_in (nI i + 2) L) (i3 : vp_in (nI i + 3) L) (hI : LI g T h x mo ou A S F) (hrc : 6 ≤ rc) (hrs : 540 ≤ rs) (k : ∀ (T1 : Tg) (h1 : Hp) (S1 : CS) (F1 : FT) (w5 w6 : Option Value), LI g T1 h1 x mo ou A S1 F1 → Z g 7 mc ms p e R s m args below meth c Q (rc - 6) (rs - 540) 1304 [some (.ref b), some (.ref x), some (.ref mo), some (.ref ou), some (.int (nI i)), w5, w6] [] h1) : Z g 7 mc ms p e R s m args below meth c Q rc rs 704 [some (.ref b), some (.ref x), some (.ref mo), some (.ref ou), some (.int (nI i)), v5, v6] [] h := by
  obtain ⟨hR, ⟨th, hM⟩, hL, ⟨fo, ho⟩, hTo⟩ := hI
  refine z_aload_n C d_LW_law_704 rfl rfl ?_
  refine z_aload_n C d_LW_law_705 rfl rfl ?_
  refine z_iload C d_LW_law_706 rfl ?_
  refine z_iconst (v := 1) C d_LW_law_708 (by decide) ?_
  refine z_iadd C d_LW_law_709 ?_
  refine z_sld C d_LW_law_710 hX hbl hbA i1 ?_
  refine z_aload_n C d_LW_law_711 rfl rfl ?_
  refine z_iload C d_LW_law_712 rfl ?_
  refine z_iconst (v := 2) C d_LW_law_714 (by decide) ?_
  refine z_iadd C d_LW_law_715 ?_
  refine z_sld C d_LW_law_716 hX hbl hbA i2 ?_
  refine z_aload_n C d_LW_law_717 rfl rfl ?_
  refine z_callSW (n := 4) (As := [.ref x, .int (xs (nI i + 1).toNatClampNeg), .int (xs (nI i + 2).toNatClampNeg), .ref ou]) (rest := []) (r1 := 10) (mc1 := 6) (ms1 := 540) C d_LW_law_718 k_553 k_551 k_552 k_0 (by decide +kernel) rfl (by decide) (by decide) (Nat.le_of_ble_eq_true rfl) (by first | decide | omega) (by first | decide | omega) rfl ?_
  refine wx_twice hR ho hTo (fun kc ans S1 h1 T1 oc hR1 hx1 hv => ?_)
  dsimp only [zps]
  refine z_istore C d_LW_law_721 (by decide) rfl ?_
  dsimp only [List.set]
  have hTo1 : T1 ou = (0, 30) := (hx1.1 ou (zne ho)).trans hTo
  have hM1 := hM.keepO hTo hx1
  refine z_aload_n C d_LW_law_723 rfl rfl ?_
  refine z_aload_n C d_LW_law_724 rfl rfl ?_
  refine z_iload C d_LW_law_725 rfl ?_
  refine z_iconst (v := 1) C d_LW_law_727 (by decide) ?_
  refine z_iadd C d_LW_law_728 ?_
  refine z_sld C d_LW_law_729 hX hbl hbA i1 ?_
  refine z_aload_n C d_LW_law_730 rfl rfl ?_
  refine z_iload C d_LW_law_731 rfl ?_
  refine z_iconst (v := 2) C d_LW_law_733 (by decide) ?_
  refine z_iadd C d_LW_law_734 ?_
  refine z_sld C d_LW_law_735 hX hbl hbA i2 ?_
  refine z_callV (n := 2) (As := [.int (xs (nI i + 1).toNatClampNeg), .int (xs (nI i + 2).toNatClampNeg)]) (rest := []) (r1 := 2) (mc1 := 0) (ms1 := 0) (ci := 8) (T0 := T_MM) C d_LW_law_736 k_932 k_929 k_930 k_931 k_5 (by decide +kernel) rfl rfl (hM1.1) (by decide) (by decide) (Nat.le_of_ble_eq_true rfl) (by first | decide | omega) (by first | decide | omega) rfl ?_
  refine mx_twice hM1 hL oc (fun b0 F1 h2 hM2 hL2 hx2 hb => ?_)
  dsimp only [zps]
  refine z_istore C d_LW_law_739 (by decide) rfl ?_
  dsimp only [List.set]
  refine z_aload_n C d_LW_law_741 rfl rfl ?_
  refine z_callV (n := 0) (As := []) (rest := []) (r1 := 1) (mc1 := 0) (ms1 := 0) (ci := 8) (T0 := T_MM) C d_LW_law_742 k_838 k_835 k_836 k_837 k_5 (by decide +kernel) rfl rfl (hM2.1) (by decide) (by decide) (Nat.le_of_ble_eq_true rfl) (by first | decide | omega) (by first | decide | omega) rfl ?_
  refine ct_MM_thrown hM2 ?_
  dsimp only [zps]
  have hI2 : LI g T1 h2 x mo ou A S1 F1 := ⟨hR1.keepM hx2, ⟨_, hM2⟩, hL2, hx1.2.2.2.imp (fun f hf => (hx2.out hTo1).trans hf), hTo1⟩
  refine z_iload C d_LW_law_745 rfl ?_
  refine z_icmp_eq 752 C d_LW_law_747 (by decide) (fun cq => ?_) (fun cq => ?_)
  rotate_left
  · exact absurd rfl cq
  refine z_iload C d_LW_law_752 rfl ?_
  refine z_if_ne 769 C d_LW_law_754 (by decide) (fun cz => ?_) (fun cz => ?_)
  · refine z_goto 1304 C d_LW_law_769 (by decide) ?_
    refine z_less (rc1 := rc - 6) (rs1 := rs - 540) (by omega) (by omega) ?_
    exact k T1 h2 S1 F1 _ _ hI2
  · obtain ⟨f, hf, hf0⟩ := hv cz
    have hf2 : h2 ou = some (la g 1 f) := (hx2.out hTo1).trans hf
    refine z_aload_n C d_LW_law_757 rfl rfl ?_
    refine z_iconst (v := 0) C d_LW_law_758 (by decide) ?_
    refine z_lald C d_LW_law_759 (hf2) in01 ?_
    refine z_iload C d_LW_law_760 rfl ?_
    refine z_i2l C d_LW_law_762 ?_
    refine z_lcmp C d_LW_law_763 ?_
    rw [show f (0 : Int32).toNatClampNeg = b0.toInt64 from hf0.trans (by rw [hb cz]), cmp_self]
    refine z_if_eq 769 C d_LW_law_764 (by decide) (fun cw => ?_) (fun cw => ?_)
    · refine z_goto 1304 C d_LW_law_769 (by decide) ?_
      refine z_less (rc1 := rc - 6) (rs1 := rs - 540) (by omega) (by omega) ?_
      exact k T1 h2 S1 F1 _ _ hI2
    · exact absurd rfl cw
set_option maxRecDepth 100000 in
theorem lb_mayday (C : zC g "RollCallsLaw" code 7 (some .boolean) 11 mc ms p e R s m args below meth c) (hX : va_X b L xs s s.heap) (hbl : b < s.heap.size) (hbA : ¬ zA g b) (i1 : vp_in (nI i + 1) L) (i2 : vp_in (nI i + 2) L) (i3 : vp_in (nI i + 3) L) (hI : LI g T h x mo ou A S F) (hrc : 6 ≤ rc) (hrs : 540 ≤ rs) (k : ∀ (T1 : Tg) (h1 : Hp) (S1 : CS) (F1 : FT) (w5 w6 : Option Value), LI g T1 h1 x mo ou A S1 F1 → Z g 7 mc ms p e R s m args below meth c Q (rc - 6) (rs - 540) 1304 [some (.ref b), some (.ref x), some (.ref mo), some (.ref ou), some (.int (nI i)), w5, w6] [] h1) : Z g 7 mc ms p e R s m args below meth c Q rc rs 772 [some (.ref b), some (.ref x), some (.ref mo), some (.ref ou), some (.int (nI i)), v5, v6] [] h := by
  obtain ⟨hR, ⟨th, hM⟩, hL, ⟨fo, ho⟩, hTo⟩ := hI
  refine z_aload_n C d_LW_law_772 rfl rfl ?_
  refine z_aload_n C d_LW_law_773 rfl rfl ?_
  refine z_iload C d_LW_law_774 rfl ?_
  refine z_iconst (v := 1) C d_LW_law_776 (by decide) ?_
  refine z_iadd C d_LW_law_777 ?_
  refine z_sld C d_LW_law_778 hX hbl hbA i1 ?_
  refine z_aload_n C d_LW_law_779 rfl rfl ?_
  refine z_iload C d_LW_law_780 rfl ?_
  refine z_iconst (v := 2) C d_LW_law_782 (by decide) ?_
  refine z_iadd C d_LW_law_783 ?_
  refine z_sld C d_LW_law_784 hX hbl hbA i2 ?_
  refine z_aload_n C d_LW_law_785 rfl rfl ?_
  refine z_callSW (n := 4) (As := [.ref x, .int (xs (nI i + 1).toNatClampNeg), .int (xs (nI i + 2).toNatClampNeg), .ref ou]) (rest := []) (r1 := 10) (mc1 := 6) (ms1 := 540) C d_LW_law_786 k_561 k_559 k_560 k_0 (by decide +kernel) rfl (by decide) (by decide) (Nat.le_of_ble_eq_true rfl) (by first | decide | omega) (by first | decide | omega) rfl ?_
  refine wx_mayday hR ho hTo (fun kc ans S1 h1 T1 oc hR1 hx1 hv => ?_)
  dsimp only [zps]
  refine z_istore C d_LW_law_789 (by decide) rfl ?_
  dsimp only [List.set]
  have hTo1 : T1 ou = (0, 30) := (hx1.1 ou (zne ho)).trans hTo
  have hM1 := hM.keepO hTo hx1
  refine z_aload_n C d_LW_law_791 rfl rfl ?_
  refine z_aload_n C d_LW_law_792 rfl rfl ?_
  refine z_iload C d_LW_law_793 rfl ?_
  refine z_iconst (v := 1) C d_LW_law_795 (by decide) ?_
  refine z_iadd C d_LW_law_796 ?_
  refine z_sld C d_LW_law_797 hX hbl hbA i1 ?_
  refine z_aload_n C d_LW_law_798 rfl rfl ?_
  refine z_iload C d_LW_law_799 rfl ?_
  refine z_iconst (v := 2) C d_LW_law_801 (by decide) ?_
  refine z_iadd C d_LW_law_802 ?_
  refine z_sld C d_LW_law_803 hX hbl hbA i2 ?_
  refine z_callV (n := 2) (As := [.int (xs (nI i + 1).toNatClampNeg), .int (xs (nI i + 2).toNatClampNeg)]) (rest := []) (r1 := 3) (mc1 := 0) (ms1 := 0) (ci := 8) (T0 := T_MM) C d_LW_law_804 k_936 k_933 k_934 k_935 k_5 (by decide +kernel) rfl rfl (hM1.1) (by decide) (by decide) (Nat.le_of_ble_eq_true rfl) (by first | decide | omega) (by first | decide | omega) rfl ?_
  refine mx_mayday hM1 hL oc (fun b0 F1 h2 hM2 hL2 hx2 hb => ?_)
  dsimp only [zps]
  refine z_istore C d_LW_law_807 (by decide) rfl ?_
  dsimp only [List.set]
  refine z_aload_n C d_LW_law_809 rfl rfl ?_
  refine z_callV (n := 0) (As := []) (rest := []) (r1 := 1) (mc1 := 0) (ms1 := 0) (ci := 8) (T0 := T_MM) C d_LW_law_810 k_838 k_835 k_836 k_837 k_5 (by decide +kernel) rfl rfl (hM2.1) (by decide) (by decide) (Nat.le_of_ble_eq_true rfl) (by first | decide | omega) (by first | decide | omega) rfl ?_
  refine ct_MM_thrown hM2 ?_
  dsimp only [zps]
  have hI2 : LI g T1 h2 x mo ou A S1 F1 := ⟨hR1.keepM hx2, ⟨_, hM2⟩, hL2, hx1.2.2.2.imp (fun f hf => (hx2.out hTo1).trans hf), hTo1⟩
  refine z_iload C d_LW_law_813 rfl ?_
  refine z_icmp_eq 820 C d_LW_law_815 (by decide) (fun cq => ?_) (fun cq => ?_)
  rotate_left
  · exact absurd rfl cq
  refine z_iload C d_LW_law_820 rfl ?_
  refine z_if_ne 837 C d_LW_law_822 (by decide) (fun cz => ?_) (fun cz => ?_)
  · refine z_goto 1304 C d_LW_law_837 (by decide) ?_
    refine z_less (rc1 := rc - 6) (rs1 := rs - 540) (by omega) (by omega) ?_
    exact k T1 h2 S1 F1 _ _ hI2
  · obtain ⟨f, hf, hf0⟩ := hv cz
    have hf2 : h2 ou = some (la g 1 f) := (hx2.out hTo1).trans hf
    refine z_aload_n C d_LW_law_825 rfl rfl ?_
    refine z_iconst (v := 0) C d_LW_law_826 (by decide) ?_
    refine z_lald C d_LW_law_827 (hf2) in01 ?_
    refine z_iload C d_LW_law_828 rfl ?_
    refine z_i2l C d_LW_law_830 ?_
    refine z_lcmp C d_LW_law_831 ?_
    rw [show f (0 : Int32).toNatClampNeg = b0.toInt64 from hf0.trans (by rw [hb cz]), cmp_self]
    refine z_if_eq 837 C d_LW_law_832 (by decide) (fun cw => ?_) (fun cw => ?_)
    · refine z_goto 1304 C d_LW_law_837 (by decide) ?_
      refine z_less (rc1 := rc - 6) (rs1 := rs - 540) (by omega) (by omega) ?_
      exact k T1 h2 S1 F1 _ _ hI2
    · exact absurd rfl cw
set_option maxRecDepth 100000 in
theorem lb_answered (C : zC g "RollCallsLaw" code 7 (some .boolean) 11 mc ms p e R s m args below meth c) (hX : va_X b L xs s s.heap) (hbl : b < s.heap.size) (hbA : ¬ zA g b) (i1 : vp_in (nI i + 1) L) (i2 : vp_in (nI i + 2) L) (i3 : vp_in (nI i + 3) L) (hI : LI g T h x mo ou A S F) (hrc : 6 ≤ rc) (hrs : 540 ≤ rs) (k : ∀ (T1 : Tg) (h1 : Hp) (S1 : CS) (F1 : FT) (w5 w6 : Option Value), LI g T1 h1 x mo ou A S1 F1 → Z g 7 mc ms p e R s m args below meth c Q (rc - 6) (rs - 540) 1304 [some (.ref b), some (.ref x), some (.ref mo), some (.ref ou), some (.int (nI i)), w5, w6] [] h1) : Z g 7 mc ms p e R s m args below meth c Q rc rs 840 [some (.ref b), some (.ref x), some (.ref mo), some (.ref ou), some (.int (nI i)), v5, v6] [] h := by
  obtain ⟨hR, ⟨th, hM⟩, hL, ⟨fo, ho⟩, hTo⟩ := hI
  refine z_aload_n C d_LW_law_840 rfl rfl ?_
  refine z_aload_n C d_LW_law_841 rfl rfl ?_
  refine z_iload C d_LW_law_842 rfl ?_
  refine z_iconst (v := 1) C d_LW_law_844 (by decide) ?_
  refine z_iadd C d_LW_law_845 ?_
  refine z_sld C d_LW_law_846 hX hbl hbA i1 ?_
  refine z_callSW (n := 2) (As := [.ref x, .int (xs (nI i + 1).toNatClampNeg)]) (rest := []) (r1 := 10) (mc1 := 6) (ms1 := 540) C d_LW_law_847 k_609 k_607 k_608 k_0 (by decide +kernel) rfl (by decide) (by decide) (Nat.le_of_ble_eq_true rfl) (by first | decide | omega) (by first | decide | omega) rfl ?_
  refine wx_answered hR ho hTo (fun kc ans S1 h1 T1 oc hR1 hx1 => ?_)
  dsimp only [zps]
  refine z_istore C d_LW_law_850 (by decide) rfl ?_
  dsimp only [List.set]
  have hTo1 : T1 ou = (0, 30) := (hx1.1 ou (zne ho)).trans hTo
  have hM1 := hM.keepO hTo hx1
  refine z_aload_n C d_LW_law_852 rfl rfl ?_
  refine z_aload_n C d_LW_law_853 rfl rfl ?_
  refine z_iload C d_LW_law_854 rfl ?_
  refine z_iconst (v := 1) C d_LW_law_856 (by decide) ?_
  refine z_iadd C d_LW_law_857 ?_
  refine z_sld C d_LW_law_858 hX hbl hbA i1 ?_
  refine z_callV (n := 1) (As := [.int (xs (nI i + 1).toNatClampNeg)]) (rest := []) (r1 := 3) (mc1 := 0) (ms1 := 0) (ci := 8) (T0 := T_MM) C d_LW_law_859 k_944 k_941 k_942 k_943 k_5 (by decide +kernel) rfl rfl (hM1.1) (by decide) (by decide) (Nat.le_of_ble_eq_true rfl) (by first | decide | omega) (by first | decide | omega) rfl ?_
  refine mx_answered hM1 hL oc (fun F1 h2 hM2 hL2 hx2 => ?_)
  dsimp only [zps]
  refine z_aload_n C d_LW_law_862 rfl rfl ?_
  refine z_callV (n := 0) (As := []) (rest := []) (r1 := 1) (mc1 := 0) (ms1 := 0) (ci := 8) (T0 := T_MM) C d_LW_law_863 k_838 k_835 k_836 k_837 k_5 (by decide +kernel) rfl rfl (hM2.1) (by decide) (by decide) (Nat.le_of_ble_eq_true rfl) (by first | decide | omega) (by first | decide | omega) rfl ?_
  refine ct_MM_thrown hM2 ?_
  dsimp only [zps]
  have hI2 : LI g T1 h2 x mo ou A S1 F1 := ⟨hR1.keepM hx2, ⟨_, hM2⟩, hL2, hx1.2.2.2.imp (fun f hf => (hx2.out hTo1).trans hf), hTo1⟩
  refine z_iload C d_LW_law_866 rfl ?_
  refine z_icmp_eq 873 C d_LW_law_868 (by decide) (fun cq => ?_) (fun cq => ?_)
  rotate_left
  · exact absurd rfl cq
  refine z_goto 1304 C d_LW_law_873 (by decide) ?_
  refine z_less (rc1 := rc - 6) (rs1 := rs - 540) (by omega) (by omega) ?_
  exact k T1 h2 S1 F1 _ _ hI2
set_option maxRecDepth 100000 in
theorem lb_maydayAt (C : zC g "RollCallsLaw" code 7 (some .boolean) 11 mc ms p e R s m args below meth c) (hX : va_X b L xs s s.heap) (hbl : b < s.heap.size) (hbA : ¬ zA g b) (i1 : vp_in (nI i + 1) L) (i2 : vp_in (nI i + 2) L) (i3 : vp_in (nI i + 3) L) (hI : LI g T h x mo ou A S F) (hrc : 6 ≤ rc) (hrs : 540 ≤ rs) (k : ∀ (T1 : Tg) (h1 : Hp) (S1 : CS) (F1 : FT) (w5 w6 : Option Value), LI g T1 h1 x mo ou A S1 F1 → Z g 7 mc ms p e R s m args below meth c Q (rc - 6) (rs - 540) 1304 [some (.ref b), some (.ref x), some (.ref mo), some (.ref ou), some (.int (nI i)), w5, w6] [] h1) : Z g 7 mc ms p e R s m args below meth c Q rc rs 876 [some (.ref b), some (.ref x), some (.ref mo), some (.ref ou), some (.int (nI i)), v5, v6] [] h := by
  obtain ⟨hR, ⟨th, hM⟩, hL, ⟨fo, ho⟩, hTo⟩ := hI
  refine z_aload_n C d_LW_law_876 rfl rfl ?_
  refine z_aload_n C d_LW_law_877 rfl rfl ?_
  refine z_iload C d_LW_law_878 rfl ?_
  refine z_iconst (v := 1) C d_LW_law_880 (by decide) ?_
  refine z_iadd C d_LW_law_881 ?_
  refine z_sld C d_LW_law_882 hX hbl hbA i1 ?_
  refine z_aload_n C d_LW_law_883 rfl rfl ?_
  refine z_iload C d_LW_law_884 rfl ?_
  refine z_iconst (v := 2) C d_LW_law_886 (by decide) ?_
  refine z_iadd C d_LW_law_887 ?_
  refine z_sld C d_LW_law_888 hX hbl hbA i2 ?_
  refine z_aload_n C d_LW_law_889 rfl rfl ?_
  refine z_callSW (n := 4) (As := [.ref x, .int (xs (nI i + 1).toNatClampNeg), .int (xs (nI i + 2).toNatClampNeg), .ref ou]) (rest := []) (r1 := 10) (mc1 := 6) (ms1 := 540) C d_LW_law_890 k_626 k_624 k_625 k_0 (by decide +kernel) rfl (by decide) (by decide) (Nat.le_of_ble_eq_true rfl) (by first | decide | omega) (by first | decide | omega) rfl ?_
  refine wx_maydayAt hR ho hTo (fun kc ans S1 h1 T1 oc hR1 hx1 hv => ?_)
  dsimp only [zps]
  refine z_istore C d_LW_law_893 (by decide) rfl ?_
  dsimp only [List.set]
  have hTo1 : T1 ou = (0, 30) := (hx1.1 ou (zne ho)).trans hTo
  have hM1 := hM.keepO hTo hx1
  refine z_aload_n C d_LW_law_895 rfl rfl ?_
  refine z_aload_n C d_LW_law_896 rfl rfl ?_
  refine z_iload C d_LW_law_897 rfl ?_
  refine z_iconst (v := 1) C d_LW_law_899 (by decide) ?_
  refine z_iadd C d_LW_law_900 ?_
  refine z_sld C d_LW_law_901 hX hbl hbA i1 ?_
  refine z_aload_n C d_LW_law_902 rfl rfl ?_
  refine z_iload C d_LW_law_903 rfl ?_
  refine z_iconst (v := 2) C d_LW_law_905 (by decide) ?_
  refine z_iadd C d_LW_law_906 ?_
  refine z_sld C d_LW_law_907 hX hbl hbA i2 ?_
  refine z_callV (n := 2) (As := [.int (xs (nI i + 1).toNatClampNeg), .int (xs (nI i + 2).toNatClampNeg)]) (rest := []) (r1 := 2) (mc1 := 0) (ms1 := 0) (ci := 8) (T0 := T_MM) C d_LW_law_908 k_948 k_945 k_946 k_947 k_5 (by decide +kernel) rfl rfl (hM1.1) (by decide) (by decide) (Nat.le_of_ble_eq_true rfl) (by first | decide | omega) (by first | decide | omega) rfl ?_
  refine mx_maydayAt hM1 hL oc (fun b0 F1 h2 hM2 hL2 hx2 hb => ?_)
  dsimp only [zps]
  refine z_istore C d_LW_law_911 (by decide) rfl ?_
  dsimp only [List.set]
  refine z_aload_n C d_LW_law_913 rfl rfl ?_
  refine z_callV (n := 0) (As := []) (rest := []) (r1 := 1) (mc1 := 0) (ms1 := 0) (ci := 8) (T0 := T_MM) C d_LW_law_914 k_838 k_835 k_836 k_837 k_5 (by decide +kernel) rfl rfl (hM2.1) (by decide) (by decide) (Nat.le_of_ble_eq_true rfl) (by first | decide | omega) (by first | decide | omega) rfl ?_
  refine ct_MM_thrown hM2 ?_
  dsimp only [zps]
  have hI2 : LI g T1 h2 x mo ou A S1 F1 := ⟨hR1.keepM hx2, ⟨_, hM2⟩, hL2, hx1.2.2.2.imp (fun f hf => (hx2.out hTo1).trans hf), hTo1⟩
  refine z_iload C d_LW_law_917 rfl ?_
  refine z_icmp_eq 924 C d_LW_law_919 (by decide) (fun cq => ?_) (fun cq => ?_)
  rotate_left
  · exact absurd rfl cq
  refine z_iload C d_LW_law_924 rfl ?_
  refine z_if_ne 941 C d_LW_law_926 (by decide) (fun cz => ?_) (fun cz => ?_)
  · refine z_goto 1304 C d_LW_law_941 (by decide) ?_
    refine z_less (rc1 := rc - 6) (rs1 := rs - 540) (by omega) (by omega) ?_
    exact k T1 h2 S1 F1 _ _ hI2
  · obtain ⟨f, hf, hf0⟩ := hv cz
    have hf2 : h2 ou = some (la g 1 f) := (hx2.out hTo1).trans hf
    refine z_aload_n C d_LW_law_929 rfl rfl ?_
    refine z_iconst (v := 0) C d_LW_law_930 (by decide) ?_
    refine z_lald C d_LW_law_931 (hf2) in01 ?_
    refine z_iload C d_LW_law_932 rfl ?_
    refine z_i2l C d_LW_law_934 ?_
    refine z_lcmp C d_LW_law_935 ?_
    rw [show f (0 : Int32).toNatClampNeg = b0.toInt64 from hf0.trans (by rw [hb cz]), cmp_self]
    refine z_if_eq 941 C d_LW_law_936 (by decide) (fun cw => ?_) (fun cw => ?_)
    · refine z_goto 1304 C d_LW_law_941 (by decide) ?_
      refine z_less (rc1 := rc - 6) (rs1 := rs - 540) (by omega) (by omega) ?_
      exact k T1 h2 S1 F1 _ _ hI2
    · exact absurd rfl cw
set_option maxRecDepth 100000 in
theorem lb_evacuate (C : zC g "RollCallsLaw" code 7 (some .boolean) 11 mc ms p e R s m args below meth c) (hX : va_X b L xs s s.heap) (hbl : b < s.heap.size) (hbA : ¬ zA g b) (i1 : vp_in (nI i + 1) L) (i2 : vp_in (nI i + 2) L) (i3 : vp_in (nI i + 3) L) (hI : LI g T h x mo ou A S F) (hrc : 6 ≤ rc) (hrs : 540 ≤ rs) (k : ∀ (T1 : Tg) (h1 : Hp) (S1 : CS) (F1 : FT) (w5 w6 : Option Value), LI g T1 h1 x mo ou A S1 F1 → Z g 7 mc ms p e R s m args below meth c Q (rc - 6) (rs - 540) 1304 [some (.ref b), some (.ref x), some (.ref mo), some (.ref ou), some (.int (nI i)), w5, w6] [] h1) : Z g 7 mc ms p e R s m args below meth c Q rc rs 944 [some (.ref b), some (.ref x), some (.ref mo), some (.ref ou), some (.int (nI i)), v5, v6] [] h := by
  obtain ⟨hR, ⟨th, hM⟩, hL, ⟨fo, ho⟩, hTo⟩ := hI
  refine z_aload_n C d_LW_law_944 rfl rfl ?_
  refine z_aload_n C d_LW_law_945 rfl rfl ?_
  refine z_iload C d_LW_law_946 rfl ?_
  refine z_iconst (v := 1) C d_LW_law_948 (by decide) ?_
  refine z_iadd C d_LW_law_949 ?_
  refine z_sld C d_LW_law_950 hX hbl hbA i1 ?_
  refine z_aload_n C d_LW_law_951 rfl rfl ?_
  refine z_callSW (n := 3) (As := [.ref x, .int (xs (nI i + 1).toNatClampNeg), .ref ou]) (rest := []) (r1 := 10) (mc1 := 6) (ms1 := 540) C d_LW_law_952 k_633 k_631 k_632 k_0 (by decide +kernel) rfl (by decide) (by decide) (Nat.le_of_ble_eq_true rfl) (by first | decide | omega) (by first | decide | omega) rfl ?_
  refine wx_evacuate hR ho hTo (fun kc ans S1 h1 T1 oc hR1 hx1 hv => ?_)
  dsimp only [zps]
  refine z_istore C d_LW_law_955 (by decide) rfl ?_
  dsimp only [List.set]
  have hTo1 : T1 ou = (0, 30) := (hx1.1 ou (zne ho)).trans hTo
  have hM1 := hM.keepO hTo hx1
  refine z_aload_n C d_LW_law_957 rfl rfl ?_
  refine z_aload_n C d_LW_law_958 rfl rfl ?_
  refine z_iload C d_LW_law_959 rfl ?_
  refine z_iconst (v := 1) C d_LW_law_961 (by decide) ?_
  refine z_iadd C d_LW_law_962 ?_
  refine z_sld C d_LW_law_963 hX hbl hbA i1 ?_
  refine z_callV (n := 1) (As := [.int (xs (nI i + 1).toNatClampNeg)]) (rest := []) (r1 := 4) (mc1 := 0) (ms1 := 0) (ci := 8) (T0 := T_MM) C d_LW_law_964 k_952 k_949 k_950 k_951 k_5 (by decide +kernel) rfl rfl (hM1.1) (by decide) (by decide) (Nat.le_of_ble_eq_true rfl) (by first | decide | omega) (by first | decide | omega) rfl ?_
  refine mx_evacuate hM1 hL oc (fun b0 F1 h2 hM2 hL2 hx2 hb => ?_)
  dsimp only [zps]
  refine z_istore C d_LW_law_967 (by decide) rfl ?_
  dsimp only [List.set]
  refine z_aload_n C d_LW_law_969 rfl rfl ?_
  refine z_callV (n := 0) (As := []) (rest := []) (r1 := 1) (mc1 := 0) (ms1 := 0) (ci := 8) (T0 := T_MM) C d_LW_law_970 k_838 k_835 k_836 k_837 k_5 (by decide +kernel) rfl rfl (hM2.1) (by decide) (by decide) (Nat.le_of_ble_eq_true rfl) (by first | decide | omega) (by first | decide | omega) rfl ?_
  refine ct_MM_thrown hM2 ?_
  dsimp only [zps]
  have hI2 : LI g T1 h2 x mo ou A S1 F1 := ⟨hR1.keepM hx2, ⟨_, hM2⟩, hL2, hx1.2.2.2.imp (fun f hf => (hx2.out hTo1).trans hf), hTo1⟩
  refine z_iload C d_LW_law_973 rfl ?_
  refine z_icmp_eq 980 C d_LW_law_975 (by decide) (fun cq => ?_) (fun cq => ?_)
  rotate_left
  · exact absurd rfl cq
  refine z_iload C d_LW_law_980 rfl ?_
  refine z_if_ne 997 C d_LW_law_982 (by decide) (fun cz => ?_) (fun cz => ?_)
  · refine z_goto 1304 C d_LW_law_997 (by decide) ?_
    refine z_less (rc1 := rc - 6) (rs1 := rs - 540) (by omega) (by omega) ?_
    exact k T1 h2 S1 F1 _ _ hI2
  · obtain ⟨f, hf, hf0⟩ := hv cz
    have hf2 : h2 ou = some (la g 1 f) := (hx2.out hTo1).trans hf
    refine z_aload_n C d_LW_law_985 rfl rfl ?_
    refine z_iconst (v := 0) C d_LW_law_986 (by decide) ?_
    refine z_lald C d_LW_law_987 (hf2) in01 ?_
    refine z_iload C d_LW_law_988 rfl ?_
    refine z_i2l C d_LW_law_990 ?_
    refine z_lcmp C d_LW_law_991 ?_
    rw [show f (0 : Int32).toNatClampNeg = b0.toInt64 from hf0.trans (by rw [hb cz]), cmp_self]
    refine z_if_eq 997 C d_LW_law_992 (by decide) (fun cw => ?_) (fun cw => ?_)
    · refine z_goto 1304 C d_LW_law_997 (by decide) ?_
      refine z_less (rc1 := rc - 6) (rs1 := rs - 540) (by omega) (by omega) ?_
      exact k T1 h2 S1 F1 _ _ hI2
    · exact absurd rfl cw
set_option maxRecDepth 100000 in
theorem lb_confirm (C : zC g "RollCallsLaw" code 7 (some .boolean) 11 mc ms p e R s m args below meth c) (hX : va_X b L xs s s.heap) (hbl : b < s.heap.size) (hbA : ¬ zA g b) (i1 : vp_in (nI i + 1) L) (i2 : vp_in (nI i + 2) L) (i3 : vp_in (nI i + 3) L) (hI : LI g T h x mo ou A S F) (hrc : 6 ≤ rc) (hrs : 540 ≤ rs) (k : ∀ (T1 : Tg) (h1 : Hp) (S1 : CS) (F1 : FT) (w5 w6 : Option Value), LI g T1 h1 x mo ou A S1 F1 → Z g 7 mc ms p e R s m args below meth c Q (rc - 6) (rs - 540) 1304 [some (.ref b), some (.ref x), some (.ref mo), some (.ref ou), some (.int (nI i)), w5, w6] [] h1) : Z g 7 mc ms p e R s m args below meth c Q rc rs 1000 [some (.ref b), some (.ref x), some (.ref mo), some (.ref ou), some (.int (nI i)), v5, v6] [] h := by
  obtain ⟨hR, ⟨th, hM⟩, hL, ⟨fo, ho⟩, hTo⟩ := hI
  refine z_aload_n C d_LW_law_1000 rfl rfl ?_
  refine z_aload_n C d_LW_law_1001 rfl rfl ?_
  refine z_iload C d_LW_law_1002 rfl ?_
  refine z_iconst (v := 1) C d_LW_law_1004 (by decide) ?_
  refine z_iadd C d_LW_law_1005 ?_
  refine z_sld C d_LW_law_1006 hX hbl hbA i1 ?_
  refine z_aload_n C d_LW_law_1007 rfl rfl ?_
  refine z_callSW (n := 3) (As := [.ref x, .int (xs (nI i + 1).toNatClampNeg), .ref ou]) (rest := []) (r1 := 10) (mc1 := 6) (ms1 := 540) C d_LW_law_1008 k_691 k_689 k_690 k_0 (by decide +kernel) rfl (by decide) (by decide) (Nat.le_of_ble_eq_true rfl) (by first | decide | omega) (by first | decide | omega) rfl ?_
  refine wx_confirm hR ho hTo (fun kc ans S1 h1 T1 oc hR1 hx1 hv => ?_)
  dsimp only [zps]
  refine z_istore C d_LW_law_1011 (by decide) rfl ?_
  dsimp only [List.set]
  have hTo1 : T1 ou = (0, 30) := (hx1.1 ou (zne ho)).trans hTo
  have hM1 := hM.keepO hTo hx1
  refine z_aload_n C d_LW_law_1013 rfl rfl ?_
  refine z_aload_n C d_LW_law_1014 rfl rfl ?_
  refine z_iload C d_LW_law_1015 rfl ?_
  refine z_iconst (v := 1) C d_LW_law_1017 (by decide) ?_
  refine z_iadd C d_LW_law_1018 ?_
  refine z_sld C d_LW_law_1019 hX hbl hbA i1 ?_
  refine z_callV (n := 1) (As := [.int (xs (nI i + 1).toNatClampNeg)]) (rest := []) (r1 := 3) (mc1 := 0) (ms1 := 0) (ci := 8) (T0 := T_MM) C d_LW_law_1020 k_968 k_965 k_966 k_967 k_5 (by decide +kernel) rfl rfl (hM1.1) (by decide) (by decide) (Nat.le_of_ble_eq_true rfl) (by first | decide | omega) (by first | decide | omega) rfl ?_
  refine mx_confirm hM1 hL oc (fun b0 F1 h2 hM2 hL2 hx2 hb => ?_)
  dsimp only [zps]
  refine z_istore C d_LW_law_1023 (by decide) rfl ?_
  dsimp only [List.set]
  refine z_aload_n C d_LW_law_1025 rfl rfl ?_
  refine z_callV (n := 0) (As := []) (rest := []) (r1 := 1) (mc1 := 0) (ms1 := 0) (ci := 8) (T0 := T_MM) C d_LW_law_1026 k_838 k_835 k_836 k_837 k_5 (by decide +kernel) rfl rfl (hM2.1) (by decide) (by decide) (Nat.le_of_ble_eq_true rfl) (by first | decide | omega) (by first | decide | omega) rfl ?_
  refine ct_MM_thrown hM2 ?_
  dsimp only [zps]
  have hI2 : LI g T1 h2 x mo ou A S1 F1 := ⟨hR1.keepM hx2, ⟨_, hM2⟩, hL2, hx1.2.2.2.imp (fun f hf => (hx2.out hTo1).trans hf), hTo1⟩
  refine z_iload C d_LW_law_1029 rfl ?_
  refine z_icmp_eq 1036 C d_LW_law_1031 (by decide) (fun cq => ?_) (fun cq => ?_)
  rotate_left
  · exact absurd rfl cq
  refine z_iload C d_LW_law_1036 rfl ?_
  refine z_if_ne 1053 C d_LW_law_1038 (by decide) (fun cz => ?_) (fun cz => ?_)
  · refine z_goto 1304 C d_LW_law_1053 (by decide) ?_
    refine z_less (rc1 := rc - 6) (rs1 := rs - 540) (by omega) (by omega) ?_
    exact k T1 h2 S1 F1 _ _ hI2
  · obtain ⟨f, hf, hf0⟩ := hv cz
    have hf2 : h2 ou = some (la g 1 f) := (hx2.out hTo1).trans hf
    refine z_aload_n C d_LW_law_1041 rfl rfl ?_
    refine z_iconst (v := 0) C d_LW_law_1042 (by decide) ?_
    refine z_lald C d_LW_law_1043 (hf2) in01 ?_
    refine z_iload C d_LW_law_1044 rfl ?_
    refine z_i2l C d_LW_law_1046 ?_
    refine z_lcmp C d_LW_law_1047 ?_
    rw [show f (0 : Int32).toNatClampNeg = b0.toInt64 from hf0.trans (by rw [hb cz]), cmp_self]
    refine z_if_eq 1053 C d_LW_law_1048 (by decide) (fun cw => ?_) (fun cw => ?_)
    · refine z_goto 1304 C d_LW_law_1053 (by decide) ?_
      refine z_less (rc1 := rc - 6) (rs1 := rs - 540) (by omega) (by omega) ?_
      exact k T1 h2 S1 F1 _ _ hI2
    · exact absurd rfl cw
set_option maxRecDepth 100000 in
theorem lb_late (C : zC g "RollCallsLaw" code 7 (some .boolean) 11 mc ms p e R s m args below meth c) (hX : va_X b L xs s s.heap) (hbl : b < s.heap.size) (hbA : ¬ zA g b) (i1 : vp_in (nI i + 1) L) (i2 : vp_in (nI i + 2) L) (i3 : vp_in (nI i + 3) L) (hI : LI g T h x mo ou A S F) (hrc : 6 ≤ rc) (hrs : 540 ≤ rs) (k : ∀ (T1 : Tg) (h1 : Hp) (S1 : CS) (F1 : FT) (w5 w6 : Option Value), LI g T1 h1 x mo ou A S1 F1 → Z g 7 mc ms p e R s m args below meth c Q (rc - 6) (rs - 540) 1304 [some (.ref b), some (.ref x), some (.ref mo), some (.ref ou), some (.int (nI i)), w5, w6] [] h1) : Z g 7 mc ms p e R s m args below meth c Q rc rs 1056 [some (.ref b), some (.ref x), some (.ref mo), some (.ref ou), some (.int (nI i)), v5, v6] [] h := by
  obtain ⟨hR, ⟨th, hM⟩, hL, ⟨fo, ho⟩, hTo⟩ := hI
  refine z_aload_n C d_LW_law_1056 rfl rfl ?_
  refine z_aload_n C d_LW_law_1057 rfl rfl ?_
  refine z_iload C d_LW_law_1058 rfl ?_
  refine z_iconst (v := 1) C d_LW_law_1060 (by decide) ?_
  refine z_iadd C d_LW_law_1061 ?_
  refine z_sld C d_LW_law_1062 hX hbl hbA i1 ?_
  refine z_aload_n C d_LW_law_1063 rfl rfl ?_
  refine z_iload C d_LW_law_1064 rfl ?_
  refine z_iconst (v := 2) C d_LW_law_1066 (by decide) ?_
  refine z_iadd C d_LW_law_1067 ?_
  refine z_sld C d_LW_law_1068 hX hbl hbA i2 ?_
  refine z_aload_n C d_LW_law_1069 rfl rfl ?_
  refine z_callSW (n := 4) (As := [.ref x, .int (xs (nI i + 1).toNatClampNeg), .int (xs (nI i + 2).toNatClampNeg), .ref ou]) (rest := []) (r1 := 10) (mc1 := 6) (ms1 := 540) C d_LW_law_1070 k_700 k_698 k_699 k_0 (by decide +kernel) rfl (by decide) (by decide) (Nat.le_of_ble_eq_true rfl) (by first | decide | omega) (by first | decide | omega) rfl ?_
  refine wx_late hR ho hTo (fun kc ans S1 h1 T1 oc hR1 hx1 hv => ?_)
  dsimp only [zps]
  refine z_istore C d_LW_law_1073 (by decide) rfl ?_
  dsimp only [List.set]
  have hTo1 : T1 ou = (0, 30) := (hx1.1 ou (zne ho)).trans hTo
  have hM1 := hM.keepO hTo hx1
  refine z_aload_n C d_LW_law_1075 rfl rfl ?_
  refine z_aload_n C d_LW_law_1076 rfl rfl ?_
  refine z_iload C d_LW_law_1077 rfl ?_
  refine z_iconst (v := 1) C d_LW_law_1079 (by decide) ?_
  refine z_iadd C d_LW_law_1080 ?_
  refine z_sld C d_LW_law_1081 hX hbl hbA i1 ?_
  refine z_aload_n C d_LW_law_1082 rfl rfl ?_
  refine z_iload C d_LW_law_1083 rfl ?_
  refine z_iconst (v := 2) C d_LW_law_1085 (by decide) ?_
  refine z_iadd C d_LW_law_1086 ?_
  refine z_sld C d_LW_law_1087 hX hbl hbA i2 ?_
  refine z_callV (n := 2) (As := [.int (xs (nI i + 1).toNatClampNeg), .int (xs (nI i + 2).toNatClampNeg)]) (rest := []) (r1 := 2) (mc1 := 0) (ms1 := 0) (ci := 8) (T0 := T_MM) C d_LW_law_1088 k_972 k_969 k_970 k_971 k_5 (by decide +kernel) rfl rfl (hM1.1) (by decide) (by decide) (Nat.le_of_ble_eq_true rfl) (by first | decide | omega) (by first | decide | omega) rfl ?_
  refine mx_late hM1 hL oc (fun b0 F1 h2 hM2 hL2 hx2 hb => ?_)
  dsimp only [zps]
  refine z_istore C d_LW_law_1091 (by decide) rfl ?_
  dsimp only [List.set]
  refine z_aload_n C d_LW_law_1093 rfl rfl ?_
  refine z_callV (n := 0) (As := []) (rest := []) (r1 := 1) (mc1 := 0) (ms1 := 0) (ci := 8) (T0 := T_MM) C d_LW_law_1094 k_838 k_835 k_836 k_837 k_5 (by decide +kernel) rfl rfl (hM2.1) (by decide) (by decide) (Nat.le_of_ble_eq_true rfl) (by first | decide | omega) (by first | decide | omega) rfl ?_
  refine ct_MM_thrown hM2 ?_
  dsimp only [zps]
  have hI2 : LI g T1 h2 x mo ou A S1 F1 := ⟨hR1.keepM hx2, ⟨_, hM2⟩, hL2, hx1.2.2.2.imp (fun f hf => (hx2.out hTo1).trans hf), hTo1⟩
  refine z_iload C d_LW_law_1097 rfl ?_
  refine z_icmp_eq 1104 C d_LW_law_1099 (by decide) (fun cq => ?_) (fun cq => ?_)
  rotate_left
  · exact absurd rfl cq
  refine z_iload C d_LW_law_1104 rfl ?_
  refine z_if_ne 1121 C d_LW_law_1106 (by decide) (fun cz => ?_) (fun cz => ?_)
  · refine z_goto 1304 C d_LW_law_1121 (by decide) ?_
    refine z_less (rc1 := rc - 6) (rs1 := rs - 540) (by omega) (by omega) ?_
    exact k T1 h2 S1 F1 _ _ hI2
  · obtain ⟨f, hf, hf0⟩ := hv cz
    have hf2 : h2 ou = some (la g 1 f) := (hx2.out hTo1).trans hf
    refine z_aload_n C d_LW_law_1109 rfl rfl ?_
    refine z_iconst (v := 0) C d_LW_law_1110 (by decide) ?_
    refine z_lald C d_LW_law_1111 (hf2) in01 ?_
    refine z_iload C d_LW_law_1112 rfl ?_
    refine z_i2l C d_LW_law_1114 ?_
    refine z_lcmp C d_LW_law_1115 ?_
    rw [show f (0 : Int32).toNatClampNeg = b0.toInt64 from hf0.trans (by rw [hb cz]), cmp_self]
    refine z_if_eq 1121 C d_LW_law_1116 (by decide) (fun cw => ?_) (fun cw => ?_)
    · refine z_goto 1304 C d_LW_law_1121 (by decide) ?_
      refine z_less (rc1 := rc - 6) (rs1 := rs - 540) (by omega) (by omega) ?_
      exact k T1 h2 S1 F1 _ _ hI2
    · exact absurd rfl cw
set_option maxRecDepth 100000 in
theorem lb_tick (C : zC g "RollCallsLaw" code 7 (some .boolean) 11 mc ms p e R s m args below meth c) (hX : va_X b L xs s s.heap) (hbl : b < s.heap.size) (hbA : ¬ zA g b) (i1 : vp_in (nI i + 1) L) (i2 : vp_in (nI i + 2) L) (i3 : vp_in (nI i + 3) L) (hI : LI g T h x mo ou A S F) (hrc : 6 ≤ rc) (hrs : 540 ≤ rs) (k : ∀ (T1 : Tg) (h1 : Hp) (S1 : CS) (F1 : FT) (w5 w6 : Option Value), LI g T1 h1 x mo ou A S1 F1 → Z g 7 mc ms p e R s m args below meth c Q (rc - 6) (rs - 540) 1304 [some (.ref b), some (.ref x), some (.ref mo), some (.ref ou), some (.int (nI i)), w5, w6] [] h1) : Z g 7 mc ms p e R s m args below meth c Q rc rs 1124 [some (.ref b), some (.ref x), some (.ref mo), some (.ref ou), some (.int (nI i)), v5, v6] [] h := by
  obtain ⟨hR, ⟨th, hM⟩, hL, ⟨fo, ho⟩, hTo⟩ := hI
  refine z_aload_n C d_LW_law_1124 rfl rfl ?_
  refine z_aload_n C d_LW_law_1125 rfl rfl ?_
  refine z_iload C d_LW_law_1126 rfl ?_
  refine z_iconst (v := 1) C d_LW_law_1128 (by decide) ?_
  refine z_iadd C d_LW_law_1129 ?_
  refine z_sld C d_LW_law_1130 hX hbl hbA i1 ?_
  refine z_aload_n C d_LW_law_1131 rfl rfl ?_
  refine z_callSW (n := 3) (As := [.ref x, .int (xs (nI i + 1).toNatClampNeg), .ref ou]) (rest := []) (r1 := 10) (mc1 := 6) (ms1 := 540) C d_LW_law_1132 k_707 k_705 k_706 k_0 (by decide +kernel) rfl (by decide) (by decide) (Nat.le_of_ble_eq_true rfl) (by first | decide | omega) (by first | decide | omega) rfl ?_
  refine wx_tick hR ho hTo (fun kc ans S1 h1 T1 oc hR1 hx1 hv => ?_)
  dsimp only [zps]
  refine z_istore C d_LW_law_1135 (by decide) rfl ?_
  dsimp only [List.set]
  have hTo1 : T1 ou = (0, 30) := (hx1.1 ou (zne ho)).trans hTo
  have hM1 := hM.keepO hTo hx1
  refine z_aload_n C d_LW_law_1137 rfl rfl ?_
  refine z_aload_n C d_LW_law_1138 rfl rfl ?_
  refine z_iload C d_LW_law_1139 rfl ?_
  refine z_iconst (v := 1) C d_LW_law_1141 (by decide) ?_
  refine z_iadd C d_LW_law_1142 ?_
  refine z_sld C d_LW_law_1143 hX hbl hbA i1 ?_
  refine z_callV (n := 1) (As := [.int (xs (nI i + 1).toNatClampNeg)]) (rest := []) (r1 := 2) (mc1 := 0) (ms1 := 0) (ci := 8) (T0 := T_MM) C d_LW_law_1144 k_980 k_977 k_978 k_979 k_5 (by decide +kernel) rfl rfl (hM1.1) (by decide) (by decide) (Nat.le_of_ble_eq_true rfl) (by first | decide | omega) (by first | decide | omega) rfl ?_
  refine mx_tick hM1 hL oc (fun b0 F1 h2 hM2 hL2 hx2 hb => ?_)
  dsimp only [zps]
  refine z_istore C d_LW_law_1147 (by decide) rfl ?_
  dsimp only [List.set]
  refine z_aload_n C d_LW_law_1149 rfl rfl ?_
  refine z_callV (n := 0) (As := []) (rest := []) (r1 := 1) (mc1 := 0) (ms1 := 0) (ci := 8) (T0 := T_MM) C d_LW_law_1150 k_838 k_835 k_836 k_837 k_5 (by decide +kernel) rfl rfl (hM2.1) (by decide) (by decide) (Nat.le_of_ble_eq_true rfl) (by first | decide | omega) (by first | decide | omega) rfl ?_
  refine ct_MM_thrown hM2 ?_
  dsimp only [zps]
  have hI2 : LI g T1 h2 x mo ou A S1 F1 := ⟨hR1.keepM hx2, ⟨_, hM2⟩, hL2, hx1.2.2.2.imp (fun f hf => (hx2.out hTo1).trans hf), hTo1⟩
  refine z_iload C d_LW_law_1153 rfl ?_
  refine z_icmp_eq 1160 C d_LW_law_1155 (by decide) (fun cq => ?_) (fun cq => ?_)
  rotate_left
  · exact absurd rfl cq
  refine z_iload C d_LW_law_1160 rfl ?_
  refine z_if_ne 1177 C d_LW_law_1162 (by decide) (fun cz => ?_) (fun cz => ?_)
  · refine z_goto 1304 C d_LW_law_1177 (by decide) ?_
    refine z_less (rc1 := rc - 6) (rs1 := rs - 540) (by omega) (by omega) ?_
    exact k T1 h2 S1 F1 _ _ hI2
  · obtain ⟨f, hf, hf0⟩ := hv cz
    have hf2 : h2 ou = some (la g 1 f) := (hx2.out hTo1).trans hf
    refine z_aload_n C d_LW_law_1165 rfl rfl ?_
    refine z_iconst (v := 0) C d_LW_law_1166 (by decide) ?_
    refine z_lald C d_LW_law_1167 (hf2) in01 ?_
    refine z_iload C d_LW_law_1168 rfl ?_
    refine z_i2l C d_LW_law_1170 ?_
    refine z_lcmp C d_LW_law_1171 ?_
    rw [show f (0 : Int32).toNatClampNeg = b0.toInt64 from hf0.trans (by rw [hb cz]), cmp_self]
    refine z_if_eq 1177 C d_LW_law_1172 (by decide) (fun cw => ?_) (fun cw => ?_)
    · refine z_goto 1304 C d_LW_law_1177 (by decide) ?_
      refine z_less (rc1 := rc - 6) (rs1 := rs - 540) (by omega) (by omega) ?_
      exact k T1 h2 S1 F1 _ _ hI2
    · exact absurd rfl cw
set_option maxRecDepth 100000 in
theorem lb_was (C : zC g "RollCallsLaw" code 7 (some .boolean) 11 mc ms p e R s m args below meth c) (hX : va_X b L xs s s.heap) (hbl : b < s.heap.size) (hbA : ¬ zA g b) (i1 : vp_in (nI i + 1) L) (i2 : vp_in (nI i + 2) L) (i3 : vp_in (nI i + 3) L) (hI : LI g T h x mo ou A S F) (hrc : 6 ≤ rc) (hrs : 540 ≤ rs) (k : ∀ (T1 : Tg) (h1 : Hp) (S1 : CS) (F1 : FT) (w5 w6 : Option Value), LI g T1 h1 x mo ou A S1 F1 → Z g 7 mc ms p e R s m args below meth c Q (rc - 6) (rs - 540) 1304 [some (.ref b), some (.ref x), some (.ref mo), some (.ref ou), some (.int (nI i)), w5, w6] [] h1) : Z g 7 mc ms p e R s m args below meth c Q rc rs 1180 [some (.ref b), some (.ref x), some (.ref mo), some (.ref ou), some (.int (nI i)), v5, v6] [] h := by
  obtain ⟨hR, ⟨th, hM⟩, hL, ⟨fo, ho⟩, hTo⟩ := hI
  refine z_aload_n C d_LW_law_1180 rfl rfl ?_
  refine z_aload_n C d_LW_law_1181 rfl rfl ?_
  refine z_iload C d_LW_law_1182 rfl ?_
  refine z_iconst (v := 1) C d_LW_law_1184 (by decide) ?_
  refine z_iadd C d_LW_law_1185 ?_
  refine z_sld C d_LW_law_1186 hX hbl hbA i1 ?_
  refine z_aload_n C d_LW_law_1187 rfl rfl ?_
  refine z_iload C d_LW_law_1188 rfl ?_
  refine z_iconst (v := 2) C d_LW_law_1190 (by decide) ?_
  refine z_iadd C d_LW_law_1191 ?_
  refine z_sld C d_LW_law_1192 hX hbl hbA i2 ?_
  refine z_aload_n C d_LW_law_1193 rfl rfl ?_
  refine z_callSW (n := 4) (As := [.ref x, .int (xs (nI i + 1).toNatClampNeg), .int (xs (nI i + 2).toNatClampNeg), .ref ou]) (rest := []) (r1 := 10) (mc1 := 6) (ms1 := 540) C d_LW_law_1194 k_720 k_718 k_719 k_0 (by decide +kernel) rfl (by decide) (by decide) (Nat.le_of_ble_eq_true rfl) (by first | decide | omega) (by first | decide | omega) rfl ?_
  refine wx_was hR ho hTo (fun kc ans S1 h1 T1 oc hR1 hx1 hv => ?_)
  dsimp only [zps]
  refine z_istore C d_LW_law_1197 (by decide) rfl ?_
  dsimp only [List.set]
  have hTo1 : T1 ou = (0, 30) := (hx1.1 ou (zne ho)).trans hTo
  have hM1 := hM.keepO hTo hx1
  refine z_aload_n C d_LW_law_1199 rfl rfl ?_
  refine z_aload_n C d_LW_law_1200 rfl rfl ?_
  refine z_iload C d_LW_law_1201 rfl ?_
  refine z_iconst (v := 1) C d_LW_law_1203 (by decide) ?_
  refine z_iadd C d_LW_law_1204 ?_
  refine z_sld C d_LW_law_1205 hX hbl hbA i1 ?_
  refine z_aload_n C d_LW_law_1206 rfl rfl ?_
  refine z_iload C d_LW_law_1207 rfl ?_
  refine z_iconst (v := 2) C d_LW_law_1209 (by decide) ?_
  refine z_iadd C d_LW_law_1210 ?_
  refine z_sld C d_LW_law_1211 hX hbl hbA i2 ?_
  refine z_callV (n := 2) (As := [.int (xs (nI i + 1).toNatClampNeg), .int (xs (nI i + 2).toNatClampNeg)]) (rest := []) (r1 := 3) (mc1 := 0) (ms1 := 0) (ci := 8) (T0 := T_MM) C d_LW_law_1212 k_985 k_982 k_983 k_984 k_5 (by decide +kernel) rfl rfl (hM1.1) (by decide) (by decide) (Nat.le_of_ble_eq_true rfl) (by first | decide | omega) (by first | decide | omega) rfl ?_
  refine mx_was hM1 hL oc (fun b0 F1 h2 hM2 hL2 hx2 hb => ?_)
  dsimp only [zps]
  refine z_istore C d_LW_law_1215 (by decide) rfl ?_
  dsimp only [List.set]
  refine z_aload_n C d_LW_law_1217 rfl rfl ?_
  refine z_callV (n := 0) (As := []) (rest := []) (r1 := 1) (mc1 := 0) (ms1 := 0) (ci := 8) (T0 := T_MM) C d_LW_law_1218 k_838 k_835 k_836 k_837 k_5 (by decide +kernel) rfl rfl (hM2.1) (by decide) (by decide) (Nat.le_of_ble_eq_true rfl) (by first | decide | omega) (by first | decide | omega) rfl ?_
  refine ct_MM_thrown hM2 ?_
  dsimp only [zps]
  have hI2 : LI g T1 h2 x mo ou A S1 F1 := ⟨hR1.keepM hx2, ⟨_, hM2⟩, hL2, hx1.2.2.2.imp (fun f hf => (hx2.out hTo1).trans hf), hTo1⟩
  refine z_iload C d_LW_law_1221 rfl ?_
  refine z_icmp_eq 1228 C d_LW_law_1223 (by decide) (fun cq => ?_) (fun cq => ?_)
  rotate_left
  · exact absurd rfl cq
  refine z_iload C d_LW_law_1228 rfl ?_
  refine z_if_ne 1245 C d_LW_law_1230 (by decide) (fun cz => ?_) (fun cz => ?_)
  · refine z_goto 1304 C d_LW_law_1245 (by decide) ?_
    refine z_less (rc1 := rc - 6) (rs1 := rs - 540) (by omega) (by omega) ?_
    exact k T1 h2 S1 F1 _ _ hI2
  · obtain ⟨f, hf, hf0⟩ := hv cz
    have hf2 : h2 ou = some (la g 1 f) := (hx2.out hTo1).trans hf
    refine z_aload_n C d_LW_law_1233 rfl rfl ?_
    refine z_iconst (v := 0) C d_LW_law_1234 (by decide) ?_
    refine z_lald C d_LW_law_1235 (hf2) in01 ?_
    refine z_iload C d_LW_law_1236 rfl ?_
    refine z_i2l C d_LW_law_1238 ?_
    refine z_lcmp C d_LW_law_1239 ?_
    rw [show f (0 : Int32).toNatClampNeg = b0.toInt64 from hf0.trans (by rw [hb cz]), cmp_self]
    refine z_if_eq 1245 C d_LW_law_1240 (by decide) (fun cw => ?_) (fun cw => ?_)
    · refine z_goto 1304 C d_LW_law_1245 (by decide) ?_
      refine z_less (rc1 := rc - 6) (rs1 := rs - 540) (by omega) (by omega) ?_
      exact k T1 h2 S1 F1 _ _ hI2
    · exact absurd rfl cw
set_option maxRecDepth 100000 in
theorem lb_count (C : zC g "RollCallsLaw" code 7 (some .boolean) 11 mc ms p e R s m args below meth c) (hX : va_X b L xs s s.heap) (hbl : b < s.heap.size) (hbA : ¬ zA g b) (i1 : vp_in (nI i + 1) L) (i2 : vp_in (nI i + 2) L) (i3 : vp_in (nI i + 3) L) (hI : LI g T h x mo ou A S F) (hrc : 6 ≤ rc) (hrs : 540 ≤ rs) (k : ∀ (T1 : Tg) (h1 : Hp) (S1 : CS) (F1 : FT) (w5 w6 : Option Value), LI g T1 h1 x mo ou A S1 F1 → Z g 7 mc ms p e R s m args below meth c Q (rc - 6) (rs - 540) 1304 [some (.ref b), some (.ref x), some (.ref mo), some (.ref ou), some (.int (nI i)), w5, w6] [] h1) : Z g 7 mc ms p e R s m args below meth c Q rc rs 1248 [some (.ref b), some (.ref x), some (.ref mo), some (.ref ou), some (.int (nI i)), v5, v6] [] h := by
  obtain ⟨hR, ⟨th, hM⟩, hL, ⟨fo, ho⟩, hTo⟩ := hI
  refine z_aload_n C d_LW_law_1248 rfl rfl ?_
  refine z_aload_n C d_LW_law_1249 rfl rfl ?_
  refine z_iload C d_LW_law_1250 rfl ?_
  refine z_iconst (v := 1) C d_LW_law_1252 (by decide) ?_
  refine z_iadd C d_LW_law_1253 ?_
  refine z_sld C d_LW_law_1254 hX hbl hbA i1 ?_
  refine z_aload_n C d_LW_law_1255 rfl rfl ?_
  refine z_callSW (n := 3) (As := [.ref x, .int (xs (nI i + 1).toNatClampNeg), .ref ou]) (rest := []) (r1 := 10) (mc1 := 6) (ms1 := 540) C d_LW_law_1256 k_728 k_726 k_727 k_0 (by decide +kernel) rfl (by decide) (by decide) (Nat.le_of_ble_eq_true rfl) (by first | decide | omega) (by first | decide | omega) rfl ?_
  refine wx_count hR ho hTo (fun kc ans S1 h1 T1 oc hR1 hx1 hv => ?_)
  dsimp only [zps]
  refine z_istore C d_LW_law_1259 (by decide) rfl ?_
  dsimp only [List.set]
  have hTo1 : T1 ou = (0, 30) := (hx1.1 ou (zne ho)).trans hTo
  have hM1 := hM.keepO hTo hx1
  refine z_aload_n C d_LW_law_1261 rfl rfl ?_
  refine z_aload_n C d_LW_law_1262 rfl rfl ?_
  refine z_iload C d_LW_law_1263 rfl ?_
  refine z_iconst (v := 1) C d_LW_law_1265 (by decide) ?_
  refine z_iadd C d_LW_law_1266 ?_
  refine z_sld C d_LW_law_1267 hX hbl hbA i1 ?_
  refine z_callV (n := 1) (As := [.int (xs (nI i + 1).toNatClampNeg)]) (rest := []) (r1 := 3) (mc1 := 0) (ms1 := 0) (ci := 8) (T0 := T_MM) C d_LW_law_1268 k_989 k_986 k_987 k_988 k_5 (by decide +kernel) rfl rfl (hM1.1) (by decide) (by decide) (Nat.le_of_ble_eq_true rfl) (by first | decide | omega) (by first | decide | omega) rfl ?_
  refine mx_count hM1 hL oc (fun b0 F1 h2 hM2 hL2 hx2 hb => ?_)
  dsimp only [zps]
  refine z_istore C d_LW_law_1271 (by decide) rfl ?_
  dsimp only [List.set]
  refine z_aload_n C d_LW_law_1273 rfl rfl ?_
  refine z_callV (n := 0) (As := []) (rest := []) (r1 := 1) (mc1 := 0) (ms1 := 0) (ci := 8) (T0 := T_MM) C d_LW_law_1274 k_838 k_835 k_836 k_837 k_5 (by decide +kernel) rfl rfl (hM2.1) (by decide) (by decide) (Nat.le_of_ble_eq_true rfl) (by first | decide | omega) (by first | decide | omega) rfl ?_
  refine ct_MM_thrown hM2 ?_
  dsimp only [zps]
  have hI2 : LI g T1 h2 x mo ou A S1 F1 := ⟨hR1.keepM hx2, ⟨_, hM2⟩, hL2, hx1.2.2.2.imp (fun f hf => (hx2.out hTo1).trans hf), hTo1⟩
  refine z_iload C d_LW_law_1277 rfl ?_
  refine z_icmp_eq 1284 C d_LW_law_1279 (by decide) (fun cq => ?_) (fun cq => ?_)
  rotate_left
  · exact absurd rfl cq
  refine z_iload C d_LW_law_1284 rfl ?_
  refine z_if_ne 1301 C d_LW_law_1286 (by decide) (fun cz => ?_) (fun cz => ?_)
  · refine z_goto 1304 C d_LW_law_1301 (by decide) ?_
    refine z_less (rc1 := rc - 6) (rs1 := rs - 540) (by omega) (by omega) ?_
    exact k T1 h2 S1 F1 _ _ hI2
  · obtain ⟨f, hf, hf0⟩ := hv cz
    have hf2 : h2 ou = some (la g 1 f) := (hx2.out hTo1).trans hf
    refine z_aload_n C d_LW_law_1289 rfl rfl ?_
    refine z_iconst (v := 0) C d_LW_law_1290 (by decide) ?_
    refine z_lald C d_LW_law_1291 (hf2) in01 ?_
    refine z_iload C d_LW_law_1292 rfl ?_
    refine z_i2l C d_LW_law_1294 ?_
    refine z_lcmp C d_LW_law_1295 ?_
    rw [show f (0 : Int32).toNatClampNeg = b0.toInt64 from hf0.trans (by rw [hb cz]), cmp_self]
    refine z_if_eq 1301 C d_LW_law_1296 (by decide) (fun cw => ?_) (fun cw => ?_)
    · refine z_goto 1304 C d_LW_law_1301 (by decide) ?_
      refine z_less (rc1 := rc - 6) (rs1 := rs - 540) (by omega) (by omega) ?_
      exact k T1 h2 S1 F1 _ _ hI2
    · exact absurd rfl cw
end LAW
