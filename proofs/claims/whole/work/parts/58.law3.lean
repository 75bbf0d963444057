/-! ===== the law's calls, one by one ===== -/
theorem v_less7 {G : GT} {R : Room} {nL : Nat} {x : XT} {L : List Nat} {f : Nat → va_E} {k n pc : Nat} {a0 a1 a2 a3 a4 z5 z6 : Option Value} {rest : List Value} (kk : V G R nL x L f k n [a0, a1, a2, a3, a4, none, none] pc rest) : V G R nL x L f k n [a0, a1, a2, a3, a4, z5, z6] pc rest := by
  intro H locs ls hP hS hl
  refine kk H locs ls hP hS ⟨hl.1, hl.2.1, fun i v h => hl.2.2 i v ?_⟩
  match i, h with
  | 0, h => exact h
  | 1, h => exact h
  | 2, h => exact h
  | 3, h => exact h
  | 4, h => exact h
  | 5, h => exact absurd h (by simp)
  | 6, h => exact absurd h (by simp)
  | i + 7, h => exact absurd h (by simp)
set_option maxHeartbeats 4000000 in
set_option maxRecDepth 100000 in
theorem lc_machine {G : GT} {x : XT} (hx : KX G 7 x b_La_law "MachineTablesLaw") (hTX : TXb G x.2.2.1) (hoff : G.1.stackTraces = false) {b Ln : Nat} {xs : Nat → Int32} (hX : va_X b Ln xs x.2.2.1 x.2.2.1.heap) (hbG : b < G.2.2.2) (hLn : Ln < 2 ^ 31) {L : List Nat} {f : Nat → va_E} {w A B : Nat → Nat} {oa : Nat} {σ τ : SG} (hI : LI G L f w A B oa σ τ) {i kc kn : Nat} (hi : i + 6 ≤ Ln) (hk : kc + 6 ≤ 601024) (hn : kn + 4200 ≤ 7293034) (kk : ∀ (L' : List Nat) (f' : Nat → va_E) (w' : Nat → Nat) (σ' τ' : SG), LI G L' f' w' A B oa σ' τ' → V G room_1 7 x L' f' (kc + 6) (kn + 4200) [some (.ref b), some (.ref (A 0)), some (.ref (B 0)), some (.ref oa), some (.int (nI i)), none, none] 788 []) : V G room_1 7 x L f kc kn [some (.ref b), some (.ref (A 0)), some (.ref (B 0)), some (.ref oa), some (.int (nI i)), none, none] 116 [] := by
  obtain ⟨hS, ⟨th, hMo⟩, hR, hoL, hoW, h0, hoF⟩ := hI
  obtain ⟨c1, n1, k1, x1, o1, l1, d1⟩ := σ
  obtain ⟨mc, sa, ka, nx, ou, wl, wd, ap, fo, se, fr, by_, is, tr, my, ss, tf, tb, rfl, hG, hM⟩ := hMo.op
  have hok := hS.okG
  obtain ⟨hA0, vsA, hA0f⟩ := hS.obj
  refine v_aload_n hx d_La_law_116 rfl rfl ?_
  refine v_aload_n hx d_La_law_117 rfl rfl ?_
  refine v_iload hx d_La_law_118 rfl ?_
  refine v_iconst (v := (nI 1)) hx d_La_law_120 rfl ?_
  refine n_iadd hx d_La_law_121 ?_
  refine v_sld hx hX hbG (by omega) hLn d_La_law_122 ?_
  refine v_aload_n hx d_La_law_123 rfl rfl ?_
  refine v_iload hx d_La_law_124 rfl ?_
  refine v_iconst (v := (nI 2)) hx d_La_law_126 rfl ?_
  refine n_iadd hx d_La_law_127 ?_
  refine v_sld hx hX hbG (by omega) hLn d_La_law_128 ?_
  refine v_callV (as := [.int (xs (i + 1)), .int (xs (i + 2))]) (q := (R_MT, T_MT, 5)) hx (c_MT_machine hS (xs (i + 1)) (xs (i + 2))) cy_MT_machine k_La_34 ki_MT_machine kl_MT_machine d_La_law_129 (by decide) (ci := 3) rfl hA0 hA0f ⟨(by show _ ≤ 601024; omega), (by show _ ≤ 7293034; omega)⟩ rfl rfl (Nat.le_of_ble_eq_true rfl) (fun v1 L1 f1 p1 => ?_)
  obtain ⟨vi, w1, σ1, rfl, hO, hS1, hr1⟩ := p1
  have hw1o : w1 oa = 101 := (hO.2.1 oa hoL).trans hoW
  have hM1 := hM.move hO.1 hO.2.1 (fun q h1 h2 => hO.2.2 q h1 (by omega))
  refine v_aload_n hx d_La_law_132 rfl rfl ?_
  refine v_aload_n hx d_La_law_133 rfl rfl ?_
  refine v_iload hx d_La_law_134 rfl ?_
  refine v_iconst (v := (nI 1)) hx d_La_law_136 rfl ?_
  refine n_iadd hx d_La_law_137 ?_
  refine v_sld hx hX hbG (by omega) hLn d_La_law_138 ?_
  refine v_aload_n hx d_La_law_139 rfl rfl ?_
  refine v_iload hx d_La_law_140 rfl ?_
  refine v_iconst (v := (nI 2)) hx d_La_law_142 rfl ?_
  refine n_iadd hx d_La_law_143 ?_
  refine v_sld hx hX hbG (by omega) hLn d_La_law_144 ?_
  refine v_callV (as := [.int (xs (i + 1)), .int (xs (i + 2))]) (q := (R_Mo, T_Mo, 19)) hx (c_Mo_machine hM1 hG (xs (i + 1)) (xs (i + 2))) cy_Mo_machine k_La_37 ki_Mo_machine kl_Mo_machine d_La_law_145 (by decide) (ci := 4) rfl hM1.m0 hM1.f0 ⟨(by show _ ≤ 601024; omega), (by show _ ≤ 7293034; omega)⟩ rfl rfl (Nat.le_of_ble_eq_true rfl) (fun v2 L2 f2 p2 => ?_)
  obtain ⟨vj, th2, τ2, rfl, eL, hF2, hM2, -, hr2⟩ := p2
  subst eL
  obtain ⟨hv, hR2⟩ := det_machine hR hr1 hr2
  refine v_icmp_eq (tgt := 788) hx d_La_law_148 (by decide) (fun c148 => ?_) (fun c148 => ?_)
  · refine v_widen (k' := kc + 6) (n' := kn + 4200) (by omega) (by omega) ?_
    exact kk _ _ _ _ _ ⟨hS1.fr (by decide) hF2, ⟨_, hM2⟩, hR2, hO.1 _ hoL, hw1o, _, (hF2 oa (by omega)).trans ((hO.2.2 oa hoL (by omega)).trans hoF)⟩
  · exact absurd hv c148
set_option maxHeartbeats 4000000 in
set_option maxRecDepth 100000 in
theorem lc_arrow {G : GT} {x : XT} (hx : KX G 7 x b_La_law "MachineTablesLaw") (hTX : TXb G x.2.2.1) (hoff : G.1.stackTraces = false) {b Ln : Nat} {xs : Nat → Int32} (hX : va_X b Ln xs x.2.2.1 x.2.2.1.heap) (hbG : b < G.2.2.2) (hLn : Ln < 2 ^ 31) {L : List Nat} {f : Nat → va_E} {w A B : Nat → Nat} {oa : Nat} {σ τ : SG} (hI : LI G L f w A B oa σ τ) {i kc kn : Nat} (hi : i + 6 ≤ Ln) (hk : kc + 6 ≤ 601024) (hn : kn + 4200 ≤ 7293034) (kk : ∀ (L' : List Nat) (f' : Nat → va_E) (w' : Nat → Nat) (σ' τ' : SG), LI G L' f' w' A B oa σ' τ' → V G room_1 7 x L' f' (kc + 6) (kn + 4200) [some (.ref b), some (.ref (A 0)), some (.ref (B 0)), some (.ref oa), some (.int (nI i)), none, none] 788 []) : V G room_1 7 x L f kc kn [some (.ref b), some (.ref (A 0)), some (.ref (B 0)), some (.ref oa), some (.int (nI i)), none, none] 153 [] := by
  obtain ⟨hS, ⟨th, hMo⟩, hR, hoL, hoW, h0, hoF⟩ := hI
  obtain ⟨c1, n1, k1, x1, o1, l1, d1⟩ := σ
  obtain ⟨mc, sa, ka, nx, ou, wl, wd, ap, fo, se, fr, by_, is, tr, my, ss, tf, tb, rfl, hG, hM⟩ := hMo.op
  have hok := hS.okG
  obtain ⟨hA0, vsA, hA0f⟩ := hS.obj
  refine v_aload_n hx d_La_law_153 rfl rfl ?_
  refine v_aload_n hx d_La_law_154 rfl rfl ?_
  refine v_iload hx d_La_law_155 rfl ?_
  refine v_iconst (v := (nI 1)) hx d_La_law_157 rfl ?_
  refine n_iadd hx d_La_law_158 ?_
  refine v_sld hx hX hbG (by omega) hLn d_La_law_159 ?_
  refine v_aload_n hx d_La_law_160 rfl rfl ?_
  refine v_iload hx d_La_law_161 rfl ?_
  refine v_iconst (v := (nI 2)) hx d_La_law_163 rfl ?_
  refine n_iadd hx d_La_law_164 ?_
  refine v_sld hx hX hbG (by omega) hLn d_La_law_165 ?_
  refine v_aload_n hx d_La_law_166 rfl rfl ?_
  refine v_iload hx d_La_law_167 rfl ?_
  refine v_iconst (v := (nI 3)) hx d_La_law_169 rfl ?_
  refine n_iadd hx d_La_law_170 ?_
  refine v_sld hx hX hbG (by omega) hLn d_La_law_171 ?_
  refine v_aload_n hx d_La_law_172 rfl rfl ?_
  refine v_iload hx d_La_law_173 rfl ?_
  refine v_iconst (v := (nI 4)) hx d_La_law_175 rfl ?_
  refine n_iadd hx d_La_law_176 ?_
  refine v_sld hx hX hbG (by omega) hLn d_La_law_177 ?_
  refine v_aload_n hx d_La_law_178 rfl rfl ?_
  refine v_iload hx d_La_law_179 rfl ?_
  refine v_iconst (v := (nI 5)) hx d_La_law_181 rfl ?_
  refine n_iadd hx d_La_law_182 ?_
  refine v_sld hx hX hbG (by omega) hLn d_La_law_183 ?_
  refine v_callV (as := [.int (xs (i + 1)), .int (xs (i + 2)), .int (xs (i + 3)), .int (xs (i + 4)), .int (xs (i + 5))]) (q := (R_MT, T_MT, 5)) hx (c_MT_arrow hS (xs (i + 1)) (xs (i + 2)) (xs (i + 3)) (xs (i + 4)) (xs (i + 5))) cy_MT_arrow k_La_38 ki_MT_arrow kl_MT_arrow d_La_law_184 (by decide) (ci := 3) rfl hA0 hA0f ⟨(by show _ ≤ 601024; omega), (by show _ ≤ 7293034; omega)⟩ rfl rfl (Nat.le_of_ble_eq_true rfl) (fun v1 L1 f1 p1 => ?_)
  obtain ⟨vi, w1, σ1, rfl, hO, hS1, hr1⟩ := p1
  have hw1o : w1 oa = 101 := (hO.2.1 oa hoL).trans hoW
  have hM1 := hM.move hO.1 hO.2.1 (fun q h1 h2 => hO.2.2 q h1 (by omega))
  refine v_aload_n hx d_La_law_187 rfl rfl ?_
  refine v_aload_n hx d_La_law_188 rfl rfl ?_
  refine v_iload hx d_La_law_189 rfl ?_
  refine v_iconst (v := (nI 1)) hx d_La_law_191 rfl ?_
  refine n_iadd hx d_La_law_192 ?_
  refine v_sld hx hX hbG (by omega) hLn d_La_law_193 ?_
  refine v_aload_n hx d_La_law_194 rfl rfl ?_
  refine v_iload hx d_La_law_195 rfl ?_
  refine v_iconst (v := (nI 2)) hx d_La_law_197 rfl ?_
  refine n_iadd hx d_La_law_198 ?_
  refine v_sld hx hX hbG (by omega) hLn d_La_law_199 ?_
  refine v_aload_n hx d_La_law_200 rfl rfl ?_
  refine v_iload hx d_La_law_201 rfl ?_
  refine v_iconst (v := (nI 3)) hx d_La_law_203 rfl ?_
  refine n_iadd hx d_La_law_204 ?_
  refine v_sld hx hX hbG (by omega) hLn d_La_law_205 ?_
  refine v_aload_n hx d_La_law_206 rfl rfl ?_
  refine v_iload hx d_La_law_207 rfl ?_
  refine v_iconst (v := (nI 4)) hx d_La_law_209 rfl ?_
  refine n_iadd hx d_La_law_210 ?_
  refine v_sld hx hX hbG (by omega) hLn d_La_law_211 ?_
  refine v_aload_n hx d_La_law_212 rfl rfl ?_
  refine v_iload hx d_La_law_213 rfl ?_
  refine v_iconst (v := (nI 5)) hx d_La_law_215 rfl ?_
  refine n_iadd hx d_La_law_216 ?_
  refine v_sld hx hX hbG (by omega) hLn d_La_law_217 ?_
  refine v_callV (as := [.int (xs (i + 1)), .int (xs (i + 2)), .int (xs (i + 3)), .int (xs (i + 4)), .int (xs (i + 5))]) (q := (R_Mo, T_Mo, 19)) hx (c_Mo_arrow hM1 hG (xs (i + 1)) (xs (i + 2)) (xs (i + 3)) (xs (i + 4)) (xs (i + 5))) cy_Mo_arrow k_La_42 ki_Mo_arrow kl_Mo_arrow d_La_law_218 (by decide) (ci := 4) rfl hM1.m0 hM1.f0 ⟨(by show _ ≤ 601024; omega), (by show _ ≤ 7293034; omega)⟩ rfl rfl (Nat.le_of_ble_eq_true rfl) (fun v2 L2 f2 p2 => ?_)
  obtain ⟨vj, th2, τ2, rfl, eL, hF2, hM2, -, hr2⟩ := p2
  subst eL
  obtain ⟨hv, hR2⟩ := det_arrow hR hr1 hr2
  refine v_icmp_eq (tgt := 788) hx d_La_law_221 (by decide) (fun c221 => ?_) (fun c221 => ?_)
  · refine v_widen (k' := kc + 6) (n' := kn + 4200) (by omega) (by omega) ?_
    exact kk _ _ _ _ _ ⟨hS1.fr (by decide) hF2, ⟨_, hM2⟩, hR2, hO.1 _ hoL, hw1o, _, (hF2 oa (by omega)).trans ((hO.2.2 oa hoL (by omega)).trans hoF)⟩
  · exact absurd hv c221
set_option maxHeartbeats 4000000 in
set_option maxRecDepth 100000 in
theorem lc_look {G : GT} {x : XT} (hx : KX G 7 x b_La_law "MachineTablesLaw") (hTX : TXb G x.2.2.1) (hoff : G.1.stackTraces = false) {b Ln : Nat} {xs : Nat → Int32} (hX : va_X b Ln xs x.2.2.1 x.2.2.1.heap) (hbG : b < G.2.2.2) (hLn : Ln < 2 ^ 31) {L : List Nat} {f : Nat → va_E} {w A B : Nat → Nat} {oa : Nat} {σ τ : SG} (hI : LI G L f w A B oa σ τ) {i kc kn : Nat} (hi : i + 6 ≤ Ln) (hk : kc + 6 ≤ 601024) (hn : kn + 4200 ≤ 7293034) (kk : ∀ (L' : List Nat) (f' : Nat → va_E) (w' : Nat → Nat) (σ' τ' : SG), LI G L' f' w' A B oa σ' τ' → V G room_1 7 x L' f' (kc + 6) (kn + 4200) [some (.ref b), some (.ref (A 0)), some (.ref (B 0)), some (.ref oa), some (.int (nI i)), none, none] 788 []) : V G room_1 7 x L f kc kn [some (.ref b), some (.ref (A 0)), some (.ref (B 0)), some (.ref oa), some (.int (nI i)), none, none] 226 [] := by
  obtain ⟨hS, ⟨th, hMo⟩, hR, hoL, hoW, h0, hoF⟩ := hI
  obtain ⟨c1, n1, k1, x1, o1, l1, d1⟩ := σ
  obtain ⟨mc, sa, ka, nx, ou, wl, wd, ap, fo, se, fr, by_, is, tr, my, ss, tf, tb, rfl, hG, hM⟩ := hMo.op
  have hok := hS.okG
  obtain ⟨hA0, vsA, hA0f⟩ := hS.obj
  refine v_aload_n hx d_La_law_226 rfl rfl ?_
  refine v_aload_n hx d_La_law_227 rfl rfl ?_
  refine v_iload hx d_La_law_228 rfl ?_
  refine v_iconst (v := (nI 1)) hx d_La_law_230 rfl ?_
  refine n_iadd hx d_La_law_231 ?_
  refine v_sld hx hX hbG (by omega) hLn d_La_law_232 ?_
  refine v_aload_n hx d_La_law_233 rfl rfl ?_
  refine v_iload hx d_La_law_234 rfl ?_
  refine v_iconst (v := (nI 2)) hx d_La_law_236 rfl ?_
  refine n_iadd hx d_La_law_237 ?_
  refine v_sld hx hX hbG (by omega) hLn d_La_law_238 ?_
  refine v_aload_n hx d_La_law_239 rfl rfl ?_
  refine v_iload hx d_La_law_240 rfl ?_
  refine v_iconst (v := (nI 3)) hx d_La_law_242 rfl ?_
  refine n_iadd hx d_La_law_243 ?_
  refine v_sld hx hX hbG (by omega) hLn d_La_law_244 ?_
  refine v_aload_n hx d_La_law_245 rfl rfl ?_
  refine v_iload hx d_La_law_246 rfl ?_
  refine v_iconst (v := (nI 4)) hx d_La_law_248 rfl ?_
  refine n_iadd hx d_La_law_249 ?_
  refine v_sld hx hX hbG (by omega) hLn d_La_law_250 ?_
  refine v_callV (as := [.int (xs (i + 1)), .int (xs (i + 2)), .int (xs (i + 3)), .int (xs (i + 4))]) (q := (R_MT, T_MT, 5)) hx (c_MT_look hS (xs (i + 1)) (xs (i + 2)) (xs (i + 3)) (xs (i + 4))) cy_MT_look k_La_43 ki_MT_look kl_MT_look d_La_law_251 (by decide) (ci := 3) rfl hA0 hA0f ⟨(by show _ ≤ 601024; omega), (by show _ ≤ 7293034; omega)⟩ rfl rfl (Nat.le_of_ble_eq_true rfl) (fun v1 L1 f1 p1 => ?_)
  obtain ⟨vi, w1, σ1, rfl, hO, hS1, hr1, rfl⟩ := p1
  have hw1o : w1 oa = 101 := (hO.2.1 oa hoL).trans hoW
  have hM1 := hM.move hO.1 hO.2.1 (fun q h1 h2 => hO.2.2 q h1 (by omega))
  refine v_aload_n hx d_La_law_254 rfl rfl ?_
  refine v_aload_n hx d_La_law_255 rfl rfl ?_
  refine v_iload hx d_La_law_256 rfl ?_
  refine v_iconst (v := (nI 1)) hx d_La_law_258 rfl ?_
  refine n_iadd hx d_La_law_259 ?_
  refine v_sld hx hX hbG (by omega) hLn d_La_law_260 ?_
  refine v_aload_n hx d_La_law_261 rfl rfl ?_
  refine v_iload hx d_La_law_262 rfl ?_
  refine v_iconst (v := (nI 2)) hx d_La_law_264 rfl ?_
  refine n_iadd hx d_La_law_265 ?_
  refine v_sld hx hX hbG (by omega) hLn d_La_law_266 ?_
  refine v_aload_n hx d_La_law_267 rfl rfl ?_
  refine v_iload hx d_La_law_268 rfl ?_
  refine v_iconst (v := (nI 3)) hx d_La_law_270 rfl ?_
  refine n_iadd hx d_La_law_271 ?_
  refine v_sld hx hX hbG (by omega) hLn d_La_law_272 ?_
  refine v_aload_n hx d_La_law_273 rfl rfl ?_
  refine v_iload hx d_La_law_274 rfl ?_
  refine v_iconst (v := (nI 4)) hx d_La_law_276 rfl ?_
  refine n_iadd hx d_La_law_277 ?_
  refine v_sld hx hX hbG (by omega) hLn d_La_law_278 ?_
  refine v_callV (as := [.int (xs (i + 1)), .int (xs (i + 2)), .int (xs (i + 3)), .int (xs (i + 4))]) (q := (R_Mo, T_Mo, 19)) hx (c_Mo_look hM1 hG (xs (i + 1)) (xs (i + 2)) (xs (i + 3)) (xs (i + 4))) cy_Mo_look k_La_47 ki_Mo_look kl_Mo_look d_La_law_279 (by decide) (ci := 4) rfl hM1.m0 hM1.f0 ⟨(by show _ ≤ 601024; omega), (by show _ ≤ 7293034; omega)⟩ rfl rfl (Nat.le_of_ble_eq_true rfl) (fun v2 L2 f2 p2 => ?_)
  obtain ⟨vj, th2, τ2, rfl, eL, hF2, hM2, -, hr2, rfl⟩ := p2
  subst eL
  have hv : vi = vj := by rw [hr1, hr2]; exact det_look hR (xs (i + 1)) (xs (i + 2)) (xs (i + 3)) (xs (i + 4))
  have hR2 := hR
  refine v_icmp_eq (tgt := 788) hx d_La_law_282 (by decide) (fun c282 => ?_) (fun c282 => ?_)
  · refine v_widen (k' := kc + 6) (n' := kn + 4200) (by omega) (by omega) ?_
    exact kk _ _ _ _ _ ⟨hS1.fr (by decide) hF2, ⟨_, hM2⟩, hR2, hO.1 _ hoL, hw1o, _, (hF2 oa (by omega)).trans ((hO.2.2 oa hoL (by omega)).trans hoF)⟩
  · exact absurd hv c282
set_option maxHeartbeats 4000000 in
set_option maxRecDepth 100000 in
theorem lc_classes {G : GT} {x : XT} (hx : KX G 7 x b_La_law "MachineTablesLaw") (hTX : TXb G x.2.2.1) (hoff : G.1.stackTraces = false) {b Ln : Nat} {xs : Nat → Int32} (hX : va_X b Ln xs x.2.2.1 x.2.2.1.heap) (hbG : b < G.2.2.2) (hLn : Ln < 2 ^ 31) {L : List Nat} {f : Nat → va_E} {w A B : Nat → Nat} {oa : Nat} {σ τ : SG} (hI : LI G L f w A B oa σ τ) {i kc kn : Nat} (hi : i + 6 ≤ Ln) (hk : kc + 6 ≤ 601024) (hn : kn + 4200 ≤ 7293034) (kk : ∀ (L' : List Nat) (f' : Nat → va_E) (w' : Nat → Nat) (σ' τ' : SG), LI G L' f' w' A B oa σ' τ' → V G room_1 7 x L' f' (kc + 6) (kn + 4200) [some (.ref b), some (.ref (A 0)), some (.ref (B 0)), some (.ref oa), some (.int (nI i)), none, none] 788 []) : V G room_1 7 x L f kc kn [some (.ref b), some (.ref (A 0)), some (.ref (B 0)), some (.ref oa), some (.int (nI i)), none, none] 287 [] := by
  obtain ⟨hS, ⟨th, hMo⟩, hR, hoL, hoW, h0, hoF⟩ := hI
  obtain ⟨c1, n1, k1, x1, o1, l1, d1⟩ := σ
  obtain ⟨mc, sa, ka, nx, ou, wl, wd, ap, fo, se, fr, by_, is, tr, my, ss, tf, tb, rfl, hG, hM⟩ := hMo.op
  have hok := hS.okG
  obtain ⟨hA0, vsA, hA0f⟩ := hS.obj
  refine v_aload_n hx d_La_law_287 rfl rfl ?_
  refine v_aload_n hx d_La_law_288 rfl rfl ?_
  refine v_iload hx d_La_law_289 rfl ?_
  refine v_iconst (v := (nI 1)) hx d_La_law_291 rfl ?_
  refine n_iadd hx d_La_law_292 ?_
  refine v_sld hx hX hbG (by omega) hLn d_La_law_293 ?_
  refine v_callV (as := [.int (xs (i + 1))]) (q := (R_MT, T_MT, 5)) hx (c_MT_classes hS (xs (i + 1))) cy_MT_classes k_La_48 ki_MT_classes kl_MT_classes d_La_law_294 (by decide) (ci := 3) rfl hA0 hA0f ⟨(by show _ ≤ 601024; omega), (by show _ ≤ 7293034; omega)⟩ rfl rfl (Nat.le_of_ble_eq_true rfl) (fun v1 L1 f1 p1 => ?_)
  obtain ⟨vi, w1, σ1, rfl, hO, hS1, hr1, rfl⟩ := p1
  have hw1o : w1 oa = 101 := (hO.2.1 oa hoL).trans hoW
  have hM1 := hM.move hO.1 hO.2.1 (fun q h1 h2 => hO.2.2 q h1 (by omega))
  refine v_aload_n hx d_La_law_297 rfl rfl ?_
  refine v_aload_n hx d_La_law_298 rfl rfl ?_
  refine v_iload hx d_La_law_299 rfl ?_
  refine v_iconst (v := (nI 1)) hx d_La_law_301 rfl ?_
  refine n_iadd hx d_La_law_302 ?_
  refine v_sld hx hX hbG (by omega) hLn d_La_law_303 ?_
  refine v_callV (as := [.int (xs (i + 1))]) (q := (R_Mo, T_Mo, 19)) hx (c_Mo_classes hM1 hG (xs (i + 1))) cy_Mo_classes k_La_51 ki_Mo_classes kl_Mo_classes d_La_law_304 (by decide) (ci := 4) rfl hM1.m0 hM1.f0 ⟨(by show _ ≤ 601024; omega), (by show _ ≤ 7293034; omega)⟩ rfl rfl (Nat.le_of_ble_eq_true rfl) (fun v2 L2 f2 p2 => ?_)
  obtain ⟨vj, th2, τ2, rfl, eL, hF2, hM2, -, hr2, rfl⟩ := p2
  subst eL
  have hv := det_classes hR hok hr1 hr2
  have hR2 := hR
  refine v_icmp_eq (tgt := 788) hx d_La_law_307 (by decide) (fun c307 => ?_) (fun c307 => ?_)
  · refine v_widen (k' := kc + 6) (n' := kn + 4200) (by omega) (by omega) ?_
    exact kk _ _ _ _ _ ⟨hS1.fr (by decide) hF2, ⟨_, hM2⟩, hR2, hO.1 _ hoL, hw1o, _, (hF2 oa (by omega)).trans ((hO.2.2 oa hoL (by omega)).trans hoF)⟩
  · exact absurd hv c307
set_option maxHeartbeats 4000000 in
set_option maxRecDepth 100000 in
theorem lc_like {G : GT} {x : XT} (hx : KX G 7 x b_La_law "MachineTablesLaw") (hTX : TXb G x.2.2.1) (hoff : G.1.stackTraces = false) {b Ln : Nat} {xs : Nat → Int32} (hX : va_X b Ln xs x.2.2.1 x.2.2.1.heap) (hbG : b < G.2.2.2) (hLn : Ln < 2 ^ 31) {L : List Nat} {f : Nat → va_E} {w A B : Nat → Nat} {oa : Nat} {σ τ : SG} (hI : LI G L f w A B oa σ τ) {i kc kn : Nat} (hi : i + 6 ≤ Ln) (hk : kc + 6 ≤ 601024) (hn : kn + 4200 ≤ 7293034) (kk : ∀ (L' : List Nat) (f' : Nat → va_E) (w' : Nat → Nat) (σ' τ' : SG), LI G L' f' w' A B oa σ' τ' → V G room_1 7 x L' f' (kc + 6) (kn + 4200) [some (.ref b), some (.ref (A 0)), some (.ref (B 0)), some (.ref oa), some (.int (nI i)), none, none] 788 []) : V G room_1 7 x L f kc kn [some (.ref b), some (.ref (A 0)), some (.ref (B 0)), some (.ref oa), some (.int (nI i)), none, none] 312 [] := by
  obtain ⟨hS, ⟨th, hMo⟩, hR, hoL, hoW, h0, hoF⟩ := hI
  obtain ⟨c1, n1, k1, x1, o1, l1, d1⟩ := σ
  obtain ⟨mc, sa, ka, nx, ou, wl, wd, ap, fo, se, fr, by_, is, tr, my, ss, tf, tb, rfl, hG, hM⟩ := hMo.op
  have hok := hS.okG
  obtain ⟨hA0, vsA, hA0f⟩ := hS.obj
  refine v_aload_n hx d_La_law_312 rfl rfl ?_
  refine v_aload_n hx d_La_law_313 rfl rfl ?_
  refine v_iload hx d_La_law_314 rfl ?_
  refine v_iconst (v := (nI 1)) hx d_La_law_316 rfl ?_
  refine n_iadd hx d_La_law_317 ?_
  refine v_sld hx hX hbG (by omega) hLn d_La_law_318 ?_
  refine v_aload_n hx d_La_law_319 rfl rfl ?_
  refine v_iload hx d_La_law_320 rfl ?_
  refine v_iconst (v := (nI 2)) hx d_La_law_322 rfl ?_
  refine n_iadd hx d_La_law_323 ?_
  refine v_sld hx hX hbG (by omega) hLn d_La_law_324 ?_
  refine v_callV (as := [.int (xs (i + 1)), .int (xs (i + 2))]) (q := (R_MT, T_MT, 5)) hx (c_MT_like hS (xs (i + 1)) (xs (i + 2))) cy_MT_like k_La_52 ki_MT_like kl_MT_like d_La_law_325 (by decide) (ci := 3) rfl hA0 hA0f ⟨(by show _ ≤ 601024; omega), (by show _ ≤ 7293034; omega)⟩ rfl rfl (Nat.le_of_ble_eq_true rfl) (fun v1 L1 f1 p1 => ?_)
  obtain ⟨vi, w1, σ1, rfl, hO, hS1, hr1, rfl⟩ := p1
  have hw1o : w1 oa = 101 := (hO.2.1 oa hoL).trans hoW
  have hM1 := hM.move hO.1 hO.2.1 (fun q h1 h2 => hO.2.2 q h1 (by omega))
  refine v_aload_n hx d_La_law_328 rfl rfl ?_
  refine v_aload_n hx d_La_law_329 rfl rfl ?_
  refine v_iload hx d_La_law_330 rfl ?_
  refine v_iconst (v := (nI 1)) hx d_La_law_332 rfl ?_
  refine n_iadd hx d_La_law_333 ?_
  refine v_sld hx hX hbG (by omega) hLn d_La_law_334 ?_
  refine v_aload_n hx d_La_law_335 rfl rfl ?_
  refine v_iload hx d_La_law_336 rfl ?_
  refine v_iconst (v := (nI 2)) hx d_La_law_338 rfl ?_
  refine n_iadd hx d_La_law_339 ?_
  refine v_sld hx hX hbG (by omega) hLn d_La_law_340 ?_
  refine v_callV (as := [.int (xs (i + 1)), .int (xs (i + 2))]) (q := (R_Mo, T_Mo, 19)) hx (c_Mo_like hM1 hG (xs (i + 1)) (xs (i + 2))) cy_Mo_like k_La_55 ki_Mo_like kl_Mo_like d_La_law_341 (by decide) (ci := 4) rfl hM1.m0 hM1.f0 ⟨(by show _ ≤ 601024; omega), (by show _ ≤ 7293034; omega)⟩ rfl rfl (Nat.le_of_ble_eq_true rfl) (fun v2 L2 f2 p2 => ?_)
  obtain ⟨vj, th2, τ2, rfl, eL, hF2, hM2, -, hr2, rfl⟩ := p2
  subst eL
  have hv := det_like hR hok hr1 hr2
  have hR2 := hR
  refine v_icmp_eq (tgt := 788) hx d_La_law_344 (by decide) (fun c344 => ?_) (fun c344 => ?_)
  · refine v_widen (k' := kc + 6) (n' := kn + 4200) (by omega) (by omega) ?_
    exact kk _ _ _ _ _ ⟨hS1.fr (by decide) hF2, ⟨_, hM2⟩, hR2, hO.1 _ hoL, hw1o, _, (hF2 oa (by omega)).trans ((hO.2.2 oa hoL (by omega)).trans hoF)⟩
  · exact absurd hv c344
set_option maxHeartbeats 4000000 in
set_option maxRecDepth 100000 in
theorem lc_least {G : GT} {x : XT} (hx : KX G 7 x b_La_law "MachineTablesLaw") (hTX : TXb G x.2.2.1) (hoff : G.1.stackTraces = false) {b Ln : Nat} {xs : Nat → Int32} (hX : va_X b Ln xs x.2.2.1 x.2.2.1.heap) (hbG : b < G.2.2.2) (hLn : Ln < 2 ^ 31) {L : List Nat} {f : Nat → va_E} {w A B : Nat → Nat} {oa : Nat} {σ τ : SG} (hI : LI G L f w A B oa σ τ) {i kc kn : Nat} (hi : i + 6 ≤ Ln) (hk : kc + 6 ≤ 601024) (hn : kn + 4200 ≤ 7293034) (kk : ∀ (L' : List Nat) (f' : Nat → va_E) (w' : Nat → Nat) (σ' τ' : SG), LI G L' f' w' A B oa σ' τ' → V G room_1 7 x L' f' (kc + 6) (kn + 4200) [some (.ref b), some (.ref (A 0)), some (.ref (B 0)), some (.ref oa), some (.int (nI i)), none, none] 788 []) : V G room_1 7 x L f kc kn [some (.ref b), some (.ref (A 0)), some (.ref (B 0)), some (.ref oa), some (.int (nI i)), none, none] 448 [] := by
  obtain ⟨hS, ⟨th, hMo⟩, hR, hoL, hoW, h0, hoF⟩ := hI
  obtain ⟨c1, n1, k1, x1, o1, l1, d1⟩ := σ
  obtain ⟨mc, sa, ka, nx, ou, wl, wd, ap, fo, se, fr, by_, is, tr, my, ss, tf, tb, rfl, hG, hM⟩ := hMo.op
  have hok := hS.okG
  obtain ⟨hA0, vsA, hA0f⟩ := hS.obj
  refine v_aload_n hx d_La_law_448 rfl rfl ?_
  refine v_aload_n hx d_La_law_449 rfl rfl ?_
  refine v_iload hx d_La_law_450 rfl ?_
  refine v_iconst (v := (nI 1)) hx d_La_law_452 rfl ?_
  refine n_iadd hx d_La_law_453 ?_
  refine v_sld hx hX hbG (by omega) hLn d_La_law_454 ?_
  refine v_callV (as := [.int (xs (i + 1))]) (q := (R_MT, T_MT, 5)) hx (c_MT_least hS (xs (i + 1))) cy_MT_least k_La_66 ki_MT_least kl_MT_least d_La_law_455 (by decide) (ci := 3) rfl hA0 hA0f ⟨(by show _ ≤ 601024; omega), (by show _ ≤ 7293034; omega)⟩ rfl rfl (Nat.le_of_ble_eq_true rfl) (fun v1 L1 f1 p1 => ?_)
  obtain ⟨vi, w1, σ1, rfl, hO, hS1, hr1⟩ := p1
  have hw1o : w1 oa = 101 := (hO.2.1 oa hoL).trans hoW
  have hM1 := hM.move hO.1 hO.2.1 (fun q h1 h2 => hO.2.2 q h1 (by omega))
  refine v_aload_n hx d_La_law_458 rfl rfl ?_
  refine v_aload_n hx d_La_law_459 rfl rfl ?_
  refine v_iload hx d_La_law_460 rfl ?_
  refine v_iconst (v := (nI 1)) hx d_La_law_462 rfl ?_
  refine n_iadd hx d_La_law_463 ?_
  refine v_sld hx hX hbG (by omega) hLn d_La_law_464 ?_
  refine v_callV (as := [.int (xs (i + 1))]) (q := (R_Mo, T_Mo, 19)) hx (c_Mo_least hM1 hG (xs (i + 1))) cy_Mo_least k_La_69 ki_Mo_least kl_Mo_least d_La_law_465 (by decide) (ci := 4) rfl hM1.m0 hM1.f0 ⟨(by show _ ≤ 601024; omega), (by show _ ≤ 7293034; omega)⟩ rfl rfl (Nat.le_of_ble_eq_true rfl) (fun v2 L2 f2 p2 => ?_)
  obtain ⟨vj, th2, τ2, rfl, eL, hF2, hM2, -, hr2⟩ := p2
  subst eL
  obtain ⟨hv, hR2⟩ := det_least hR hok hr1 hr2
  refine v_icmp_eq (tgt := 788) hx d_La_law_468 (by decide) (fun c468 => ?_) (fun c468 => ?_)
  · refine v_widen (k' := kc + 6) (n' := kn + 4200) (by omega) (by omega) ?_
    exact kk _ _ _ _ _ ⟨hS1.fr (by decide) hF2, ⟨_, hM2⟩, hR2, hO.1 _ hoL, hw1o, _, (hF2 oa (by omega)).trans ((hO.2.2 oa hoL (by omega)).trans hoF)⟩
  · exact absurd hv c468
set_option maxHeartbeats 4000000 in
set_option maxRecDepth 100000 in
theorem lc_part {G : GT} {x : XT} (hx : KX G 7 x b_La_law "MachineTablesLaw") (hTX : TXb G x.2.2.1) (hoff : G.1.stackTraces = false) {b Ln : Nat} {xs : Nat → Int32} (hX : va_X b Ln xs x.2.2.1 x.2.2.1.heap) (hbG : b < G.2.2.2) (hLn : Ln < 2 ^ 31) {L : List Nat} {f : Nat → va_E} {w A B : Nat → Nat} {oa : Nat} {σ τ : SG} (hI : LI G L f w A B oa σ τ) {i kc kn : Nat} (hi : i + 6 ≤ Ln) (hk : kc + 6 ≤ 601024) (hn : kn + 4200 ≤ 7293034) (kk : ∀ (L' : List Nat) (f' : Nat → va_E) (w' : Nat → Nat) (σ' τ' : SG), LI G L' f' w' A B oa σ' τ' → V G room_1 7 x L' f' (kc + 6) (kn + 4200) [some (.ref b), some (.ref (A 0)), some (.ref (B 0)), some (.ref oa), some (.int (nI i)), none, none] 788 []) : V G room_1 7 x L f kc kn [some (.ref b), some (.ref (A 0)), some (.ref (B 0)), some (.ref oa), some (.int (nI i)), none, none] 473 [] := by
  obtain ⟨hS, ⟨th, hMo⟩, hR, hoL, hoW, h0, hoF⟩ := hI
  obtain ⟨c1, n1, k1, x1, o1, l1, d1⟩ := σ
  obtain ⟨mc, sa, ka, nx, ou, wl, wd, ap, fo, se, fr, by_, is, tr, my, ss, tf, tb, rfl, hG, hM⟩ := hMo.op
  have hok := hS.okG
  obtain ⟨hA0, vsA, hA0f⟩ := hS.obj
  refine v_aload_n hx d_La_law_473 rfl rfl ?_
  refine v_aload_n hx d_La_law_474 rfl rfl ?_
  refine v_iload hx d_La_law_475 rfl ?_
  refine v_iconst (v := (nI 1)) hx d_La_law_477 rfl ?_
  refine n_iadd hx d_La_law_478 ?_
  refine v_sld hx hX hbG (by omega) hLn d_La_law_479 ?_
  refine v_aload_n hx d_La_law_480 rfl rfl ?_
  refine v_iload hx d_La_law_481 rfl ?_
  refine v_iconst (v := (nI 2)) hx d_La_law_483 rfl ?_
  refine n_iadd hx d_La_law_484 ?_
  refine v_sld hx hX hbG (by omega) hLn d_La_law_485 ?_
  refine v_callV (as := [.int (xs (i + 1)), .int (xs (i + 2))]) (q := (R_MT, T_MT, 5)) hx (c_MT_part hS (xs (i + 1)) (xs (i + 2))) cy_MT_part k_La_70 ki_MT_part kl_MT_part d_La_law_486 (by decide) (ci := 3) rfl hA0 hA0f ⟨(by show _ ≤ 601024; omega), (by show _ ≤ 7293034; omega)⟩ rfl rfl (Nat.le_of_ble_eq_true rfl) (fun v1 L1 f1 p1 => ?_)
  obtain ⟨vi, w1, σ1, rfl, hO, hS1, hr1, rfl⟩ := p1
  have hw1o : w1 oa = 101 := (hO.2.1 oa hoL).trans hoW
  have hM1 := hM.move hO.1 hO.2.1 (fun q h1 h2 => hO.2.2 q h1 (by omega))
  refine v_aload_n hx d_La_law_489 rfl rfl ?_
  refine v_aload_n hx d_La_law_490 rfl rfl ?_
  refine v_iload hx d_La_law_491 rfl ?_
  refine v_iconst (v := (nI 1)) hx d_La_law_493 rfl ?_
  refine n_iadd hx d_La_law_494 ?_
  refine v_sld hx hX hbG (by omega) hLn d_La_law_495 ?_
  refine v_aload_n hx d_La_law_496 rfl rfl ?_
  refine v_iload hx d_La_law_497 rfl ?_
  refine v_iconst (v := (nI 2)) hx d_La_law_499 rfl ?_
  refine n_iadd hx d_La_law_500 ?_
  refine v_sld hx hX hbG (by omega) hLn d_La_law_501 ?_
  refine v_callV (as := [.int (xs (i + 1)), .int (xs (i + 2))]) (q := (R_Mo, T_Mo, 19)) hx (c_Mo_part hM1 hG (xs (i + 1)) (xs (i + 2))) cy_Mo_part k_La_73 ki_Mo_part kl_Mo_part d_La_law_502 (by decide) (ci := 4) rfl hM1.m0 hM1.f0 ⟨(by show _ ≤ 601024; omega), (by show _ ≤ 7293034; omega)⟩ rfl rfl (Nat.le_of_ble_eq_true rfl) (fun v2 L2 f2 p2 => ?_)
  obtain ⟨vj, th2, τ2, rfl, eL, hF2, hM2, -, hr2, rfl⟩ := p2
  subst eL
  have hv := det_part hR hok hr1 hr2
  have hR2 := hR
  refine v_icmp_eq (tgt := 788) hx d_La_law_505 (by decide) (fun c505 => ?_) (fun c505 => ?_)
  · refine v_widen (k' := kc + 6) (n' := kn + 4200) (by omega) (by omega) ?_
    exact kk _ _ _ _ _ ⟨hS1.fr (by decide) hF2, ⟨_, hM2⟩, hR2, hO.1 _ hoL, hw1o, _, (hF2 oa (by omega)).trans ((hO.2.2 oa hoL (by omega)).trans hoF)⟩
  · exact absurd hv c505
set_option maxHeartbeats 4000000 in
set_option maxRecDepth 100000 in
theorem lc_reset {G : GT} {x : XT} (hx : KX G 7 x b_La_law "MachineTablesLaw") (hTX : TXb G x.2.2.1) (hoff : G.1.stackTraces = false) {b Ln : Nat} {xs : Nat → Int32} (hX : va_X b Ln xs x.2.2.1 x.2.2.1.heap) (hbG : b < G.2.2.2) (hLn : Ln < 2 ^ 31) {L : List Nat} {f : Nat → va_E} {w A B : Nat → Nat} {oa : Nat} {σ τ : SG} (hI : LI G L f w A B oa σ τ) {i kc kn : Nat} (hi : i + 6 ≤ Ln) (hk : kc + 6 ≤ 601024) (hn : kn + 4200 ≤ 7293034) (kk : ∀ (L' : List Nat) (f' : Nat → va_E) (w' : Nat → Nat) (σ' τ' : SG), LI G L' f' w' A B oa σ' τ' → V G room_1 7 x L' f' (kc + 6) (kn + 4200) [some (.ref b), some (.ref (A 0)), some (.ref (B 0)), some (.ref oa), some (.int (nI i)), none, none] 788 []) : V G room_1 7 x L f kc kn [some (.ref b), some (.ref (A 0)), some (.ref (B 0)), some (.ref oa), some (.int (nI i)), none, none] 510 [] := by
  obtain ⟨hS, ⟨th, hMo⟩, hR, hoL, hoW, h0, hoF⟩ := hI
  obtain ⟨c1, n1, k1, x1, o1, l1, d1⟩ := σ
  obtain ⟨mc, sa, ka, nx, ou, wl, wd, ap, fo, se, fr, by_, is, tr, my, ss, tf, tb, rfl, hG, hM⟩ := hMo.op
  have hok := hS.okG
  obtain ⟨hA0, vsA, hA0f⟩ := hS.obj
  refine v_aload_n hx d_La_law_510 rfl rfl ?_
  refine v_aload_n hx d_La_law_511 rfl rfl ?_
  refine v_iload hx d_La_law_512 rfl ?_
  refine v_iconst (v := (nI 1)) hx d_La_law_514 rfl ?_
  refine n_iadd hx d_La_law_515 ?_
  refine v_sld hx hX hbG (by omega) hLn d_La_law_516 ?_
  refine v_callV (as := [.int (xs (i + 1))]) (q := (R_MT, T_MT, 5)) hx (c_MT_reset hS (xs (i + 1))) cy_MT_reset k_La_74 ki_MT_reset kl_MT_reset d_La_law_517 (by decide) (ci := 3) rfl hA0 hA0f ⟨(by show _ ≤ 601024; omega), (by show _ ≤ 7293034; omega)⟩ rfl rfl (Nat.le_of_ble_eq_true rfl) (fun v1 L1 f1 p1 => ?_)
  obtain ⟨vi, w1, σ1, rfl, hO, hS1, hr1⟩ := p1
  have hw1o : w1 oa = 101 := (hO.2.1 oa hoL).trans hoW
  have hM1 := hM.move hO.1 hO.2.1 (fun q h1 h2 => hO.2.2 q h1 (by omega))
  refine v_aload_n hx d_La_law_520 rfl rfl ?_
  refine v_aload_n hx d_La_law_521 rfl rfl ?_
  refine v_iload hx d_La_law_522 rfl ?_
  refine v_iconst (v := (nI 1)) hx d_La_law_524 rfl ?_
  refine n_iadd hx d_La_law_525 ?_
  refine v_sld hx hX hbG (by omega) hLn d_La_law_526 ?_
  refine v_callV (as := [.int (xs (i + 1))]) (q := (R_Mo, T_Mo, 19)) hx (c_Mo_reset hM1 hG (xs (i + 1))) cy_Mo_reset k_La_77 ki_Mo_reset kl_Mo_reset d_La_law_527 (by decide) (ci := 4) rfl hM1.m0 hM1.f0 ⟨(by show _ ≤ 601024; omega), (by show _ ≤ 7293034; omega)⟩ rfl rfl (Nat.le_of_ble_eq_true rfl) (fun v2 L2 f2 p2 => ?_)
  obtain ⟨vj, th2, τ2, rfl, eL, hF2, hM2, -, hr2⟩ := p2
  subst eL
  obtain ⟨hv, hR2⟩ := det_reset hR hok hr1 hr2
  refine v_icmp_eq (tgt := 788) hx d_La_law_530 (by decide) (fun c530 => ?_) (fun c530 => ?_)
  · refine v_widen (k' := kc + 6) (n' := kn + 4200) (by omega) (by omega) ?_
    exact kk _ _ _ _ _ ⟨hS1.fr (by decide) hF2, ⟨_, hM2⟩, hR2, hO.1 _ hoL, hw1o, _, (hF2 oa (by omega)).trans ((hO.2.2 oa hoL (by omega)).trans hoF)⟩
  · exact absurd hv c530
set_option maxHeartbeats 4000000 in
set_option maxRecDepth 100000 in
theorem lc_along {G : GT} {x : XT} (hx : KX G 7 x b_La_law "MachineTablesLaw") (hTX : TXb G x.2.2.1) (hoff : G.1.stackTraces = false) {b Ln : Nat} {xs : Nat → Int32} (hX : va_X b Ln xs x.2.2.1 x.2.2.1.heap) (hbG : b < G.2.2.2) (hLn : Ln < 2 ^ 31) {L : List Nat} {f : Nat → va_E} {w A B : Nat → Nat} {oa : Nat} {σ τ : SG} (hI : LI G L f w A B oa σ τ) {i kc kn : Nat} (hi : i + 6 ≤ Ln) (hk : kc + 6 ≤ 601024) (hn : kn + 4200 ≤ 7293034) (kk : ∀ (L' : List Nat) (f' : Nat → va_E) (w' : Nat → Nat) (σ' τ' : SG), LI G L' f' w' A B oa σ' τ' → V G room_1 7 x L' f' (kc + 6) (kn + 4200) [some (.ref b), some (.ref (A 0)), some (.ref (B 0)), some (.ref oa), some (.int (nI i)), none, none] 788 []) : V G room_1 7 x L f kc kn [some (.ref b), some (.ref (A 0)), some (.ref (B 0)), some (.ref oa), some (.int (nI i)), none, none] 715 [] := by
  obtain ⟨hS, ⟨th, hMo⟩, hR, hoL, hoW, h0, hoF⟩ := hI
  obtain ⟨c1, n1, k1, x1, o1, l1, d1⟩ := σ
  obtain ⟨mc, sa, ka, nx, ou, wl, wd, ap, fo, se, fr, by_, is, tr, my, ss, tf, tb, rfl, hG, hM⟩ := hMo.op
  have hok := hS.okG
  obtain ⟨hA0, vsA, hA0f⟩ := hS.obj
  refine v_aload_n hx d_La_law_715 rfl rfl ?_
  refine v_aload_n hx d_La_law_716 rfl rfl ?_
  refine v_iload hx d_La_law_717 rfl ?_
  refine v_iconst (v := (nI 1)) hx d_La_law_719 rfl ?_
  refine n_iadd hx d_La_law_720 ?_
  refine v_sld hx hX hbG (by omega) hLn d_La_law_721 ?_
  refine v_aload_n hx d_La_law_722 rfl rfl ?_
  refine v_iload hx d_La_law_723 rfl ?_
  refine v_iconst (v := (nI 2)) hx d_La_law_725 rfl ?_
  refine n_iadd hx d_La_law_726 ?_
  refine v_sld hx hX hbG (by omega) hLn d_La_law_727 ?_
  refine v_callV (as := [.int (xs (i + 1)), .int (xs (i + 2))]) (q := (R_MT, T_MT, 5)) hx (c_MT_along hS (xs (i + 1)) (xs (i + 2))) cy_MT_along k_La_89 ki_MT_along kl_MT_along d_La_law_728 (by decide) (ci := 3) rfl hA0 hA0f ⟨(by show _ ≤ 601024; omega), (by show _ ≤ 7293034; omega)⟩ rfl rfl (Nat.le_of_ble_eq_true rfl) (fun v1 L1 f1 p1 => ?_)
  obtain ⟨vi, w1, σ1, rfl, hO, hS1, hr1, rfl⟩ := p1
  have hw1o : w1 oa = 101 := (hO.2.1 oa hoL).trans hoW
  have hM1 := hM.move hO.1 hO.2.1 (fun q h1 h2 => hO.2.2 q h1 (by omega))
  refine v_aload_n hx d_La_law_731 rfl rfl ?_
  refine v_aload_n hx d_La_law_732 rfl rfl ?_
  refine v_iload hx d_La_law_733 rfl ?_
  refine v_iconst (v := (nI 1)) hx d_La_law_735 rfl ?_
  refine n_iadd hx d_La_law_736 ?_
  refine v_sld hx hX hbG (by omega) hLn d_La_law_737 ?_
  refine v_aload_n hx d_La_law_738 rfl rfl ?_
  refine v_iload hx d_La_law_739 rfl ?_
  refine v_iconst (v := (nI 2)) hx d_La_law_741 rfl ?_
  refine n_iadd hx d_La_law_742 ?_
  refine v_sld hx hX hbG (by omega) hLn d_La_law_743 ?_
  refine v_callV (as := [.int (xs (i + 1)), .int (xs (i + 2))]) (q := (R_Mo, T_Mo, 19)) hx (c_Mo_along hM1 hG (xs (i + 1)) (xs (i + 2))) cy_Mo_along k_La_92 ki_Mo_along kl_Mo_along d_La_law_744 (by decide) (ci := 4) rfl hM1.m0 hM1.f0 ⟨(by show _ ≤ 601024; omega), (by show _ ≤ 7293034; omega)⟩ rfl rfl (Nat.le_of_ble_eq_true rfl) (fun v2 L2 f2 p2 => ?_)
  obtain ⟨vj, th2, τ2, rfl, eL, hF2, hM2, -, hr2, rfl⟩ := p2
  subst eL
  have hv : vi = vj := by rw [hr1, hr2]; exact det_along hR hok (xs (i + 1)) (xs (i + 2))
  have hR2 := hR
  refine v_icmp_eq (tgt := 788) hx d_La_law_747 (by decide) (fun c747 => ?_) (fun c747 => ?_)
  · refine v_widen (k' := kc + 6) (n' := kn + 4200) (by omega) (by omega) ?_
    exact kk _ _ _ _ _ ⟨hS1.fr (by decide) hF2, ⟨_, hM2⟩, hR2, hO.1 _ hoL, hw1o, _, (hF2 oa (by omega)).trans ((hO.2.2 oa hoL (by omega)).trans hoF)⟩
  · exact absurd hv c747
set_option maxHeartbeats 4000000 in
set_option maxRecDepth 100000 in
theorem lc_total {G : GT} {x : XT} (hx : KX G 7 x b_La_law "MachineTablesLaw") (hTX : TXb G x.2.2.1) (hoff : G.1.stackTraces = false) {b Ln : Nat} {xs : Nat → Int32} (hX : va_X b Ln xs x.2.2.1 x.2.2.1.heap) (hbG : b < G.2.2.2) (hLn : Ln < 2 ^ 31) {L : List Nat} {f : Nat → va_E} {w A B : Nat → Nat} {oa : Nat} {σ τ : SG} (hI : LI G L f w A B oa σ τ) {i kc kn : Nat} (hi : i + 6 ≤ Ln) (hk : kc + 6 ≤ 601024) (hn : kn + 4200 ≤ 7293034) (kk : ∀ (L' : List Nat) (f' : Nat → va_E) (w' : Nat → Nat) (σ' τ' : SG), LI G L' f' w' A B oa σ' τ' → V G room_1 7 x L' f' (kc + 6) (kn + 4200) [some (.ref b), some (.ref (A 0)), some (.ref (B 0)), some (.ref oa), some (.int (nI i)), none, none] 788 []) : V G room_1 7 x L f kc kn [some (.ref b), some (.ref (A 0)), some (.ref (B 0)), some (.ref oa), some (.int (nI i)), none, none] 763 [] := by
  obtain ⟨hS, ⟨th, hMo⟩, hR, hoL, hoW, h0, hoF⟩ := hI
  obtain ⟨c1, n1, k1, x1, o1, l1, d1⟩ := σ
  obtain ⟨mc, sa, ka, nx, ou, wl, wd, ap, fo, se, fr, by_, is, tr, my, ss, tf, tb, rfl, hG, hM⟩ := hMo.op
  have hok := hS.okG
  obtain ⟨hA0, vsA, hA0f⟩ := hS.obj
  refine v_aload_n hx d_La_law_763 rfl rfl ?_
  refine v_aload_n hx d_La_law_764 rfl rfl ?_
  refine v_iload hx d_La_law_765 rfl ?_
  refine v_iconst (v := (nI 1)) hx d_La_law_767 rfl ?_
  refine n_iadd hx d_La_law_768 ?_
  refine v_sld hx hX hbG (by omega) hLn d_La_law_769 ?_
  refine v_callV (as := [.int (xs (i + 1))]) (q := (R_MT, T_MT, 5)) hx (c_MT_total hS (xs (i + 1))) cy_MT_total k_La_97 ki_MT_total kl_MT_total d_La_law_770 (by decide) (ci := 3) rfl hA0 hA0f ⟨(by show _ ≤ 601024; omega), (by show _ ≤ 7293034; omega)⟩ rfl rfl (Nat.le_of_ble_eq_true rfl) (fun v1 L1 f1 p1 => ?_)
  obtain ⟨vi, w1, σ1, rfl, hO, hS1, hr1, rfl⟩ := p1
  have hw1o : w1 oa = 101 := (hO.2.1 oa hoL).trans hoW
  have hM1 := hM.move hO.1 hO.2.1 (fun q h1 h2 => hO.2.2 q h1 (by omega))
  refine v_aload_n hx d_La_law_773 rfl rfl ?_
  refine v_aload_n hx d_La_law_774 rfl rfl ?_
  refine v_iload hx d_La_law_775 rfl ?_
  refine v_iconst (v := (nI 1)) hx d_La_law_777 rfl ?_
  refine n_iadd hx d_La_law_778 ?_
  refine v_sld hx hX hbG (by omega) hLn d_La_law_779 ?_
  refine v_callV (as := [.int (xs (i + 1))]) (q := (R_Mo, T_Mo, 19)) hx (c_Mo_total hM1 hG (xs (i + 1))) cy_Mo_total k_La_100 ki_Mo_total kl_Mo_total d_La_law_780 (by decide) (ci := 4) rfl hM1.m0 hM1.f0 ⟨(by show _ ≤ 601024; omega), (by show _ ≤ 7293034; omega)⟩ rfl rfl (Nat.le_of_ble_eq_true rfl) (fun v2 L2 f2 p2 => ?_)
  obtain ⟨vj, th2, τ2, rfl, eL, hF2, hM2, -, hr2, rfl⟩ := p2
  subst eL
  have hv : vi = vj := by rw [hr1, hr2]; exact det_total hR (xs (i + 1))
  have hR2 := hR
  refine v_icmp_eq (tgt := 788) hx d_La_law_783 (by decide) (fun c783 => ?_) (fun c783 => ?_)
  · refine v_widen (k' := kc + 6) (n' := kn + 4200) (by omega) (by omega) ?_
    exact kk _ _ _ _ _ ⟨hS1.fr (by decide) hF2, ⟨_, hM2⟩, hR2, hO.1 _ hoL, hw1o, _, (hF2 oa (by omega)).trans ((hO.2.2 oa hoL (by omega)).trans hoF)⟩
  · exact absurd hv c783
set_option maxHeartbeats 4000000 in
set_option maxRecDepth 100000 in
theorem lc_clear {G : GT} {x : XT} (hx : KX G 7 x b_La_law "MachineTablesLaw") (hTX : TXb G x.2.2.1) (hoff : G.1.stackTraces = false) {b Ln : Nat} {xs : Nat → Int32} (hX : va_X b Ln xs x.2.2.1 x.2.2.1.heap) (hbG : b < G.2.2.2) (hLn : Ln < 2 ^ 31) {L : List Nat} {f : Nat → va_E} {w A B : Nat → Nat} {oa : Nat} {σ τ : SG} (hI : LI G L f w A B oa σ τ) {i kc kn : Nat} (hi : i + 6 ≤ Ln) (hk : kc + 6 ≤ 601024) (hn : kn + 4200 ≤ 7293034) (kk : ∀ (L' : List Nat) (f' : Nat → va_E) (w' : Nat → Nat) (σ' τ' : SG), LI G L' f' w' A B oa σ' τ' → V G room_1 7 x L' f' (kc + 6) (kn + 4200) [some (.ref b), some (.ref (A 0)), some (.ref (B 0)), some (.ref oa), some (.int (nI i)), none, none] 788 []) : V G room_1 7 x L f kc kn [some (.ref b), some (.ref (A 0)), some (.ref (B 0)), some (.ref oa), some (.int (nI i)), none, none] 752 [] := by
  obtain ⟨hS, ⟨th, hMo⟩, hR, hoL, hoW, h0, hoF⟩ := hI
  obtain ⟨c1, n1, k1, x1, o1, l1, d1⟩ := σ
  obtain ⟨mc, sa, ka, nx, ou, wl, wd, ap, fo, se, fr, by_, is, tr, my, ss, tf, tb, rfl, hG, hM⟩ := hMo.op
  have hok := hS.okG
  obtain ⟨hA0, vsA, hA0f⟩ := hS.obj
  refine v_aload_n hx d_La_law_752 rfl rfl ?_
  refine v_callV (as := []) (q := (R_MT, T_MT, 5)) hx (c_MT_clear hS) cy_MT_clear k_La_93 ki_MT_clear kl_MT_clear d_La_law_753 (by decide) (ci := 3) rfl hA0 hA0f ⟨(by show _ ≤ 601024; omega), (by show _ ≤ 7293034; omega)⟩ rfl rfl (Nat.le_of_ble_eq_true rfl) (fun v1 L1 f1 p1 => ?_)
  obtain ⟨rfl, w1, σ1, hO, hS1, hg1, hq1⟩ := p1
  have hw1o : w1 oa = 101 := (hO.2.1 oa hoL).trans hoW
  have hM1 := hM.move hO.1 hO.2.1 (fun q h1 h2 => hO.2.2 q h1 (by omega))
  refine v_aload_n hx d_La_law_756 rfl rfl ?_
  refine v_callV (as := []) (q := (R_Mo, T_Mo, 19)) hx (c_Mo_clear hM1 hG) cy_Mo_clear k_La_96 ki_Mo_clear kl_Mo_clear d_La_law_757 (by decide) (ci := 4) rfl hM1.m0 hM1.f0 ⟨(by show _ ≤ 601024; omega), (by show _ ≤ 7293034; omega)⟩ rfl rfl (Nat.le_of_ble_eq_true rfl) (fun v2 L2 f2 p2 => ?_)
  obtain ⟨rfl, eL, hF2, τ2, hM2, hg2, hq2⟩ := p2
  subst eL
  have hR2 : Rel σ1 τ2 := ⟨⟨hg1.trans hg2.symm, fun j hj => by rw [hg1] at hj; exact absurd hj (Nat.not_lt_zero _)⟩, (relW.sym hq1).tr (hR.2.tr hq2)⟩
  refine v_goto (tgt := 788) hx d_La_law_760 (by decide) ?_
  refine v_widen (k' := kc + 6) (n' := kn + 4200) (by omega) (by omega) ?_
  exact kk _ _ _ _ _ ⟨hS1.fr (by decide) hF2, ⟨_, hM2⟩, hR2, hO.1 _ hoL, hw1o, _, (hF2 oa (by omega)).trans ((hO.2.2 oa hoL (by omega)).trans hoF)⟩
set_option maxHeartbeats 4000000 in
set_option maxRecDepth 100000 in
theorem lc_alike {G : GT} {x : XT} (hx : KX G 7 x b_La_law "MachineTablesLaw") (hTX : TXb G x.2.2.1) (hoff : G.1.stackTraces = false) {b Ln : Nat} {xs : Nat → Int32} (hX : va_X b Ln xs x.2.2.1 x.2.2.1.heap) (hbG : b < G.2.2.2) (hLn : Ln < 2 ^ 31) {L : List Nat} {f : Nat → va_E} {w A B : Nat → Nat} {oa : Nat} {σ τ : SG} (hI : LI G L f w A B oa σ τ) {i kc kn : Nat} (hi : i + 6 ≤ Ln) (hk : kc + 6 ≤ 601024) (hn : kn + 4200 ≤ 7293034) (kk : ∀ (L' : List Nat) (f' : Nat → va_E) (w' : Nat → Nat) (σ' τ' : SG), LI G L' f' w' A B oa σ' τ' → V G room_1 7 x L' f' (kc + 6) (kn + 4200) [some (.ref b), some (.ref (A 0)), some (.ref (B 0)), some (.ref oa), some (.int (nI i)), none, none] 788 []) : V G room_1 7 x L f kc kn [some (.ref b), some (.ref (A 0)), some (.ref (B 0)), some (.ref oa), some (.int (nI i)), none, none] 349 [] := by
  obtain ⟨hS, ⟨th, hMo⟩, hR, hoL, hoW, h0, hoF⟩ := hI
  obtain ⟨c1, n1, k1, x1, o1, l1, d1⟩ := σ
  obtain ⟨mc, sa, ka, nx, ou, wl, wd, ap, fo, se, fr, by_, is, tr, my, ss, tf, tb, rfl, hG, hM⟩ := hMo.op
  have hok := hS.okG
  obtain ⟨hA0, vsA, hA0f⟩ := hS.obj
  refine v_aload_n hx d_La_law_349 rfl rfl ?_
  refine v_aload_n hx d_La_law_350 rfl rfl ?_
  refine v_iload hx d_La_law_351 rfl ?_
  refine v_iconst (v := (nI 1)) hx d_La_law_353 rfl ?_
  refine n_iadd hx d_La_law_354 ?_
  refine v_sld hx hX hbG (by omega) hLn d_La_law_355 ?_
  refine v_aload_n hx d_La_law_356 rfl rfl ?_
  refine v_iload hx d_La_law_357 rfl ?_
  refine v_iconst (v := (nI 2)) hx d_La_law_359 rfl ?_
  refine n_iadd hx d_La_law_360 ?_
  refine v_sld hx hX hbG (by omega) hLn d_La_law_361 ?_
  refine v_aload_n hx d_La_law_362 rfl rfl ?_
  refine v_iload hx d_La_law_363 rfl ?_
  refine v_iconst (v := (nI 3)) hx d_La_law_365 rfl ?_
  refine n_iadd hx d_La_law_366 ?_
  refine v_sld hx hX hbG (by omega) hLn d_La_law_367 ?_
  refine v_aload_n hx d_La_law_368 rfl rfl ?_
  refine v_iload hx d_La_law_369 rfl ?_
  refine v_iconst (v := (nI 4)) hx d_La_law_371 rfl ?_
  refine n_iadd hx d_La_law_372 ?_
  refine v_sld hx hX hbG (by omega) hLn d_La_law_373 ?_
  refine v_aload_n hx d_La_law_374 rfl rfl ?_
  refine v_callSW (np := 6) (as := [.ref (A 0), .int (xs (i + 1)), .int (xs (i + 2)), .int (xs (i + 3)), .int (xs (i + 4)), .ref oa]) hx hTX (c_La_alike hoff hS hoL hoW hoF (xs (i + 1)) (xs (i + 2)) (xs (i + 3)) (xs (i + 4))) kc_La_alike kz_La (by decide +kernel) k_La_56 ks_La_alike d_La_law_375 (by decide) ⟨(by show _ ≤ 601024; omega), (by show _ ≤ 7293034; omega)⟩ rfl rfl (Nat.le_of_ble_eq_true rfl) (fun v1 L1 f1 p1 => ?_)
  obtain ⟨vi, w1, σ1, h1, rfl, hL1, hw1, hf1, hS1, hoF1, (⟨rfl, b0, hr1, hb⟩ | ⟨rfl, hr1⟩)⟩ := p1
  · have ho1 := hL1 oa hoL
    have hw1o : w1 oa = 101 := (hw1 oa hoL).trans hoW
    have hM1 := hM.move hL1 hw1 (fun q h1 h2 => hf1 q h1 (by omega) (by intro e; rw [e] at h2; omega))
    refine v_istore (lv' := [some (.ref b), some (.ref (A 0)), some (.ref (B 0)), some (.ref oa), some (.int (nI i)), some (.int (nI 0)), none]) hx d_La_law_378 (by decide) rfl ?_
    refine v_aload_n hx d_La_law_380 rfl rfl ?_
    refine v_aload_n hx d_La_law_381 rfl rfl ?_
    refine v_iload hx d_La_law_382 rfl ?_
    refine v_iconst (v := (nI 1)) hx d_La_law_384 rfl ?_
    refine n_iadd hx d_La_law_385 ?_
    refine v_sld hx hX hbG (by omega) hLn d_La_law_386 ?_
    refine v_aload_n hx d_La_law_387 rfl rfl ?_
    refine v_iload hx d_La_law_388 rfl ?_
    refine v_iconst (v := (nI 2)) hx d_La_law_390 rfl ?_
    refine n_iadd hx d_La_law_391 ?_
    refine v_sld hx hX hbG (by omega) hLn d_La_law_392 ?_
    refine v_aload_n hx d_La_law_393 rfl rfl ?_
    refine v_iload hx d_La_law_394 rfl ?_
    refine v_iconst (v := (nI 3)) hx d_La_law_396 rfl ?_
    refine n_iadd hx d_La_law_397 ?_
    refine v_sld hx hX hbG (by omega) hLn d_La_law_398 ?_
    refine v_aload_n hx d_La_law_399 rfl rfl ?_
    refine v_iload hx d_La_law_400 rfl ?_
    refine v_iconst (v := (nI 4)) hx d_La_law_402 rfl ?_
    refine n_iadd hx d_La_law_403 ?_
    refine v_sld hx hX hbG (by omega) hLn d_La_law_404 ?_
    refine v_callV (as := [.int (xs (i + 1)), .int (xs (i + 2)), .int (xs (i + 3)), .int (xs (i + 4))]) (q := (R_Mo, T_Mo, 19)) hx (c_Mo_alike hM1 hG (xs (i + 1)) (xs (i + 2)) (xs (i + 3)) (xs (i + 4))) cy_Mo_alike k_La_61 ki_Mo_alike kl_Mo_alike d_La_law_405 (by decide) (ci := 4) rfl hM1.m0 hM1.f0 ⟨(by show _ ≤ 601024; omega), (by show _ ≤ 7293034; omega)⟩ rfl rfl (Nat.le_of_ble_eq_true rfl) (fun v2 L2 f2 p2 => ?_)
    obtain ⟨vj, th2, τ2, rfl, eL, hF2, hM2, (⟨rfl, hr2⟩ | ⟨rfl, hr2⟩)⟩ := p2
    · subst eL
      have hd := (det_alike hR hok hr1 hr2).1
      have hR2 := (det_alike hR hok hr1 hr2).2
      have hoF2 : f2 oa = aL G h1 := (hF2 oa (by omega)).trans hoF1
      obtain ⟨mc2, sa2, ka2, nx2, ou2, wl2, wd2, ap2, fo2, se2, fr2, by2, is2, tr2, my2, ss2, tf2, tb2, e2, hG2, hM3⟩ := hM2.op
      have hb2 : h1 0 = if vj = 0 then (0 : Int64) else 1 := hb.trans (by show (if b0 = 0 then (0 : Int64) else 1) = _; rw [Option.some.inj hd])
      refine v_istore (lv' := [some (.ref b), some (.ref (A 0)), some (.ref (B 0)), some (.ref oa), some (.int (nI i)), some (.int (nI 0)), some (.int vj)]) hx d_La_law_408 (by decide) rfl ?_
      refine v_aload_n hx d_La_law_410 rfl rfl ?_
      refine v_callV (as := []) (q := (R_Mo, T_Mo, 19)) hx (c_Mo_thrown hM3) cy_Mo_thrown k_La_62 ki_Mo_thrown kl_Mo_thrown d_La_law_411 (by decide) (ci := 4) rfl hM3.m0 hM3.f0 ⟨(by show _ ≤ 601024; omega), (by show _ ≤ 7293034; omega)⟩ rfl rfl (Nat.le_of_ble_eq_true rfl) (fun v3 L3 f3 p3 => ?_)
      obtain ⟨rfl, rfl, rfl⟩ := p3
      refine v_iload hx d_La_law_414 rfl ?_
      refine n_icmp_eq (tgt := 421) hx d_La_law_416 (by decide) (by omega) (by omega) (fun c416 => ?_) (fun c416 => ?_)
      · refine v_iload hx d_La_law_421 rfl ?_
        refine n_if_ne (tgt := 445) hx d_La_law_423 (by decide) (by omega) (fun c423 => ?_) (fun c423 => ?_)
        · exact absurd c423 (by omega)
        · refine v_aload_n hx d_La_law_426 rfl rfl ?_
          refine v_iconst (v := (nI 0)) hx d_La_law_427 rfl ?_
          refine v_lald hx d_La_law_428 ho1 hoF2 ?_
          refine v_iload hx d_La_law_429 rfl ?_
          refine v_if_eq (tgt := 438) hx d_La_law_431 (by decide) (fun c431 => ?_) (fun c431 => ?_)
          · refine v_lconst (v := 0) hx d_La_law_438 rfl ?_
            refine v_lcmp hx d_La_law_439 ?_
            refine v_if_eq (tgt := 445) hx d_La_law_440 (by decide) (fun c440 => ?_) (fun c440 => ?_)
            · refine v_goto (tgt := 788) hx d_La_law_445 (by decide) ?_
              refine v_widen (k' := kc + 6) (n' := kn + 4200) (by omega) (by omega) ?_
              exact v_less7 (kk _ _ _ _ _ ⟨hS1.fr (by decide) hF2, ⟨_, hM2⟩, hR2, ho1, hw1o, _, hoF2⟩)
            · exact absurd (by first | (rw [hb2]; exact lg_same _) | (rw [hb2, if_pos c431]; exact lg_same _) | (rw [hb2, if_neg c431]; exact lg_same _)) c440
          · refine v_lconst (v := 1) hx d_La_law_434 rfl ?_
            refine v_goto (tgt := 439) hx d_La_law_435 (by decide) ?_
            refine v_lcmp hx d_La_law_439 ?_
            refine v_if_eq (tgt := 445) hx d_La_law_440 (by decide) (fun c440 => ?_) (fun c440 => ?_)
            · refine v_goto (tgt := 788) hx d_La_law_445 (by decide) ?_
              refine v_widen (k' := kc + 6) (n' := kn + 4200) (by omega) (by omega) ?_
              exact v_less7 (kk _ _ _ _ _ ⟨hS1.fr (by decide) hF2, ⟨_, hM2⟩, hR2, ho1, hw1o, _, hoF2⟩)
            · exact absurd (by first | (rw [hb2]; exact lg_same _) | (rw [hb2, if_pos c431]; exact lg_same _) | (rw [hb2, if_neg c431]; exact lg_same _)) c440
      · exact absurd c416 (by omega)
    · exact absurd ((det_alike hR hok hr1 hr2).1) (by simp)
  · have ho1 := hL1 oa hoL
    have hw1o : w1 oa = 101 := (hw1 oa hoL).trans hoW
    have hM1 := hM.move hL1 hw1 (fun q h1 h2 => hf1 q h1 (by omega) (by intro e; rw [e] at h2; omega))
    refine v_istore (lv' := [some (.ref b), some (.ref (A 0)), some (.ref (B 0)), some (.ref oa), some (.int (nI i)), some (.int (nI 1)), none]) hx d_La_law_378 (by decide) rfl ?_
    refine v_aload_n hx d_La_law_380 rfl rfl ?_
    refine v_aload_n hx d_La_law_381 rfl rfl ?_
    refine v_iload hx d_La_law_382 rfl ?_
    refine v_iconst (v := (nI 1)) hx d_La_law_384 rfl ?_
    refine n_iadd hx d_La_law_385 ?_
    refine v_sld hx hX hbG (by omega) hLn d_La_law_386 ?_
    refine v_aload_n hx d_La_law_387 rfl rfl ?_
    refine v_iload hx d_La_law_388 rfl ?_
    refine v_iconst (v := (nI 2)) hx d_La_law_390 rfl ?_
    refine n_iadd hx d_La_law_391 ?_
    refine v_sld hx hX hbG (by omega) hLn d_La_law_392 ?_
    refine v_aload_n hx d_La_law_393 rfl rfl ?_
    refine v_iload hx d_La_law_394 rfl ?_
    refine v_iconst (v := (nI 3)) hx d_La_law_396 rfl ?_
    refine n_iadd hx d_La_law_397 ?_
    refine v_sld hx hX hbG (by omega) hLn d_La_law_398 ?_
    refine v_aload_n hx d_La_law_399 rfl rfl ?_
    refine v_iload hx d_La_law_400 rfl ?_
    refine v_iconst (v := (nI 4)) hx d_La_law_402 rfl ?_
    refine n_iadd hx d_La_law_403 ?_
    refine v_sld hx hX hbG (by omega) hLn d_La_law_404 ?_
    refine v_callV (as := [.int (xs (i + 1)), .int (xs (i + 2)), .int (xs (i + 3)), .int (xs (i + 4))]) (q := (R_Mo, T_Mo, 19)) hx (c_Mo_alike hM1 hG (xs (i + 1)) (xs (i + 2)) (xs (i + 3)) (xs (i + 4))) cy_Mo_alike k_La_61 ki_Mo_alike kl_Mo_alike d_La_law_405 (by decide) (ci := 4) rfl hM1.m0 hM1.f0 ⟨(by show _ ≤ 601024; omega), (by show _ ≤ 7293034; omega)⟩ rfl rfl (Nat.le_of_ble_eq_true rfl) (fun v4 L2 f2 p4 => ?_)
    obtain ⟨vj, th2, τ2, rfl, eL, hF2, hM2, (⟨rfl, hr2⟩ | ⟨rfl, hr2⟩)⟩ := p4
    · exact absurd ((det_alike hR hok hr1 hr2).1) (by simp)
    · subst eL
      have hd := (det_alike hR hok hr1 hr2).1
      have hR2 := (det_alike hR hok hr1 hr2).2
      have hoF2 : f2 oa = aL G h1 := (hF2 oa (by omega)).trans hoF1
      obtain ⟨mc2, sa2, ka2, nx2, ou2, wl2, wd2, ap2, fo2, se2, fr2, by2, is2, tr2, my2, ss2, tf2, tb2, e2, hG2, hM3⟩ := hM2.op
      refine v_istore (lv' := [some (.ref b), some (.ref (A 0)), some (.ref (B 0)), some (.ref oa), some (.int (nI i)), some (.int (nI 1)), some (.int vj)]) hx d_La_law_408 (by decide) rfl ?_
      refine v_aload_n hx d_La_law_410 rfl rfl ?_
      refine v_callV (as := []) (q := (R_Mo, T_Mo, 19)) hx (c_Mo_thrown hM3) cy_Mo_thrown k_La_62 ki_Mo_thrown kl_Mo_thrown d_La_law_411 (by decide) (ci := 4) rfl hM3.m0 hM3.f0 ⟨(by show _ ≤ 601024; omega), (by show _ ≤ 7293034; omega)⟩ rfl rfl (Nat.le_of_ble_eq_true rfl) (fun v5 L3 f3 p5 => ?_)
      obtain ⟨rfl, rfl, rfl⟩ := p5
      refine v_iload hx d_La_law_414 rfl ?_
      refine n_icmp_eq (tgt := 421) hx d_La_law_416 (by decide) (by omega) (by omega) (fun c416 => ?_) (fun c416 => ?_)
      · refine v_iload hx d_La_law_421 rfl ?_
        refine n_if_ne (tgt := 445) hx d_La_law_423 (by decide) (by omega) (fun c423 => ?_) (fun c423 => ?_)
        · refine v_goto (tgt := 788) hx d_La_law_445 (by decide) ?_
          refine v_widen (k' := kc + 6) (n' := kn + 4200) (by omega) (by omega) ?_
          exact v_less7 (kk _ _ _ _ _ ⟨hS1.fr (by decide) hF2, ⟨_, hM2⟩, hR2, ho1, hw1o, _, hoF2⟩)
        · exact absurd c423 (by omega)
      · exact absurd c416 (by omega)
set_option maxHeartbeats 4000000 in
set_option maxRecDepth 100000 in
theorem lc_home {G : GT} {x : XT} (hx : KX G 7 x b_La_law "MachineTablesLaw") (hTX : TXb G x.2.2.1) (hoff : G.1.stackTraces = false) {b Ln : Nat} {xs : Nat → Int32} (hX : va_X b Ln xs x.2.2.1 x.2.2.1.heap) (hbG : b < G.2.2.2) (hLn : Ln < 2 ^ 31) {L : List Nat} {f : Nat → va_E} {w A B : Nat → Nat} {oa : Nat} {σ τ : SG} (hI : LI G L f w A B oa σ τ) {i kc kn : Nat} (hi : i + 6 ≤ Ln) (hk : kc + 6 ≤ 601024) (hn : kn + 4200 ≤ 7293034) (kk : ∀ (L' : List Nat) (f' : Nat → va_E) (w' : Nat → Nat) (σ' τ' : SG), LI G L' f' w' A B oa σ' τ' → V G room_1 7 x L' f' (kc + 6) (kn + 4200) [some (.ref b), some (.ref (A 0)), some (.ref (B 0)), some (.ref oa), some (.int (nI i)), none, none] 788 []) : V G room_1 7 x L f kc kn [some (.ref b), some (.ref (A 0)), some (.ref (B 0)), some (.ref oa), some (.int (nI i)), none, none] 535 [] := by
  obtain ⟨hS, ⟨th, hMo⟩, hR, hoL, hoW, h0, hoF⟩ := hI
  obtain ⟨c1, n1, k1, x1, o1, l1, d1⟩ := σ
  obtain ⟨mc, sa, ka, nx, ou, wl, wd, ap, fo, se, fr, by_, is, tr, my, ss, tf, tb, rfl, hG, hM⟩ := hMo.op
  have hok := hS.okG
  obtain ⟨hA0, vsA, hA0f⟩ := hS.obj
  refine v_aload_n hx d_La_law_535 rfl rfl ?_
  refine v_aload_n hx d_La_law_536 rfl rfl ?_
  refine v_iload hx d_La_law_537 rfl ?_
  refine v_iconst (v := (nI 1)) hx d_La_law_539 rfl ?_
  refine n_iadd hx d_La_law_540 ?_
  refine v_sld hx hX hbG (by omega) hLn d_La_law_541 ?_
  refine v_aload_n hx d_La_law_542 rfl rfl ?_
  refine v_callSW (np := 3) (as := [.ref (A 0), .int (xs (i + 1)), .ref oa]) hx hTX (c_La_home hoff hS hoL hoW hoF (xs (i + 1))) kc_La_home kz_La (by decide +kernel) k_La_78 ks_La_home d_La_law_543 (by decide) ⟨(by show _ ≤ 601024; omega), (by show _ ≤ 7293034; omega)⟩ rfl rfl (Nat.le_of_ble_eq_true rfl) (fun v1 L1 f1 p1 => ?_)
  obtain ⟨vi, w1, σ1, h1, rfl, hL1, hw1, hf1, hS1, hoF1, (⟨rfl, b0, hr1, hb⟩ | ⟨rfl, hr1⟩)⟩ := p1
  · have ho1 := hL1 oa hoL
    have hw1o : w1 oa = 101 := (hw1 oa hoL).trans hoW
    have hM1 := hM.move hL1 hw1 (fun q h1 h2 => hf1 q h1 (by omega) (by intro e; rw [e] at h2; omega))
    refine v_istore (lv' := [some (.ref b), some (.ref (A 0)), some (.ref (B 0)), some (.ref oa), some (.int (nI i)), some (.int (nI 0)), none]) hx d_La_law_546 (by decide) rfl ?_
    refine v_aload_n hx d_La_law_548 rfl rfl ?_
    refine v_aload_n hx d_La_law_549 rfl rfl ?_
    refine v_iload hx d_La_law_550 rfl ?_
    refine v_iconst (v := (nI 1)) hx d_La_law_552 rfl ?_
    refine n_iadd hx d_La_law_553 ?_
    refine v_sld hx hX hbG (by omega) hLn d_La_law_554 ?_
    refine v_callV (as := [.int (xs (i + 1))]) (q := (R_Mo, T_Mo, 19)) hx (c_Mo_home hM1 hG (xs (i + 1))) cy_Mo_home k_La_81 ki_Mo_home kl_Mo_home d_La_law_555 (by decide) (ci := 4) rfl hM1.m0 hM1.f0 ⟨(by show _ ≤ 601024; omega), (by show _ ≤ 7293034; omega)⟩ rfl rfl (Nat.le_of_ble_eq_true rfl) (fun v2 L2 f2 p2 => ?_)
    obtain ⟨vj, th2, τ2, rfl, eL, hF2, hM2, (⟨rfl, hr2⟩ | ⟨rfl, hr2⟩)⟩ := p2
    · subst eL
      have hd := (det_home hR hok hr1 hr2).1
      have hR2 := (det_home hR hok hr1 hr2).2
      have hoF2 : f2 oa = aL G h1 := (hF2 oa (by omega)).trans hoF1
      obtain ⟨mc2, sa2, ka2, nx2, ou2, wl2, wd2, ap2, fo2, se2, fr2, by2, is2, tr2, my2, ss2, tf2, tb2, e2, hG2, hM3⟩ := hM2.op
      have hb2 : h1 0 = Int32.toInt64 vj := hb.trans (by show Int32.toInt64 b0 = _; rw [Option.some.inj hd])
      refine v_istore (lv' := [some (.ref b), some (.ref (A 0)), some (.ref (B 0)), some (.ref oa), some (.int (nI i)), some (.int (nI 0)), some (.int vj)]) hx d_La_law_558 (by decide) rfl ?_
      refine v_aload_n hx d_La_law_560 rfl rfl ?_
      refine v_callV (as := []) (q := (R_Mo, T_Mo, 19)) hx (c_Mo_thrown hM3) cy_Mo_thrown k_La_62 ki_Mo_thrown kl_Mo_thrown d_La_law_561 (by decide) (ci := 4) rfl hM3.m0 hM3.f0 ⟨(by show _ ≤ 601024; omega), (by show _ ≤ 7293034; omega)⟩ rfl rfl (Nat.le_of_ble_eq_true rfl) (fun v3 L3 f3 p3 => ?_)
      obtain ⟨rfl, rfl, rfl⟩ := p3
      refine v_iload hx d_La_law_564 rfl ?_
      refine n_icmp_eq (tgt := 571) hx d_La_law_566 (by decide) (by omega) (by omega) (fun c566 => ?_) (fun c566 => ?_)
      · refine v_iload hx d_La_law_571 rfl ?_
        refine n_if_ne (tgt := 588) hx d_La_law_573 (by decide) (by omega) (fun c573 => ?_) (fun c573 => ?_)
        · exact absurd c573 (by omega)
        · refine v_aload_n hx d_La_law_576 rfl rfl ?_
          refine v_iconst (v := (nI 0)) hx d_La_law_577 rfl ?_
          refine v_lald hx d_La_law_578 ho1 hoF2 ?_
          refine v_iload hx d_La_law_579 rfl ?_
          refine v_i2l hx d_La_law_581 rfl ?_
          refine v_lcmp hx d_La_law_582 ?_
          refine v_if_eq (tgt := 588) hx d_La_law_583 (by decide) (fun c583 => ?_) (fun c583 => ?_)
          · refine v_goto (tgt := 788) hx d_La_law_588 (by decide) ?_
            refine v_widen (k' := kc + 6) (n' := kn + 4200) (by omega) (by omega) ?_
            exact v_less7 (kk _ _ _ _ _ ⟨hS1.fr (by decide) hF2, ⟨_, hM2⟩, hR2, ho1, hw1o, _, hoF2⟩)
          · exact absurd (by first | (rw [hb2]; exact lg_same _) | (rw [hb2, if_pos c431]; exact lg_same _) | (rw [hb2, if_neg c431]; exact lg_same _)) c583
      · exact absurd c566 (by omega)
    · exact absurd ((det_home hR hok hr1 hr2).1) (by simp)
  · have ho1 := hL1 oa hoL
    have hw1o : w1 oa = 101 := (hw1 oa hoL).trans hoW
    have hM1 := hM.move hL1 hw1 (fun q h1 h2 => hf1 q h1 (by omega) (by intro e; rw [e] at h2; omega))
    refine v_istore (lv' := [some (.ref b), some (.ref (A 0)), some (.ref (B 0)), some (.ref oa), some (.int (nI i)), some (.int (nI 1)), none]) hx d_La_law_546 (by decide) rfl ?_
    refine v_aload_n hx d_La_law_548 rfl rfl ?_
    refine v_aload_n hx d_La_law_549 rfl rfl ?_
    refine v_iload hx d_La_law_550 rfl ?_
    refine v_iconst (v := (nI 1)) hx d_La_law_552 rfl ?_
    refine n_iadd hx d_La_law_553 ?_
    refine v_sld hx hX hbG (by omega) hLn d_La_law_554 ?_
    refine v_callV (as := [.int (xs (i + 1))]) (q := (R_Mo, T_Mo, 19)) hx (c_Mo_home hM1 hG (xs (i + 1))) cy_Mo_home k_La_81 ki_Mo_home kl_Mo_home d_La_law_555 (by decide) (ci := 4) rfl hM1.m0 hM1.f0 ⟨(by show _ ≤ 601024; omega), (by show _ ≤ 7293034; omega)⟩ rfl rfl (Nat.le_of_ble_eq_true rfl) (fun v4 L2 f2 p4 => ?_)
    obtain ⟨vj, th2, τ2, rfl, eL, hF2, hM2, (⟨rfl, hr2⟩ | ⟨rfl, hr2⟩)⟩ := p4
    · exact absurd ((det_home hR hok hr1 hr2).1) (by simp)
    · subst eL
      have hd := (det_home hR hok hr1 hr2).1
      have hR2 := (det_home hR hok hr1 hr2).2
      have hoF2 : f2 oa = aL G h1 := (hF2 oa (by omega)).trans hoF1
      obtain ⟨mc2, sa2, ka2, nx2, ou2, wl2, wd2, ap2, fo2, se2, fr2, by2, is2, tr2, my2, ss2, tf2, tb2, e2, hG2, hM3⟩ := hM2.op
      refine v_istore (lv' := [some (.ref b), some (.ref (A 0)), some (.ref (B 0)), some (.ref oa), some (.int (nI i)), some (.int (nI 1)), some (.int vj)]) hx d_La_law_558 (by decide) rfl ?_
      refine v_aload_n hx d_La_law_560 rfl rfl ?_
      refine v_callV (as := []) (q := (R_Mo, T_Mo, 19)) hx (c_Mo_thrown hM3) cy_Mo_thrown k_La_62 ki_Mo_thrown kl_Mo_thrown d_La_law_561 (by decide) (ci := 4) rfl hM3.m0 hM3.f0 ⟨(by show _ ≤ 601024; omega), (by show _ ≤ 7293034; omega)⟩ rfl rfl (Nat.le_of_ble_eq_true rfl) (fun v5 L3 f3 p5 => ?_)
      obtain ⟨rfl, rfl, rfl⟩ := p5
      refine v_iload hx d_La_law_564 rfl ?_
      refine n_icmp_eq (tgt := 571) hx d_La_law_566 (by decide) (by omega) (by omega) (fun c566 => ?_) (fun c566 => ?_)
      · refine v_iload hx d_La_law_571 rfl ?_
        refine n_if_ne (tgt := 588) hx d_La_law_573 (by decide) (by omega) (fun c573 => ?_) (fun c573 => ?_)
        · refine v_goto (tgt := 788) hx d_La_law_588 (by decide) ?_
          refine v_widen (k' := kc + 6) (n' := kn + 4200) (by omega) (by omega) ?_
          exact v_less7 (kk _ _ _ _ _ ⟨hS1.fr (by decide) hF2, ⟨_, hM2⟩, hR2, ho1, hw1o, _, hoF2⟩)
        · exact absurd c573 (by omega)
      · exact absurd c566 (by omega)
set_option maxHeartbeats 4000000 in
set_option maxRecDepth 100000 in
theorem lc_chain {G : GT} {x : XT} (hx : KX G 7 x b_La_law "MachineTablesLaw") (hTX : TXb G x.2.2.1) (hoff : G.1.stackTraces = false) {b Ln : Nat} {xs : Nat → Int32} (hX : va_X b Ln xs x.2.2.1 x.2.2.1.heap) (hbG : b < G.2.2.2) (hLn : Ln < 2 ^ 31) {L : List Nat} {f : Nat → va_E} {w A B : Nat → Nat} {oa : Nat} {σ τ : SG} (hI : LI G L f w A B oa σ τ) {i kc kn : Nat} (hi : i + 6 ≤ Ln) (hk : kc + 6 ≤ 601024) (hn : kn + 4200 ≤ 7293034) (kk : ∀ (L' : List Nat) (f' : Nat → va_E) (w' : Nat → Nat) (σ' τ' : SG), LI G L' f' w' A B oa σ' τ' → V G room_1 7 x L' f' (kc + 6) (kn + 4200) [some (.ref b), some (.ref (A 0)), some (.ref (B 0)), some (.ref oa), some (.int (nI i)), none, none] 788 []) : V G room_1 7 x L f kc kn [some (.ref b), some (.ref (A 0)), some (.ref (B 0)), some (.ref oa), some (.int (nI i)), none, none] 591 [] := by
  obtain ⟨hS, ⟨th, hMo⟩, hR, hoL, hoW, h0, hoF⟩ := hI
  obtain ⟨c1, n1, k1, x1, o1, l1, d1⟩ := σ
  obtain ⟨mc, sa, ka, nx, ou, wl, wd, ap, fo, se, fr, by_, is, tr, my, ss, tf, tb, rfl, hG, hM⟩ := hMo.op
  have hok := hS.okG
  obtain ⟨hA0, vsA, hA0f⟩ := hS.obj
  refine v_aload_n hx d_La_law_591 rfl rfl ?_
  refine v_aload_n hx d_La_law_592 rfl rfl ?_
  refine v_iload hx d_La_law_593 rfl ?_
  refine v_iconst (v := (nI 1)) hx d_La_law_595 rfl ?_
  refine n_iadd hx d_La_law_596 ?_
  refine v_sld hx hX hbG (by omega) hLn d_La_law_597 ?_
  refine v_aload_n hx d_La_law_598 rfl rfl ?_
  refine v_iload hx d_La_law_599 rfl ?_
  refine v_iconst (v := (nI 2)) hx d_La_law_601 rfl ?_
  refine n_iadd hx d_La_law_602 ?_
  refine v_sld hx hX hbG (by omega) hLn d_La_law_603 ?_
  refine v_aload_n hx d_La_law_604 rfl rfl ?_
  refine v_callSW (np := 4) (as := [.ref (A 0), .int (xs (i + 1)), .int (xs (i + 2)), .ref oa]) hx hTX (c_La_chain hoff hS hoL hoW hoF (xs (i + 1)) (xs (i + 2))) kc_La_chain kz_La (by decide +kernel) k_La_82 ks_La_chain d_La_law_605 (by decide) ⟨(by show _ ≤ 601024; omega), (by show _ ≤ 7293034; omega)⟩ rfl rfl (Nat.le_of_ble_eq_true rfl) (fun v1 L1 f1 p1 => ?_)
  obtain ⟨vi, w1, σ1, h1, rfl, hL1, hw1, hf1, hS1, hoF1, (⟨rfl, b0, hr1, hb⟩ | ⟨rfl, hr1⟩)⟩ := p1
  · have ho1 := hL1 oa hoL
    have hw1o : w1 oa = 101 := (hw1 oa hoL).trans hoW
    have hM1 := hM.move hL1 hw1 (fun q h1 h2 => hf1 q h1 (by omega) (by intro e; rw [e] at h2; omega))
    refine v_istore (lv' := [some (.ref b), some (.ref (A 0)), some (.ref (B 0)), some (.ref oa), some (.int (nI i)), some (.int (nI 0)), none]) hx d_La_law_608 (by decide) rfl ?_
    refine v_aload_n hx d_La_law_610 rfl rfl ?_
    refine v_aload_n hx d_La_law_611 rfl rfl ?_
    refine v_iload hx d_La_law_612 rfl ?_
    refine v_iconst (v := (nI 1)) hx d_La_law_614 rfl ?_
    refine n_iadd hx d_La_law_615 ?_
    refine v_sld hx hX hbG (by omega) hLn d_La_law_616 ?_
    refine v_aload_n hx d_La_law_617 rfl rfl ?_
    refine v_iload hx d_La_law_618 rfl ?_
    refine v_iconst (v := (nI 2)) hx d_La_law_620 rfl ?_
    refine n_iadd hx d_La_law_621 ?_
    refine v_sld hx hX hbG (by omega) hLn d_La_law_622 ?_
    refine v_callV (as := [.int (xs (i + 1)), .int (xs (i + 2))]) (q := (R_Mo, T_Mo, 19)) hx (c_Mo_chain hM1 hG (xs (i + 1)) (xs (i + 2))) cy_Mo_chain k_La_85 ki_Mo_chain kl_Mo_chain d_La_law_623 (by decide) (ci := 4) rfl hM1.m0 hM1.f0 ⟨(by show _ ≤ 601024; omega), (by show _ ≤ 7293034; omega)⟩ rfl rfl (Nat.le_of_ble_eq_true rfl) (fun v2 L2 f2 p2 => ?_)
    obtain ⟨vj, th2, τ2, rfl, eL, hF2, hM2, (⟨rfl, hr2⟩ | ⟨rfl, hr2⟩)⟩ := p2
    · subst eL
      have hd := (det_chain hR hok hr1 hr2).1
      have hR2 := (det_chain hR hok hr1 hr2).2
      have hoF2 : f2 oa = aL G h1 := (hF2 oa (by omega)).trans hoF1
      obtain ⟨mc2, sa2, ka2, nx2, ou2, wl2, wd2, ap2, fo2, se2, fr2, by2, is2, tr2, my2, ss2, tf2, tb2, e2, hG2, hM3⟩ := hM2.op
      have hb2 : h1 0 = Int32.toInt64 vj := hb.trans (by show Int32.toInt64 b0 = _; rw [Option.some.inj hd])
      refine v_istore (lv' := [some (.ref b), some (.ref (A 0)), some (.ref (B 0)), some (.ref oa), some (.int (nI i)), some (.int (nI 0)), some (.int vj)]) hx d_La_law_626 (by decide) rfl ?_
      refine v_aload_n hx d_La_law_628 rfl rfl ?_
      refine v_callV (as := []) (q := (R_Mo, T_Mo, 19)) hx (c_Mo_thrown hM3) cy_Mo_thrown k_La_62 ki_Mo_thrown kl_Mo_thrown d_La_law_629 (by decide) (ci := 4) rfl hM3.m0 hM3.f0 ⟨(by show _ ≤ 601024; omega), (by show _ ≤ 7293034; omega)⟩ rfl rfl (Nat.le_of_ble_eq_true rfl) (fun v3 L3 f3 p3 => ?_)
      obtain ⟨rfl, rfl, rfl⟩ := p3
      refine v_iload hx d_La_law_632 rfl ?_
      refine n_icmp_eq (tgt := 639) hx d_La_law_634 (by decide) (by omega) (by omega) (fun c634 => ?_) (fun c634 => ?_)
      · refine v_iload hx d_La_law_639 rfl ?_
        refine n_if_ne (tgt := 656) hx d_La_law_641 (by decide) (by omega) (fun c641 => ?_) (fun c641 => ?_)
        · exact absurd c641 (by omega)
        · refine v_aload_n hx d_La_law_644 rfl rfl ?_
          refine v_iconst (v := (nI 0)) hx d_La_law_645 rfl ?_
          refine v_lald hx d_La_law_646 ho1 hoF2 ?_
          refine v_iload hx d_La_law_647 rfl ?_
          refine v_i2l hx d_La_law_649 rfl ?_
          refine v_lcmp hx d_La_law_650 ?_
          refine v_if_eq (tgt := 656) hx d_La_law_651 (by decide) (fun c651 => ?_) (fun c651 => ?_)
          · refine v_goto (tgt := 788) hx d_La_law_656 (by decide) ?_
            refine v_widen (k' := kc + 6) (n' := kn + 4200) (by omega) (by omega) ?_
            exact v_less7 (kk _ _ _ _ _ ⟨hS1.fr (by decide) hF2, ⟨_, hM2⟩, hR2, ho1, hw1o, _, hoF2⟩)
          · exact absurd (by first | (rw [hb2]; exact lg_same _) | (rw [hb2, if_pos c431]; exact lg_same _) | (rw [hb2, if_neg c431]; exact lg_same _)) c651
      · exact absurd c634 (by omega)
    · exact absurd ((det_chain hR hok hr1 hr2).1) (by simp)
  · have ho1 := hL1 oa hoL
    have hw1o : w1 oa = 101 := (hw1 oa hoL).trans hoW
    have hM1 := hM.move hL1 hw1 (fun q h1 h2 => hf1 q h1 (by omega) (by intro e; rw [e] at h2; omega))
    refine v_istore (lv' := [some (.ref b), some (.ref (A 0)), some (.ref (B 0)), some (.ref oa), some (.int (nI i)), some (.int (nI 1)), none]) hx d_La_law_608 (by decide) rfl ?_
    refine v_aload_n hx d_La_law_610 rfl rfl ?_
    refine v_aload_n hx d_La_law_611 rfl rfl ?_
    refine v_iload hx d_La_law_612 rfl ?_
    refine v_iconst (v := (nI 1)) hx d_La_law_614 rfl ?_
    refine n_iadd hx d_La_law_615 ?_
    refine v_sld hx hX hbG (by omega) hLn d_La_law_616 ?_
    refine v_aload_n hx d_La_law_617 rfl rfl ?_
    refine v_iload hx d_La_law_618 rfl ?_
    refine v_iconst (v := (nI 2)) hx d_La_law_620 rfl ?_
    refine n_iadd hx d_La_law_621 ?_
    refine v_sld hx hX hbG (by omega) hLn d_La_law_622 ?_
    refine v_callV (as := [.int (xs (i + 1)), .int (xs (i + 2))]) (q := (R_Mo, T_Mo, 19)) hx (c_Mo_chain hM1 hG (xs (i + 1)) (xs (i + 2))) cy_Mo_chain k_La_85 ki_Mo_chain kl_Mo_chain d_La_law_623 (by decide) (ci := 4) rfl hM1.m0 hM1.f0 ⟨(by show _ ≤ 601024; omega), (by show _ ≤ 7293034; omega)⟩ rfl rfl (Nat.le_of_ble_eq_true rfl) (fun v4 L2 f2 p4 => ?_)
    obtain ⟨vj, th2, τ2, rfl, eL, hF2, hM2, (⟨rfl, hr2⟩ | ⟨rfl, hr2⟩)⟩ := p4
    · exact absurd ((det_chain hR hok hr1 hr2).1) (by simp)
    · subst eL
      have hd := (det_chain hR hok hr1 hr2).1
      have hR2 := (det_chain hR hok hr1 hr2).2
      have hoF2 : f2 oa = aL G h1 := (hF2 oa (by omega)).trans hoF1
      obtain ⟨mc2, sa2, ka2, nx2, ou2, wl2, wd2, ap2, fo2, se2, fr2, by2, is2, tr2, my2, ss2, tf2, tb2, e2, hG2, hM3⟩ := hM2.op
      refine v_istore (lv' := [some (.ref b), some (.ref (A 0)), some (.ref (B 0)), some (.ref oa), some (.int (nI i)), some (.int (nI 1)), some (.int vj)]) hx d_La_law_626 (by decide) rfl ?_
      refine v_aload_n hx d_La_law_628 rfl rfl ?_
      refine v_callV (as := []) (q := (R_Mo, T_Mo, 19)) hx (c_Mo_thrown hM3) cy_Mo_thrown k_La_62 ki_Mo_thrown kl_Mo_thrown d_La_law_629 (by decide) (ci := 4) rfl hM3.m0 hM3.f0 ⟨(by show _ ≤ 601024; omega), (by show _ ≤ 7293034; omega)⟩ rfl rfl (Nat.le_of_ble_eq_true rfl) (fun v5 L3 f3 p5 => ?_)
      obtain ⟨rfl, rfl, rfl⟩ := p5
      refine v_iload hx d_La_law_632 rfl ?_
      refine n_icmp_eq (tgt := 639) hx d_La_law_634 (by decide) (by omega) (by omega) (fun c634 => ?_) (fun c634 => ?_)
      · refine v_iload hx d_La_law_639 rfl ?_
        refine n_if_ne (tgt := 656) hx d_La_law_641 (by decide) (by omega) (fun c641 => ?_) (fun c641 => ?_)
        · refine v_goto (tgt := 788) hx d_La_law_656 (by decide) ?_
          refine v_widen (k' := kc + 6) (n' := kn + 4200) (by omega) (by omega) ?_
          exact v_less7 (kk _ _ _ _ _ ⟨hS1.fr (by decide) hF2, ⟨_, hM2⟩, hR2, ho1, hw1o, _, hoF2⟩)
        · exact absurd c641 (by omega)
      · exact absurd c634 (by omega)
set_option maxHeartbeats 4000000 in
set_option maxRecDepth 100000 in
theorem lc_letter {G : GT} {x : XT} (hx : KX G 7 x b_La_law "MachineTablesLaw") (hTX : TXb G x.2.2.1) (hoff : G.1.stackTraces = false) {b Ln : Nat} {xs : Nat → Int32} (hX : va_X b Ln xs x.2.2.1 x.2.2.1.heap) (hbG : b < G.2.2.2) (hLn : Ln < 2 ^ 31) {L : List Nat} {f : Nat → va_E} {w A B : Nat → Nat} {oa : Nat} {σ τ : SG} (hI : LI G L f w A B oa σ τ) {i kc kn : Nat} (hi : i + 6 ≤ Ln) (hk : kc + 6 ≤ 601024) (hn : kn + 4200 ≤ 7293034) (kk : ∀ (L' : List Nat) (f' : Nat → va_E) (w' : Nat → Nat) (σ' τ' : SG), LI G L' f' w' A B oa σ' τ' → V G room_1 7 x L' f' (kc + 6) (kn + 4200) [some (.ref b), some (.ref (A 0)), some (.ref (B 0)), some (.ref oa), some (.int (nI i)), none, none] 788 []) : V G room_1 7 x L f kc kn [some (.ref b), some (.ref (A 0)), some (.ref (B 0)), some (.ref oa), some (.int (nI i)), none, none] 659 [] := by
  obtain ⟨hS, ⟨th, hMo⟩, hR, hoL, hoW, h0, hoF⟩ := hI
  obtain ⟨c1, n1, k1, x1, o1, l1, d1⟩ := σ
  obtain ⟨mc, sa, ka, nx, ou, wl, wd, ap, fo, se, fr, by_, is, tr, my, ss, tf, tb, rfl, hG, hM⟩ := hMo.op
  have hok := hS.okG
  obtain ⟨hA0, vsA, hA0f⟩ := hS.obj
  refine v_aload_n hx d_La_law_659 rfl rfl ?_
  refine v_aload_n hx d_La_law_660 rfl rfl ?_
  refine v_iload hx d_La_law_661 rfl ?_
  refine v_iconst (v := (nI 1)) hx d_La_law_663 rfl ?_
  refine n_iadd hx d_La_law_664 ?_
  refine v_sld hx hX hbG (by omega) hLn d_La_law_665 ?_
  refine v_aload_n hx d_La_law_666 rfl rfl ?_
  refine v_callSW (np := 3) (as := [.ref (A 0), .int (xs (i + 1)), .ref oa]) hx hTX (c_La_letter hoff hS hoL hoW hoF (xs (i + 1))) kc_La_letter kz_La (by decide +kernel) k_La_86 ks_La_letter d_La_law_667 (by decide) ⟨(by show _ ≤ 601024; omega), (by show _ ≤ 7293034; omega)⟩ rfl rfl (Nat.le_of_ble_eq_true rfl) (fun v1 L1 f1 p1 => ?_)
  obtain ⟨vi, w1, σ1, h1, rfl, hL1, hw1, hf1, hS1, hoF1, (⟨rfl, b0, ⟨hr1, rfl⟩, hb⟩ | ⟨rfl, hr1, rfl⟩)⟩ := p1
  · have ho1 := hL1 oa hoL
    have hw1o : w1 oa = 101 := (hw1 oa hoL).trans hoW
    have hM1 := hM.move hL1 hw1 (fun q h1 h2 => hf1 q h1 (by omega) (by intro e; rw [e] at h2; omega))
    refine v_istore (lv' := [some (.ref b), some (.ref (A 0)), some (.ref (B 0)), some (.ref oa), some (.int (nI i)), some (.int (nI 0)), none]) hx d_La_law_670 (by decide) rfl ?_
    refine v_aload_n hx d_La_law_672 rfl rfl ?_
    refine v_aload_n hx d_La_law_673 rfl rfl ?_
    refine v_iload hx d_La_law_674 rfl ?_
    refine v_iconst (v := (nI 1)) hx d_La_law_676 rfl ?_
    refine n_iadd hx d_La_law_677 ?_
    refine v_sld hx hX hbG (by omega) hLn d_La_law_678 ?_
    refine v_callV (as := [.int (xs (i + 1))]) (q := (R_Mo, T_Mo, 19)) hx (c_Mo_letter hM1 hG (xs (i + 1))) cy_Mo_letter k_La_88 ki_Mo_letter kl_Mo_letter d_La_law_679 (by decide) (ci := 4) rfl hM1.m0 hM1.f0 ⟨(by show _ ≤ 601024; omega), (by show _ ≤ 7293034; omega)⟩ rfl rfl (Nat.le_of_ble_eq_true rfl) (fun v2 L2 f2 p2 => ?_)
    obtain ⟨vj, th2, τ2, rfl, eL, hF2, hM2, (⟨rfl, hr2⟩ | ⟨rfl, hr2⟩), rfl⟩ := p2
    · subst eL
      have hd := hr1.trans ((det_letter hR (xs (i + 1))).trans hr2.symm)
      have hR2 := hR
      have hoF2 : f2 oa = aL G h1 := (hF2 oa (by omega)).trans hoF1
      obtain ⟨mc2, sa2, ka2, nx2, ou2, wl2, wd2, ap2, fo2, se2, fr2, by2, is2, tr2, my2, ss2, tf2, tb2, e2, hG2, hM3⟩ := hM2.op
      have hb2 : h1 0 = Int32.toInt64 vj := hb.trans (by show Int32.toInt64 b0 = _; rw [Option.some.inj hd])
      refine v_istore (lv' := [some (.ref b), some (.ref (A 0)), some (.ref (B 0)), some (.ref oa), some (.int (nI i)), some (.int (nI 0)), some (.int vj)]) hx d_La_law_682 (by decide) rfl ?_
      refine v_aload_n hx d_La_law_684 rfl rfl ?_
      refine v_callV (as := []) (q := (R_Mo, T_Mo, 19)) hx (c_Mo_thrown hM3) cy_Mo_thrown k_La_62 ki_Mo_thrown kl_Mo_thrown d_La_law_685 (by decide) (ci := 4) rfl hM3.m0 hM3.f0 ⟨(by show _ ≤ 601024; omega), (by show _ ≤ 7293034; omega)⟩ rfl rfl (Nat.le_of_ble_eq_true rfl) (fun v3 L3 f3 p3 => ?_)
      obtain ⟨rfl, rfl, rfl⟩ := p3
      refine v_iload hx d_La_law_688 rfl ?_
      refine n_icmp_eq (tgt := 695) hx d_La_law_690 (by decide) (by omega) (by omega) (fun c690 => ?_) (fun c690 => ?_)
      · refine v_iload hx d_La_law_695 rfl ?_
        refine n_if_ne (tgt := 712) hx d_La_law_697 (by decide) (by omega) (fun c697 => ?_) (fun c697 => ?_)
        · exact absurd c697 (by omega)
        · refine v_aload_n hx d_La_law_700 rfl rfl ?_
          refine v_iconst (v := (nI 0)) hx d_La_law_701 rfl ?_
          refine v_lald hx d_La_law_702 ho1 hoF2 ?_
          refine v_iload hx d_La_law_703 rfl ?_
          refine v_i2l hx d_La_law_705 rfl ?_
          refine v_lcmp hx d_La_law_706 ?_
          refine v_if_eq (tgt := 712) hx d_La_law_707 (by decide) (fun c707 => ?_) (fun c707 => ?_)
          · refine v_goto (tgt := 788) hx d_La_law_712 (by decide) ?_
            refine v_widen (k' := kc + 6) (n' := kn + 4200) (by omega) (by omega) ?_
            exact v_less7 (kk _ _ _ _ _ ⟨hS1.fr (by decide) hF2, ⟨_, hM2⟩, hR2, ho1, hw1o, _, hoF2⟩)
          · exact absurd (by first | (rw [hb2]; exact lg_same _) | (rw [hb2, if_pos c431]; exact lg_same _) | (rw [hb2, if_neg c431]; exact lg_same _)) c707
      · exact absurd c690 (by omega)
    · exact absurd (hr1.trans ((det_letter hR (xs (i + 1))).trans hr2.symm)) (by simp)
  · have ho1 := hL1 oa hoL
    have hw1o : w1 oa = 101 := (hw1 oa hoL).trans hoW
    have hM1 := hM.move hL1 hw1 (fun q h1 h2 => hf1 q h1 (by omega) (by intro e; rw [e] at h2; omega))
    refine v_istore (lv' := [some (.ref b), some (.ref (A 0)), some (.ref (B 0)), some (.ref oa), some (.int (nI i)), some (.int (nI 1)), none]) hx d_La_law_670 (by decide) rfl ?_
    refine v_aload_n hx d_La_law_672 rfl rfl ?_
    refine v_aload_n hx d_La_law_673 rfl rfl ?_
    refine v_iload hx d_La_law_674 rfl ?_
    refine v_iconst (v := (nI 1)) hx d_La_law_676 rfl ?_
    refine n_iadd hx d_La_law_677 ?_
    refine v_sld hx hX hbG (by omega) hLn d_La_law_678 ?_
    refine v_callV (as := [.int (xs (i + 1))]) (q := (R_Mo, T_Mo, 19)) hx (c_Mo_letter hM1 hG (xs (i + 1))) cy_Mo_letter k_La_88 ki_Mo_letter kl_Mo_letter d_La_law_679 (by decide) (ci := 4) rfl hM1.m0 hM1.f0 ⟨(by show _ ≤ 601024; omega), (by show _ ≤ 7293034; omega)⟩ rfl rfl (Nat.le_of_ble_eq_true rfl) (fun v4 L2 f2 p4 => ?_)
    obtain ⟨vj, th2, τ2, rfl, eL, hF2, hM2, (⟨rfl, hr2⟩ | ⟨rfl, hr2⟩), rfl⟩ := p4
    · exact absurd (hr1.trans ((det_letter hR (xs (i + 1))).trans hr2.symm)) (by simp)
    · subst eL
      have hd := hr1.trans ((det_letter hR (xs (i + 1))).trans hr2.symm)
      have hR2 := hR
      have hoF2 : f2 oa = aL G h1 := (hF2 oa (by omega)).trans hoF1
      obtain ⟨mc2, sa2, ka2, nx2, ou2, wl2, wd2, ap2, fo2, se2, fr2, by2, is2, tr2, my2, ss2, tf2, tb2, e2, hG2, hM3⟩ := hM2.op
      refine v_istore (lv' := [some (.ref b), some (.ref (A 0)), some (.ref (B 0)), some (.ref oa), some (.int (nI i)), some (.int (nI 1)), some (.int vj)]) hx d_La_law_682 (by decide) rfl ?_
      refine v_aload_n hx d_La_law_684 rfl rfl ?_
      refine v_callV (as := []) (q := (R_Mo, T_Mo, 19)) hx (c_Mo_thrown hM3) cy_Mo_thrown k_La_62 ki_Mo_thrown kl_Mo_thrown d_La_law_685 (by decide) (ci := 4) rfl hM3.m0 hM3.f0 ⟨(by show _ ≤ 601024; omega), (by show _ ≤ 7293034; omega)⟩ rfl rfl (Nat.le_of_ble_eq_true rfl) (fun v5 L3 f3 p5 => ?_)
      obtain ⟨rfl, rfl, rfl⟩ := p5
      refine v_iload hx d_La_law_688 rfl ?_
      refine n_icmp_eq (tgt := 695) hx d_La_law_690 (by decide) (by omega) (by omega) (fun c690 => ?_) (fun c690 => ?_)
      · refine v_iload hx d_La_law_695 rfl ?_
        refine n_if_ne (tgt := 712) hx d_La_law_697 (by decide) (by omega) (fun c697 => ?_) (fun c697 => ?_)
        · refine v_goto (tgt := 788) hx d_La_law_712 (by decide) ?_
          refine v_widen (k' := kc + 6) (n' := kn + 4200) (by omega) (by omega) ?_
          exact v_less7 (kk _ _ _ _ _ ⟨hS1.fr (by decide) hF2, ⟨_, hM2⟩, hR2, ho1, hw1o, _, hoF2⟩)
        · exact absurd c697 (by omega)
      · exact absurd c690 (by omega)
