/-! the law: a case for each call -/
theorem v_sld_n {ω : Om} {σ : Sg} {cc : ByteArray} {nL : Nat} {Ts : List Cond} {own : String} {rm : Room} {M : MM} {L : List (Option Value)} {kc ks : Nat} {Q : State → Prop} {pc : Nat} {st : List Value} (F : Fx ω σ cc nL Ts own rm) {b n : Nat} {xs : Nat → Int32} (hX : va_X b n xs σ.2.2.2.2.1 σ.2.2.2.2.1.heap) (hb : b < σ.2.2.2.2.1.heap.size) (hz : ω.2.1 = σ.2.2.2.2.1.heap.size) {i : Nat} (hi : i < n) (hn : n < 2 ^ 31) (d : decode cc pc = .ok (.iaload, 1)) (k : V ω σ M L kc ks Q (pc + 1) (.int (xs i) :: st)) : V ω σ M L kc ks Q pc (.int (nI i) :: .ref b :: st) := by
  refine v_sld F hX hb hz (vp_in_nI hi hn) d ?_
  rw [nI_clamp (Nat.lt_trans hi hn)]
  exact k
theorem LI.obj {ω : Om} {a y0 O t : Nat} {M : MM} (h : LI ω a y0 O t M) : ∃ fs, M y0 = some (.inr (5, fs)) := by
  obtain ⟨A, Y, B, P, n, k, R, Z, -, rfl, hL⟩ := h
  exact hL.2.1.obj
theorem LI.thrown {l : Launch} {ω : Om} {a y0 O t : Nat} {M : MM} (h : LI ω a y0 O t M) : Ct l ω yX5_thrown wsX5_thrown rmX5_thrown [.ref y0] M (fun v M9 => v = some (.int (nI t)) ∧ M9 = M) 0 0 := by
  obtain ⟨A, Y, B, P, n, k, R, Z, -, rfl, -, ⟨C, T, hI, h0, h10, h20, -⟩, -⟩ := h
  have := c_X5_thrown (l := l) hI
  rw [h20] at this
  exact this
theorem lg_self (x : Int64) : lg_cmp x x = 0 := by simp [lg_cmp]
set_option maxHeartbeats 4000000 in
set_option maxRecDepth 100000 in
theorem law_box {ω : Om} {σ : Sg} (F : Fx ω σ cL_law 7 wsL_law RL room_1) (hN : Nc3 σ.2.2.2.2.1) {b n a y0 O : Nat} {xs : Nat → Int32} (hX : va_X b n xs σ.2.2.2.2.1 σ.2.2.2.2.1.heap) (hb : b < σ.2.2.2.2.1.heap.size) (hz : ω.2.1 = σ.2.2.2.2.1.heap.size) (hn : n ≤ 3584) {j : Nat} (hj : 7 * j + 7 ≤ n) {M : MM} {kc ks : Nat} (hkc : kc + 5 ≤ 601024) (hks : ks + 34 ≤ 7293034) {Q : State → Prop} {w5 w6 : Option Value}
    (st : Step σ.2.1 ω a y0 O yL_box wsL_box rmL_box 5 34 yX5_box wsX5_box rmX5_box (fun x => x.toInt64) [.int (xs (7 * j + 1)), .int (xs (7 * j + 2)), .int (xs (7 * j + 3)), .int (xs (7 * j + 4)), .int (xs (7 * j + 5)), .int (xs (7 * j + 6))] M)
    (go : ∀ kk M2 w5 w6, LI ω a y0 O kk M2 → V ω σ M2 [some (.ref b), some (.ref a), some (.ref y0), some (.ref O), some (.int (nI (7 * j))), w5, w6] (kc + 5) (ks + 34) Q 1337 []) : V ω σ M [some (.ref b), some (.ref a), some (.ref y0), some (.ref O), some (.int (nI (7 * j))), w5, w6] kc ks Q 128 [] := by
  obtain ⟨PQ1, hH, hgo⟩ := st
  refine v_aload_n F dL_law_128 rfl rfl ?_
  refine v_aload_n F dL_law_129 rfl rfl ?_
  refine v_iload F dL_law_130 rfl ?_
  refine v_iconst (v := nI 1) F dL_law_132 (by decide) ?_
  refine v_iadd_n F dL_law_133 ?_
  refine v_sld_n F hX hb hz (by omega) (by omega) dL_law_134 ?_
  refine v_aload_n F dL_law_135 rfl rfl ?_
  refine v_iload F dL_law_136 rfl ?_
  refine v_iconst (v := nI 2) F dL_law_138 (by decide) ?_
  refine v_iadd_n F dL_law_139 ?_
  refine v_sld_n F hX hb hz (by omega) (by omega) dL_law_140 ?_
  refine v_aload_n F dL_law_141 rfl rfl ?_
  refine v_iload F dL_law_142 rfl ?_
  refine v_iconst (v := nI 3) F dL_law_144 (by decide) ?_
  refine v_iadd_n F dL_law_145 ?_
  refine v_sld_n F hX hb hz (by omega) (by omega) dL_law_146 ?_
  refine v_aload_n F dL_law_147 rfl rfl ?_
  refine v_iload F dL_law_148 rfl ?_
  refine v_iconst (v := nI 4) F dL_law_150 (by decide) ?_
  refine v_iadd_n F dL_law_151 ?_
  refine v_sld_n F hX hb hz (by omega) (by omega) dL_law_152 ?_
  refine v_aload_n F dL_law_153 rfl rfl ?_
  refine v_iload F dL_law_154 rfl ?_
  refine v_iconst (v := nI 5) F dL_law_156 (by decide) ?_
  refine v_iadd_n F dL_law_157 ?_
  refine v_sld_n F hX hb hz (by omega) (by omega) dL_law_158 ?_
  refine v_aload_n F dL_law_159 rfl rfl ?_
  refine v_iload F dL_law_160 rfl ?_
  refine v_bipush (v := nI 6) F dL_law_162 (by decide) ?_
  refine v_iadd_n F dL_law_164 ?_
  refine v_sld_n F hX hb hz (by omega) (by omega) dL_law_165 ?_
  refine v_aload_n F dL_law_166 rfl rfl ?_
  refine v_callSN F hN 8 [_, _, _, _, _, _, _, _] rfl rfl rfl (hH) gL_law_L_box rfl hd_L_box ⟨⟨rfl, rfl⟩, ⟨(Nat.le_of_ble_eq_true rfl), (Nat.le_of_ble_eq_true rfl)⟩, ⟨(by show kc + 5 ≤ 601024; omega), (by show ks + 34 ≤ 7293034; omega)⟩, (Nat.le_of_ble_eq_true rfl)⟩ dL_law_167 (fun v167 M167 q167 => ?_)
  obtain ⟨kk, PQ2, fs, hk4, rfl, hobj, hMo, hres⟩ := hgo _ _ q167
  refine v_istore F dL_law_170 (Nat.le_of_ble_eq_true rfl) (ok2_d rfl) ?_
  refine v_aload_n F dL_law_172 rfl rfl ?_
  refine v_aload_n F dL_law_173 rfl rfl ?_
  refine v_iload F dL_law_174 rfl ?_
  refine v_iconst (v := nI 1) F dL_law_176 (by decide) ?_
  refine v_iadd_n F dL_law_177 ?_
  refine v_sld_n F hX hb hz (by omega) (by omega) dL_law_178 ?_
  refine v_aload_n F dL_law_179 rfl rfl ?_
  refine v_iload F dL_law_180 rfl ?_
  refine v_iconst (v := nI 2) F dL_law_182 (by decide) ?_
  refine v_iadd_n F dL_law_183 ?_
  refine v_sld_n F hX hb hz (by omega) (by omega) dL_law_184 ?_
  refine v_aload_n F dL_law_185 rfl rfl ?_
  refine v_iload F dL_law_186 rfl ?_
  refine v_iconst (v := nI 3) F dL_law_188 (by decide) ?_
  refine v_iadd_n F dL_law_189 ?_
  refine v_sld_n F hX hb hz (by omega) (by omega) dL_law_190 ?_
  refine v_aload_n F dL_law_191 rfl rfl ?_
  refine v_iload F dL_law_192 rfl ?_
  refine v_iconst (v := nI 4) F dL_law_194 (by decide) ?_
  refine v_iadd_n F dL_law_195 ?_
  refine v_sld_n F hX hb hz (by omega) (by omega) dL_law_196 ?_
  refine v_aload_n F dL_law_197 rfl rfl ?_
  refine v_iload F dL_law_198 rfl ?_
  refine v_iconst (v := nI 5) F dL_law_200 (by decide) ?_
  refine v_iadd_n F dL_law_201 ?_
  refine v_sld_n F hX hb hz (by omega) (by omega) dL_law_202 ?_
  refine v_aload_n F dL_law_203 rfl rfl ?_
  refine v_iload F dL_law_204 rfl ?_
  refine v_bipush (v := nI 6) F dL_law_206 (by decide) ?_
  refine v_iadd_n F dL_law_208 ?_
  refine v_sld_n F hX hb hz (by omega) (by omega) dL_law_209 ?_
  refine v_callV F 6 [_, _, _, _, _, _] rfl rfl rfl (hMo) gL_law_X5_box rfl hd_X5_box ⟨⟨rfl, rfl⟩, ⟨(Nat.le_of_ble_eq_true rfl), (Nat.le_of_ble_eq_true rfl)⟩, ⟨(by show kc + 5 + 0 ≤ 601024; omega), (by show ks + 34 + 0 ≤ 7293034; omega)⟩, (Nat.le_of_ble_eq_true rfl)⟩ hobj rfl dL_law_210 (fun v210 M210 q210 => ?_)
  obtain ⟨x, g, rfl, hLI, hO2, hv⟩ := hres _ _ q210
  obtain ⟨fs2, hobj2⟩ := hLI.obj
  refine v_istore F dL_law_213 (Nat.le_of_ble_eq_true rfl) (ok2_d rfl) ?_
  refine v_aload_n F dL_law_215 rfl rfl ?_
  refine v_callV F 0 [] rfl rfl rfl (hLI.thrown) gL_law_X5_thrown rfl hd_X5_thrown ⟨⟨rfl, rfl⟩, ⟨(Nat.le_of_ble_eq_true rfl), (Nat.le_of_ble_eq_true rfl)⟩, ⟨(by show kc + 5 + 0 + 0 ≤ 601024; omega), (by show ks + 34 + 0 + 0 ≤ 7293034; omega)⟩, (Nat.le_of_ble_eq_true rfl)⟩ hobj2 rfl dL_law_216 (fun v216 M216 q216 => ?_)
  obtain ⟨rfl, e216⟩ := q216
  replace e216 := e216.symm
  subst e216
  refine v_iload F dL_law_219 rfl ?_
  refine v_icmp_eq_n F 226 dL_law_221 (by decide) (by omega) (by omega) (fun c221 => ?_) (fun c221 => ?_)
  · refine v_iload F dL_law_226 rfl ?_
    refine v_if_ne_n F 243 dL_law_228 (by decide) (by omega) (fun c228 => ?_) (fun c228 => ?_)
    · refine v_goto F 1337 dL_law_243 (by decide) ?_
      exact go _ _ _ _ hLI
    · have hv0 : g (nI 0).toNatClampNeg = x.toInt64 := hv c228
      refine v_aload_n F dL_law_231 rfl rfl ?_
      refine v_iconst (v := nI 0) F dL_law_232 (by decide) ?_
      refine v_lald F dL_law_233 hO2 (vp_in_nI (by decide) (by decide)) ?_
      refine v_iload F dL_law_234 rfl ?_
      refine v_i2l F dL_law_236 ?_
      rw [hv0]
      refine v_lcmp F dL_law_237 ?_
      refine v_if_eq F 243 dL_law_238 (by decide) (fun c238 => ?_) (fun c238 => ?_)
      · refine v_goto F 1337 dL_law_243 (by decide) ?_
        exact go _ _ _ _ hLI
      · exact absurd (lg_self _) c238
  · exact absurd rfl c221
set_option maxHeartbeats 4000000 in
set_option maxRecDepth 100000 in
theorem law_move {ω : Om} {σ : Sg} (F : Fx ω σ cL_law 7 wsL_law RL room_1) (hN : Nc3 σ.2.2.2.2.1) {b n a y0 O : Nat} {xs : Nat → Int32} (hX : va_X b n xs σ.2.2.2.2.1 σ.2.2.2.2.1.heap) (hb : b < σ.2.2.2.2.1.heap.size) (hz : ω.2.1 = σ.2.2.2.2.1.heap.size) (hn : n ≤ 3584) {j : Nat} (hj : 7 * j + 7 ≤ n) {M : MM} {kc ks : Nat} (hkc : kc + 3 ≤ 601024) (hks : ks + 18 ≤ 7293034) {Q : State → Prop} {w5 w6 : Option Value}
    (st : Step σ.2.1 ω a y0 O yL_move wsL_move rmL_move 3 18 yX5_move wsX5_move rmX5_move (fun x => x.toInt64) [.int (xs (7 * j + 1)), .int (xs (7 * j + 2)), .int (xs (7 * j + 3))] M)
    (go : ∀ kk M2 w5 w6, LI ω a y0 O kk M2 → V ω σ M2 [some (.ref b), some (.ref a), some (.ref y0), some (.ref O), some (.int (nI (7 * j))), w5, w6] (kc + 3) (ks + 18) Q 1337 []) : V ω σ M [some (.ref b), some (.ref a), some (.ref y0), some (.ref O), some (.int (nI (7 * j))), w5, w6] kc ks Q 246 [] := by
  obtain ⟨PQ1, hH, hgo⟩ := st
  refine v_aload_n F dL_law_246 rfl rfl ?_
  refine v_aload_n F dL_law_247 rfl rfl ?_
  refine v_iload F dL_law_248 rfl ?_
  refine v_iconst (v := nI 1) F dL_law_250 (by decide) ?_
  refine v_iadd_n F dL_law_251 ?_
  refine v_sld_n F hX hb hz (by omega) (by omega) dL_law_252 ?_
  refine v_aload_n F dL_law_253 rfl rfl ?_
  refine v_iload F dL_law_254 rfl ?_
  refine v_iconst (v := nI 2) F dL_law_256 (by decide) ?_
  refine v_iadd_n F dL_law_257 ?_
  refine v_sld_n F hX hb hz (by omega) (by omega) dL_law_258 ?_
  refine v_aload_n F dL_law_259 rfl rfl ?_
  refine v_iload F dL_law_260 rfl ?_
  refine v_iconst (v := nI 3) F dL_law_262 (by decide) ?_
  refine v_iadd_n F dL_law_263 ?_
  refine v_sld_n F hX hb hz (by omega) (by omega) dL_law_264 ?_
  refine v_aload_n F dL_law_265 rfl rfl ?_
  refine v_callSN F hN 5 [_, _, _, _, _] rfl rfl rfl (hH) gL_law_L_move rfl hd_L_move ⟨⟨rfl, rfl⟩, ⟨(Nat.le_of_ble_eq_true rfl), (Nat.le_of_ble_eq_true rfl)⟩, ⟨(by show kc + 3 ≤ 601024; omega), (by show ks + 18 ≤ 7293034; omega)⟩, (Nat.le_of_ble_eq_true rfl)⟩ dL_law_266 (fun v266 M266 q266 => ?_)
  obtain ⟨kk, PQ2, fs, hk4, rfl, hobj, hMo, hres⟩ := hgo _ _ q266
  refine v_istore F dL_law_269 (Nat.le_of_ble_eq_true rfl) (ok2_d rfl) ?_
  refine v_aload_n F dL_law_271 rfl rfl ?_
  refine v_aload_n F dL_law_272 rfl rfl ?_
  refine v_iload F dL_law_273 rfl ?_
  refine v_iconst (v := nI 1) F dL_law_275 (by decide) ?_
  refine v_iadd_n F dL_law_276 ?_
  refine v_sld_n F hX hb hz (by omega) (by omega) dL_law_277 ?_
  refine v_aload_n F dL_law_278 rfl rfl ?_
  refine v_iload F dL_law_279 rfl ?_
  refine v_iconst (v := nI 2) F dL_law_281 (by decide) ?_
  refine v_iadd_n F dL_law_282 ?_
  refine v_sld_n F hX hb hz (by omega) (by omega) dL_law_283 ?_
  refine v_aload_n F dL_law_284 rfl rfl ?_
  refine v_iload F dL_law_285 rfl ?_
  refine v_iconst (v := nI 3) F dL_law_287 (by decide) ?_
  refine v_iadd_n F dL_law_288 ?_
  refine v_sld_n F hX hb hz (by omega) (by omega) dL_law_289 ?_
  refine v_callV F 3 [_, _, _] rfl rfl rfl (hMo) gL_law_X5_move rfl hd_X5_move ⟨⟨rfl, rfl⟩, ⟨(Nat.le_of_ble_eq_true rfl), (Nat.le_of_ble_eq_true rfl)⟩, ⟨(by show kc + 3 + 0 ≤ 601024; omega), (by show ks + 18 + 0 ≤ 7293034; omega)⟩, (Nat.le_of_ble_eq_true rfl)⟩ hobj rfl dL_law_290 (fun v290 M290 q290 => ?_)
  obtain ⟨x, g, rfl, hLI, hO2, hv⟩ := hres _ _ q290
  obtain ⟨fs2, hobj2⟩ := hLI.obj
  refine v_istore F dL_law_293 (Nat.le_of_ble_eq_true rfl) (ok2_d rfl) ?_
  refine v_aload_n F dL_law_295 rfl rfl ?_
  refine v_callV F 0 [] rfl rfl rfl (hLI.thrown) gL_law_X5_thrown rfl hd_X5_thrown ⟨⟨rfl, rfl⟩, ⟨(Nat.le_of_ble_eq_true rfl), (Nat.le_of_ble_eq_true rfl)⟩, ⟨(by show kc + 3 + 0 + 0 ≤ 601024; omega), (by show ks + 18 + 0 + 0 ≤ 7293034; omega)⟩, (Nat.le_of_ble_eq_true rfl)⟩ hobj2 rfl dL_law_296 (fun v296 M296 q296 => ?_)
  obtain ⟨rfl, e296⟩ := q296
  replace e296 := e296.symm
  subst e296
  refine v_iload F dL_law_299 rfl ?_
  refine v_icmp_eq_n F 306 dL_law_301 (by decide) (by omega) (by omega) (fun c301 => ?_) (fun c301 => ?_)
  · refine v_iload F dL_law_306 rfl ?_
    refine v_if_ne_n F 323 dL_law_308 (by decide) (by omega) (fun c308 => ?_) (fun c308 => ?_)
    · refine v_goto F 1337 dL_law_323 (by decide) ?_
      exact go _ _ _ _ hLI
    · have hv0 : g (nI 0).toNatClampNeg = x.toInt64 := hv c308
      refine v_aload_n F dL_law_311 rfl rfl ?_
      refine v_iconst (v := nI 0) F dL_law_312 (by decide) ?_
      refine v_lald F dL_law_313 hO2 (vp_in_nI (by decide) (by decide)) ?_
      refine v_iload F dL_law_314 rfl ?_
      refine v_i2l F dL_law_316 ?_
      rw [hv0]
      refine v_lcmp F dL_law_317 ?_
      refine v_if_eq F 323 dL_law_318 (by decide) (fun c318 => ?_) (fun c318 => ?_)
      · refine v_goto F 1337 dL_law_323 (by decide) ?_
        exact go _ _ _ _ hLI
      · exact absurd (lg_self _) c318
  · exact absurd rfl c301
set_option maxHeartbeats 4000000 in
set_option maxRecDepth 100000 in
theorem law_resize {ω : Om} {σ : Sg} (F : Fx ω σ cL_law 7 wsL_law RL room_1) (hN : Nc3 σ.2.2.2.2.1) {b n a y0 O : Nat} {xs : Nat → Int32} (hX : va_X b n xs σ.2.2.2.2.1 σ.2.2.2.2.1.heap) (hb : b < σ.2.2.2.2.1.heap.size) (hz : ω.2.1 = σ.2.2.2.2.1.heap.size) (hn : n ≤ 3584) {j : Nat} (hj : 7 * j + 7 ≤ n) {M : MM} {kc ks : Nat} (hkc : kc + 3 ≤ 601024) (hks : ks + 18 ≤ 7293034) {Q : State → Prop} {w5 w6 : Option Value}
    (st : Step σ.2.1 ω a y0 O yL_resize wsL_resize rmL_resize 3 18 yX5_resize wsX5_resize rmX5_resize (fun x => x.toInt64) [.int (xs (7 * j + 1)), .int (xs (7 * j + 2)), .int (xs (7 * j + 3))] M)
    (go : ∀ kk M2 w5 w6, LI ω a y0 O kk M2 → V ω σ M2 [some (.ref b), some (.ref a), some (.ref y0), some (.ref O), some (.int (nI (7 * j))), w5, w6] (kc + 3) (ks + 18) Q 1337 []) : V ω σ M [some (.ref b), some (.ref a), some (.ref y0), some (.ref O), some (.int (nI (7 * j))), w5, w6] kc ks Q 326 [] := by
  obtain ⟨PQ1, hH, hgo⟩ := st
  refine v_aload_n F dL_law_326 rfl rfl ?_
  refine v_aload_n F dL_law_327 rfl rfl ?_
  refine v_iload F dL_law_328 rfl ?_
  refine v_iconst (v := nI 1) F dL_law_330 (by decide) ?_
  refine v_iadd_n F dL_law_331 ?_
  refine v_sld_n F hX hb hz (by omega) (by omega) dL_law_332 ?_
  refine v_aload_n F dL_law_333 rfl rfl ?_
  refine v_iload F dL_law_334 rfl ?_
  refine v_iconst (v := nI 2) F dL_law_336 (by decide) ?_
  refine v_iadd_n F dL_law_337 ?_
  refine v_sld_n F hX hb hz (by omega) (by omega) dL_law_338 ?_
  refine v_aload_n F dL_law_339 rfl rfl ?_
  refine v_iload F dL_law_340 rfl ?_
  refine v_iconst (v := nI 3) F dL_law_342 (by decide) ?_
  refine v_iadd_n F dL_law_343 ?_
  refine v_sld_n F hX hb hz (by omega) (by omega) dL_law_344 ?_
  refine v_aload_n F dL_law_345 rfl rfl ?_
  refine v_callSN F hN 5 [_, _, _, _, _] rfl rfl rfl (hH) gL_law_L_resize rfl hd_L_resize ⟨⟨rfl, rfl⟩, ⟨(Nat.le_of_ble_eq_true rfl), (Nat.le_of_ble_eq_true rfl)⟩, ⟨(by show kc + 3 ≤ 601024; omega), (by show ks + 18 ≤ 7293034; omega)⟩, (Nat.le_of_ble_eq_true rfl)⟩ dL_law_346 (fun v346 M346 q346 => ?_)
  obtain ⟨kk, PQ2, fs, hk4, rfl, hobj, hMo, hres⟩ := hgo _ _ q346
  refine v_istore F dL_law_349 (Nat.le_of_ble_eq_true rfl) (ok2_d rfl) ?_
  refine v_aload_n F dL_law_351 rfl rfl ?_
  refine v_aload_n F dL_law_352 rfl rfl ?_
  refine v_iload F dL_law_353 rfl ?_
  refine v_iconst (v := nI 1) F dL_law_355 (by decide) ?_
  refine v_iadd_n F dL_law_356 ?_
  refine v_sld_n F hX hb hz (by omega) (by omega) dL_law_357 ?_
  refine v_aload_n F dL_law_358 rfl rfl ?_
  refine v_iload F dL_law_359 rfl ?_
  refine v_iconst (v := nI 2) F dL_law_361 (by decide) ?_
  refine v_iadd_n F dL_law_362 ?_
  refine v_sld_n F hX hb hz (by omega) (by omega) dL_law_363 ?_
  refine v_aload_n F dL_law_364 rfl rfl ?_
  refine v_iload F dL_law_365 rfl ?_
  refine v_iconst (v := nI 3) F dL_law_367 (by decide) ?_
  refine v_iadd_n F dL_law_368 ?_
  refine v_sld_n F hX hb hz (by omega) (by omega) dL_law_369 ?_
  refine v_callV F 3 [_, _, _] rfl rfl rfl (hMo) gL_law_X5_resize rfl hd_X5_resize ⟨⟨rfl, rfl⟩, ⟨(Nat.le_of_ble_eq_true rfl), (Nat.le_of_ble_eq_true rfl)⟩, ⟨(by show kc + 3 + 0 ≤ 601024; omega), (by show ks + 18 + 0 ≤ 7293034; omega)⟩, (Nat.le_of_ble_eq_true rfl)⟩ hobj rfl dL_law_370 (fun v370 M370 q370 => ?_)
  obtain ⟨x, g, rfl, hLI, hO2, hv⟩ := hres _ _ q370
  obtain ⟨fs2, hobj2⟩ := hLI.obj
  refine v_istore F dL_law_373 (Nat.le_of_ble_eq_true rfl) (ok2_d rfl) ?_
  refine v_aload_n F dL_law_375 rfl rfl ?_
  refine v_callV F 0 [] rfl rfl rfl (hLI.thrown) gL_law_X5_thrown rfl hd_X5_thrown ⟨⟨rfl, rfl⟩, ⟨(Nat.le_of_ble_eq_true rfl), (Nat.le_of_ble_eq_true rfl)⟩, ⟨(by show kc + 3 + 0 + 0 ≤ 601024; omega), (by show ks + 18 + 0 + 0 ≤ 7293034; omega)⟩, (Nat.le_of_ble_eq_true rfl)⟩ hobj2 rfl dL_law_376 (fun v376 M376 q376 => ?_)
  obtain ⟨rfl, e376⟩ := q376
  replace e376 := e376.symm
  subst e376
  refine v_iload F dL_law_379 rfl ?_
  refine v_icmp_eq_n F 386 dL_law_381 (by decide) (by omega) (by omega) (fun c381 => ?_) (fun c381 => ?_)
  · refine v_iload F dL_law_386 rfl ?_
    refine v_if_ne_n F 403 dL_law_388 (by decide) (by omega) (fun c388 => ?_) (fun c388 => ?_)
    · refine v_goto F 1337 dL_law_403 (by decide) ?_
      exact go _ _ _ _ hLI
    · have hv0 : g (nI 0).toNatClampNeg = x.toInt64 := hv c388
      refine v_aload_n F dL_law_391 rfl rfl ?_
      refine v_iconst (v := nI 0) F dL_law_392 (by decide) ?_
      refine v_lald F dL_law_393 hO2 (vp_in_nI (by decide) (by decide)) ?_
      refine v_iload F dL_law_394 rfl ?_
      refine v_i2l F dL_law_396 ?_
      rw [hv0]
      refine v_lcmp F dL_law_397 ?_
      refine v_if_eq F 403 dL_law_398 (by decide) (fun c398 => ?_) (fun c398 => ?_)
      · refine v_goto F 1337 dL_law_403 (by decide) ?_
        exact go _ _ _ _ hLI
      · exact absurd (lg_self _) c398
  · exact absurd rfl c381
set_option maxHeartbeats 4000000 in
set_option maxRecDepth 100000 in
theorem law_remove {ω : Om} {σ : Sg} (F : Fx ω σ cL_law 7 wsL_law RL room_1) (hN : Nc3 σ.2.2.2.2.1) {b n a y0 O : Nat} {xs : Nat → Int32} (hX : va_X b n xs σ.2.2.2.2.1 σ.2.2.2.2.1.heap) (hb : b < σ.2.2.2.2.1.heap.size) (hz : ω.2.1 = σ.2.2.2.2.1.heap.size) (hn : n ≤ 3584) {j : Nat} (hj : 7 * j + 7 ≤ n) {M : MM} {kc ks : Nat} (hkc : kc + 2 ≤ 601024) (hks : ks + 12 ≤ 7293034) {Q : State → Prop} {w5 w6 : Option Value}
    (st : Step σ.2.1 ω a y0 O yL_remove wsL_remove rmL_remove 2 12 yX5_remove wsX5_remove rmX5_remove (fun x => x.toInt64) [.int (xs (7 * j + 1))] M)
    (go : ∀ kk M2 w5 w6, LI ω a y0 O kk M2 → V ω σ M2 [some (.ref b), some (.ref a), some (.ref y0), some (.ref O), some (.int (nI (7 * j))), w5, w6] (kc + 2) (ks + 12) Q 1337 []) : V ω σ M [some (.ref b), some (.ref a), some (.ref y0), some (.ref O), some (.int (nI (7 * j))), w5, w6] kc ks Q 406 [] := by
  obtain ⟨PQ1, hH, hgo⟩ := st
  refine v_aload_n F dL_law_406 rfl rfl ?_
  refine v_aload_n F dL_law_407 rfl rfl ?_
  refine v_iload F dL_law_408 rfl ?_
  refine v_iconst (v := nI 1) F dL_law_410 (by decide) ?_
  refine v_iadd_n F dL_law_411 ?_
  refine v_sld_n F hX hb hz (by omega) (by omega) dL_law_412 ?_
  refine v_aload_n F dL_law_413 rfl rfl ?_
  refine v_callSN F hN 3 [_, _, _] rfl rfl rfl (hH) gL_law_L_remove rfl hd_L_remove ⟨⟨rfl, rfl⟩, ⟨(Nat.le_of_ble_eq_true rfl), (Nat.le_of_ble_eq_true rfl)⟩, ⟨(by show kc + 2 ≤ 601024; omega), (by show ks + 12 ≤ 7293034; omega)⟩, (Nat.le_of_ble_eq_true rfl)⟩ dL_law_414 (fun v414 M414 q414 => ?_)
  obtain ⟨kk, PQ2, fs, hk4, rfl, hobj, hMo, hres⟩ := hgo _ _ q414
  refine v_istore F dL_law_417 (Nat.le_of_ble_eq_true rfl) (ok2_d rfl) ?_
  refine v_aload_n F dL_law_419 rfl rfl ?_
  refine v_aload_n F dL_law_420 rfl rfl ?_
  refine v_iload F dL_law_421 rfl ?_
  refine v_iconst (v := nI 1) F dL_law_423 (by decide) ?_
  refine v_iadd_n F dL_law_424 ?_
  refine v_sld_n F hX hb hz (by omega) (by omega) dL_law_425 ?_
  refine v_callV F 1 [_] rfl rfl rfl (hMo) gL_law_X5_remove rfl hd_X5_remove ⟨⟨rfl, rfl⟩, ⟨(Nat.le_of_ble_eq_true rfl), (Nat.le_of_ble_eq_true rfl)⟩, ⟨(by show kc + 2 + 0 ≤ 601024; omega), (by show ks + 12 + 0 ≤ 7293034; omega)⟩, (Nat.le_of_ble_eq_true rfl)⟩ hobj rfl dL_law_426 (fun v426 M426 q426 => ?_)
  obtain ⟨x, g, rfl, hLI, hO2, hv⟩ := hres _ _ q426
  obtain ⟨fs2, hobj2⟩ := hLI.obj
  refine v_istore F dL_law_429 (Nat.le_of_ble_eq_true rfl) (ok2_d rfl) ?_
  refine v_aload_n F dL_law_431 rfl rfl ?_
  refine v_callV F 0 [] rfl rfl rfl (hLI.thrown) gL_law_X5_thrown rfl hd_X5_thrown ⟨⟨rfl, rfl⟩, ⟨(Nat.le_of_ble_eq_true rfl), (Nat.le_of_ble_eq_true rfl)⟩, ⟨(by show kc + 2 + 0 + 0 ≤ 601024; omega), (by show ks + 12 + 0 + 0 ≤ 7293034; omega)⟩, (Nat.le_of_ble_eq_true rfl)⟩ hobj2 rfl dL_law_432 (fun v432 M432 q432 => ?_)
  obtain ⟨rfl, e432⟩ := q432
  replace e432 := e432.symm
  subst e432
  refine v_iload F dL_law_435 rfl ?_
  refine v_icmp_eq_n F 442 dL_law_437 (by decide) (by omega) (by omega) (fun c437 => ?_) (fun c437 => ?_)
  · refine v_iload F dL_law_442 rfl ?_
    refine v_if_ne_n F 459 dL_law_444 (by decide) (by omega) (fun c444 => ?_) (fun c444 => ?_)
    · refine v_goto F 1337 dL_law_459 (by decide) ?_
      exact go _ _ _ _ hLI
    · have hv0 : g (nI 0).toNatClampNeg = x.toInt64 := hv c444
      refine v_aload_n F dL_law_447 rfl rfl ?_
      refine v_iconst (v := nI 0) F dL_law_448 (by decide) ?_
      refine v_lald F dL_law_449 hO2 (vp_in_nI (by decide) (by decide)) ?_
      refine v_iload F dL_law_450 rfl ?_
      refine v_i2l F dL_law_452 ?_
      rw [hv0]
      refine v_lcmp F dL_law_453 ?_
      refine v_if_eq F 459 dL_law_454 (by decide) (fun c454 => ?_) (fun c454 => ?_)
      · refine v_goto F 1337 dL_law_459 (by decide) ?_
        exact go _ _ _ _ hLI
      · exact absurd (lg_self _) c454
  · exact absurd rfl c437
set_option maxHeartbeats 4000000 in
set_option maxRecDepth 100000 in
theorem law_tie {ω : Om} {σ : Sg} (F : Fx ω σ cL_law 7 wsL_law RL room_1) (hN : Nc3 σ.2.2.2.2.1) {b n a y0 O : Nat} {xs : Nat → Int32} (hX : va_X b n xs σ.2.2.2.2.1 σ.2.2.2.2.1.heap) (hb : b < σ.2.2.2.2.1.heap.size) (hz : ω.2.1 = σ.2.2.2.2.1.heap.size) (hn : n ≤ 3584) {j : Nat} (hj : 7 * j + 7 ≤ n) {M : MM} {kc ks : Nat} (hkc : kc + 3 ≤ 601024) (hks : ks + 18 ≤ 7293034) {Q : State → Prop} {w5 w6 : Option Value}
    (st : Step σ.2.1 ω a y0 O yL_tie wsL_tie rmL_tie 3 18 yX5_tie wsX5_tie rmX5_tie (fun x => x.toInt64) [.int (xs (7 * j + 1)), .int (xs (7 * j + 2))] M)
    (go : ∀ kk M2 w5 w6, LI ω a y0 O kk M2 → V ω σ M2 [some (.ref b), some (.ref a), some (.ref y0), some (.ref O), some (.int (nI (7 * j))), w5, w6] (kc + 3) (ks + 18) Q 1337 []) : V ω σ M [some (.ref b), some (.ref a), some (.ref y0), some (.ref O), some (.int (nI (7 * j))), w5, w6] kc ks Q 462 [] := by
  obtain ⟨PQ1, hH, hgo⟩ := st
  refine v_aload_n F dL_law_462 rfl rfl ?_
  refine v_aload_n F dL_law_463 rfl rfl ?_
  refine v_iload F dL_law_464 rfl ?_
  refine v_iconst (v := nI 1) F dL_law_466 (by decide) ?_
  refine v_iadd_n F dL_law_467 ?_
  refine v_sld_n F hX hb hz (by omega) (by omega) dL_law_468 ?_
  refine v_aload_n F dL_law_469 rfl rfl ?_
  refine v_iload F dL_law_470 rfl ?_
  refine v_iconst (v := nI 2) F dL_law_472 (by decide) ?_
  refine v_iadd_n F dL_law_473 ?_
  refine v_sld_n F hX hb hz (by omega) (by omega) dL_law_474 ?_
  refine v_aload_n F dL_law_475 rfl rfl ?_
  refine v_callSN F hN 4 [_, _, _, _] rfl rfl rfl (hH) gL_law_L_tie rfl hd_L_tie ⟨⟨rfl, rfl⟩, ⟨(Nat.le_of_ble_eq_true rfl), (Nat.le_of_ble_eq_true rfl)⟩, ⟨(by show kc + 3 ≤ 601024; omega), (by show ks + 18 ≤ 7293034; omega)⟩, (Nat.le_of_ble_eq_true rfl)⟩ dL_law_476 (fun v476 M476 q476 => ?_)
  obtain ⟨kk, PQ2, fs, hk4, rfl, hobj, hMo, hres⟩ := hgo _ _ q476
  refine v_istore F dL_law_479 (Nat.le_of_ble_eq_true rfl) (ok2_d rfl) ?_
  refine v_aload_n F dL_law_481 rfl rfl ?_
  refine v_aload_n F dL_law_482 rfl rfl ?_
  refine v_iload F dL_law_483 rfl ?_
  refine v_iconst (v := nI 1) F dL_law_485 (by decide) ?_
  refine v_iadd_n F dL_law_486 ?_
  refine v_sld_n F hX hb hz (by omega) (by omega) dL_law_487 ?_
  refine v_aload_n F dL_law_488 rfl rfl ?_
  refine v_iload F dL_law_489 rfl ?_
  refine v_iconst (v := nI 2) F dL_law_491 (by decide) ?_
  refine v_iadd_n F dL_law_492 ?_
  refine v_sld_n F hX hb hz (by omega) (by omega) dL_law_493 ?_
  refine v_callV F 2 [_, _] rfl rfl rfl (hMo) gL_law_X5_tie rfl hd_X5_tie ⟨⟨rfl, rfl⟩, ⟨(Nat.le_of_ble_eq_true rfl), (Nat.le_of_ble_eq_true rfl)⟩, ⟨(by show kc + 3 + 0 ≤ 601024; omega), (by show ks + 18 + 0 ≤ 7293034; omega)⟩, (Nat.le_of_ble_eq_true rfl)⟩ hobj rfl dL_law_494 (fun v494 M494 q494 => ?_)
  obtain ⟨x, g, rfl, hLI, hO2, hv⟩ := hres _ _ q494
  obtain ⟨fs2, hobj2⟩ := hLI.obj
  refine v_istore F dL_law_497 (Nat.le_of_ble_eq_true rfl) (ok2_d rfl) ?_
  refine v_aload_n F dL_law_499 rfl rfl ?_
  refine v_callV F 0 [] rfl rfl rfl (hLI.thrown) gL_law_X5_thrown rfl hd_X5_thrown ⟨⟨rfl, rfl⟩, ⟨(Nat.le_of_ble_eq_true rfl), (Nat.le_of_ble_eq_true rfl)⟩, ⟨(by show kc + 3 + 0 + 0 ≤ 601024; omega), (by show ks + 18 + 0 + 0 ≤ 7293034; omega)⟩, (Nat.le_of_ble_eq_true rfl)⟩ hobj2 rfl dL_law_500 (fun v500 M500 q500 => ?_)
  obtain ⟨rfl, e500⟩ := q500
  replace e500 := e500.symm
  subst e500
  refine v_iload F dL_law_503 rfl ?_
  refine v_icmp_eq_n F 510 dL_law_505 (by decide) (by omega) (by omega) (fun c505 => ?_) (fun c505 => ?_)
  · refine v_iload F dL_law_510 rfl ?_
    refine v_if_ne_n F 527 dL_law_512 (by decide) (by omega) (fun c512 => ?_) (fun c512 => ?_)
    · refine v_goto F 1337 dL_law_527 (by decide) ?_
      exact go _ _ _ _ hLI
    · have hv0 : g (nI 0).toNatClampNeg = x.toInt64 := hv c512
      refine v_aload_n F dL_law_515 rfl rfl ?_
      refine v_iconst (v := nI 0) F dL_law_516 (by decide) ?_
      refine v_lald F dL_law_517 hO2 (vp_in_nI (by decide) (by decide)) ?_
      refine v_iload F dL_law_518 rfl ?_
      refine v_i2l F dL_law_520 ?_
      rw [hv0]
      refine v_lcmp F dL_law_521 ?_
      refine v_if_eq F 527 dL_law_522 (by decide) (fun c522 => ?_) (fun c522 => ?_)
      · refine v_goto F 1337 dL_law_527 (by decide) ?_
        exact go _ _ _ _ hLI
      · exact absurd (lg_self _) c522
  · exact absurd rfl c505
set_option maxHeartbeats 4000000 in
set_option maxRecDepth 100000 in
theorem law_untie {ω : Om} {σ : Sg} (F : Fx ω σ cL_law 7 wsL_law RL room_1) (hN : Nc3 σ.2.2.2.2.1) {b n a y0 O : Nat} {xs : Nat → Int32} (hX : va_X b n xs σ.2.2.2.2.1 σ.2.2.2.2.1.heap) (hb : b < σ.2.2.2.2.1.heap.size) (hz : ω.2.1 = σ.2.2.2.2.1.heap.size) (hn : n ≤ 3584) {j : Nat} (hj : 7 * j + 7 ≤ n) {M : MM} {kc ks : Nat} (hkc : kc + 3 ≤ 601024) (hks : ks + 18 ≤ 7293034) {Q : State → Prop} {w5 w6 : Option Value}
    (st : Step σ.2.1 ω a y0 O yL_untie wsL_untie rmL_untie 3 18 yX5_untie wsX5_untie rmX5_untie (fun x => x.toInt64) [.int (xs (7 * j + 1))] M)
    (go : ∀ kk M2 w5 w6, LI ω a y0 O kk M2 → V ω σ M2 [some (.ref b), some (.ref a), some (.ref y0), some (.ref O), some (.int (nI (7 * j))), w5, w6] (kc + 3) (ks + 18) Q 1337 []) : V ω σ M [some (.ref b), some (.ref a), some (.ref y0), some (.ref O), some (.int (nI (7 * j))), w5, w6] kc ks Q 530 [] := by
  obtain ⟨PQ1, hH, hgo⟩ := st
  refine v_aload_n F dL_law_530 rfl rfl ?_
  refine v_aload_n F dL_law_531 rfl rfl ?_
  refine v_iload F dL_law_532 rfl ?_
  refine v_iconst (v := nI 1) F dL_law_534 (by decide) ?_
  refine v_iadd_n F dL_law_535 ?_
  refine v_sld_n F hX hb hz (by omega) (by omega) dL_law_536 ?_
  refine v_aload_n F dL_law_537 rfl rfl ?_
  refine v_callSN F hN 3 [_, _, _] rfl rfl rfl (hH) gL_law_L_untie rfl hd_L_untie ⟨⟨rfl, rfl⟩, ⟨(Nat.le_of_ble_eq_true rfl), (Nat.le_of_ble_eq_true rfl)⟩, ⟨(by show kc + 3 ≤ 601024; omega), (by show ks + 18 ≤ 7293034; omega)⟩, (Nat.le_of_ble_eq_true rfl)⟩ dL_law_538 (fun v538 M538 q538 => ?_)
  obtain ⟨kk, PQ2, fs, hk4, rfl, hobj, hMo, hres⟩ := hgo _ _ q538
  refine v_istore F dL_law_541 (Nat.le_of_ble_eq_true rfl) (ok2_d rfl) ?_
  refine v_aload_n F dL_law_543 rfl rfl ?_
  refine v_aload_n F dL_law_544 rfl rfl ?_
  refine v_iload F dL_law_545 rfl ?_
  refine v_iconst (v := nI 1) F dL_law_547 (by decide) ?_
  refine v_iadd_n F dL_law_548 ?_
  refine v_sld_n F hX hb hz (by omega) (by omega) dL_law_549 ?_
  refine v_callV F 1 [_] rfl rfl rfl (hMo) gL_law_X5_untie rfl hd_X5_untie ⟨⟨rfl, rfl⟩, ⟨(Nat.le_of_ble_eq_true rfl), (Nat.le_of_ble_eq_true rfl)⟩, ⟨(by show kc + 3 + 0 ≤ 601024; omega), (by show ks + 18 + 0 ≤ 7293034; omega)⟩, (Nat.le_of_ble_eq_true rfl)⟩ hobj rfl dL_law_550 (fun v550 M550 q550 => ?_)
  obtain ⟨x, g, rfl, hLI, hO2, hv⟩ := hres _ _ q550
  obtain ⟨fs2, hobj2⟩ := hLI.obj
  refine v_istore F dL_law_553 (Nat.le_of_ble_eq_true rfl) (ok2_d rfl) ?_
  refine v_aload_n F dL_law_555 rfl rfl ?_
  refine v_callV F 0 [] rfl rfl rfl (hLI.thrown) gL_law_X5_thrown rfl hd_X5_thrown ⟨⟨rfl, rfl⟩, ⟨(Nat.le_of_ble_eq_true rfl), (Nat.le_of_ble_eq_true rfl)⟩, ⟨(by show kc + 3 + 0 + 0 ≤ 601024; omega), (by show ks + 18 + 0 + 0 ≤ 7293034; omega)⟩, (Nat.le_of_ble_eq_true rfl)⟩ hobj2 rfl dL_law_556 (fun v556 M556 q556 => ?_)
  obtain ⟨rfl, e556⟩ := q556
  replace e556 := e556.symm
  subst e556
  refine v_iload F dL_law_559 rfl ?_
  refine v_icmp_eq_n F 566 dL_law_561 (by decide) (by omega) (by omega) (fun c561 => ?_) (fun c561 => ?_)
  · refine v_iload F dL_law_566 rfl ?_
    refine v_if_ne_n F 583 dL_law_568 (by decide) (by omega) (fun c568 => ?_) (fun c568 => ?_)
    · refine v_goto F 1337 dL_law_583 (by decide) ?_
      exact go _ _ _ _ hLI
    · have hv0 : g (nI 0).toNatClampNeg = x.toInt64 := hv c568
      refine v_aload_n F dL_law_571 rfl rfl ?_
      refine v_iconst (v := nI 0) F dL_law_572 (by decide) ?_
      refine v_lald F dL_law_573 hO2 (vp_in_nI (by decide) (by decide)) ?_
      refine v_iload F dL_law_574 rfl ?_
      refine v_i2l F dL_law_576 ?_
      rw [hv0]
      refine v_lcmp F dL_law_577 ?_
      refine v_if_eq F 583 dL_law_578 (by decide) (fun c578 => ?_) (fun c578 => ?_)
      · refine v_goto F 1337 dL_law_583 (by decide) ?_
        exact go _ _ _ _ hLI
      · exact absurd (lg_self _) c578
  · exact absurd rfl c561
set_option maxHeartbeats 4000000 in
set_option maxRecDepth 100000 in
theorem law_order {ω : Om} {σ : Sg} (F : Fx ω σ cL_law 7 wsL_law RL room_1) (hN : Nc3 σ.2.2.2.2.1) {b n a y0 O : Nat} {xs : Nat → Int32} (hX : va_X b n xs σ.2.2.2.2.1 σ.2.2.2.2.1.heap) (hb : b < σ.2.2.2.2.1.heap.size) (hz : ω.2.1 = σ.2.2.2.2.1.heap.size) (hn : n ≤ 3584) {j : Nat} (hj : 7 * j + 7 ≤ n) {M : MM} {kc ks : Nat} (hkc : kc + 2 ≤ 601024) (hks : ks + 12 ≤ 7293034) {Q : State → Prop} {w5 w6 : Option Value}
    (st : Step σ.2.1 ω a y0 O yL_order wsL_order rmL_order 2 12 yX5_order wsX5_order rmX5_order (fun x => x.toInt64) [.int (xs (7 * j + 1)), .int (xs (7 * j + 2))] M)
    (go : ∀ kk M2 w5 w6, LI ω a y0 O kk M2 → V ω σ M2 [some (.ref b), some (.ref a), some (.ref y0), some (.ref O), some (.int (nI (7 * j))), w5, w6] (kc + 2) (ks + 12) Q 1337 []) : V ω σ M [some (.ref b), some (.ref a), some (.ref y0), some (.ref O), some (.int (nI (7 * j))), w5, w6] kc ks Q 586 [] := by
  obtain ⟨PQ1, hH, hgo⟩ := st
  refine v_aload_n F dL_law_586 rfl rfl ?_
  refine v_aload_n F dL_law_587 rfl rfl ?_
  refine v_iload F dL_law_588 rfl ?_
  refine v_iconst (v := nI 1) F dL_law_590 (by decide) ?_
  refine v_iadd_n F dL_law_591 ?_
  refine v_sld_n F hX hb hz (by omega) (by omega) dL_law_592 ?_
  refine v_aload_n F dL_law_593 rfl rfl ?_
  refine v_iload F dL_law_594 rfl ?_
  refine v_iconst (v := nI 2) F dL_law_596 (by decide) ?_
  refine v_iadd_n F dL_law_597 ?_
  refine v_sld_n F hX hb hz (by omega) (by omega) dL_law_598 ?_
  refine v_aload_n F dL_law_599 rfl rfl ?_
  refine v_callSN F hN 4 [_, _, _, _] rfl rfl rfl (hH) gL_law_L_order rfl hd_L_order ⟨⟨rfl, rfl⟩, ⟨(Nat.le_of_ble_eq_true rfl), (Nat.le_of_ble_eq_true rfl)⟩, ⟨(by show kc + 2 ≤ 601024; omega), (by show ks + 12 ≤ 7293034; omega)⟩, (Nat.le_of_ble_eq_true rfl)⟩ dL_law_600 (fun v600 M600 q600 => ?_)
  obtain ⟨kk, PQ2, fs, hk4, rfl, hobj, hMo, hres⟩ := hgo _ _ q600
  refine v_istore F dL_law_603 (Nat.le_of_ble_eq_true rfl) (ok2_d rfl) ?_
  refine v_aload_n F dL_law_605 rfl rfl ?_
  refine v_aload_n F dL_law_606 rfl rfl ?_
  refine v_iload F dL_law_607 rfl ?_
  refine v_iconst (v := nI 1) F dL_law_609 (by decide) ?_
  refine v_iadd_n F dL_law_610 ?_
  refine v_sld_n F hX hb hz (by omega) (by omega) dL_law_611 ?_
  refine v_aload_n F dL_law_612 rfl rfl ?_
  refine v_iload F dL_law_613 rfl ?_
  refine v_iconst (v := nI 2) F dL_law_615 (by decide) ?_
  refine v_iadd_n F dL_law_616 ?_
  refine v_sld_n F hX hb hz (by omega) (by omega) dL_law_617 ?_
  refine v_callV F 2 [_, _] rfl rfl rfl (hMo) gL_law_X5_order rfl hd_X5_order ⟨⟨rfl, rfl⟩, ⟨(Nat.le_of_ble_eq_true rfl), (Nat.le_of_ble_eq_true rfl)⟩, ⟨(by show kc + 2 + 0 ≤ 601024; omega), (by show ks + 12 + 0 ≤ 7293034; omega)⟩, (Nat.le_of_ble_eq_true rfl)⟩ hobj rfl dL_law_618 (fun v618 M618 q618 => ?_)
  obtain ⟨x, g, rfl, hLI, hO2, hv⟩ := hres _ _ q618
  obtain ⟨fs2, hobj2⟩ := hLI.obj
  refine v_istore F dL_law_621 (Nat.le_of_ble_eq_true rfl) (ok2_d rfl) ?_
  refine v_aload_n F dL_law_623 rfl rfl ?_
  refine v_callV F 0 [] rfl rfl rfl (hLI.thrown) gL_law_X5_thrown rfl hd_X5_thrown ⟨⟨rfl, rfl⟩, ⟨(Nat.le_of_ble_eq_true rfl), (Nat.le_of_ble_eq_true rfl)⟩, ⟨(by show kc + 2 + 0 + 0 ≤ 601024; omega), (by show ks + 12 + 0 + 0 ≤ 7293034; omega)⟩, (Nat.le_of_ble_eq_true rfl)⟩ hobj2 rfl dL_law_624 (fun v624 M624 q624 => ?_)
  obtain ⟨rfl, e624⟩ := q624
  replace e624 := e624.symm
  subst e624
  refine v_iload F dL_law_627 rfl ?_
  refine v_icmp_eq_n F 634 dL_law_629 (by decide) (by omega) (by omega) (fun c629 => ?_) (fun c629 => ?_)
  · refine v_iload F dL_law_634 rfl ?_
    refine v_if_ne_n F 651 dL_law_636 (by decide) (by omega) (fun c636 => ?_) (fun c636 => ?_)
    · refine v_goto F 1337 dL_law_651 (by decide) ?_
      exact go _ _ _ _ hLI
    · have hv0 : g (nI 0).toNatClampNeg = x.toInt64 := hv c636
      refine v_aload_n F dL_law_639 rfl rfl ?_
      refine v_iconst (v := nI 0) F dL_law_640 (by decide) ?_
      refine v_lald F dL_law_641 hO2 (vp_in_nI (by decide) (by decide)) ?_
      refine v_iload F dL_law_642 rfl ?_
      refine v_i2l F dL_law_644 ?_
      rw [hv0]
      refine v_lcmp F dL_law_645 ?_
      refine v_if_eq F 651 dL_law_646 (by decide) (fun c646 => ?_) (fun c646 => ?_)
      · refine v_goto F 1337 dL_law_651 (by decide) ?_
        exact go _ _ _ _ hLI
      · exact absurd (lg_self _) c646
  · exact absurd rfl c629
set_option maxHeartbeats 4000000 in
set_option maxRecDepth 100000 in
theorem law_orderAnew {ω : Om} {σ : Sg} (F : Fx ω σ cL_law 7 wsL_law RL room_1) (hN : Nc3 σ.2.2.2.2.1) {b n a y0 O : Nat} {xs : Nat → Int32} (hX : va_X b n xs σ.2.2.2.2.1 σ.2.2.2.2.1.heap) (hb : b < σ.2.2.2.2.1.heap.size) (hz : ω.2.1 = σ.2.2.2.2.1.heap.size) (hn : n ≤ 3584) {j : Nat} (hj : 7 * j + 7 ≤ n) {M : MM} {kc ks : Nat} (hkc : kc + 2 ≤ 601024) (hks : ks + 12 ≤ 7293034) {Q : State → Prop} {w5 w6 : Option Value}
    (st : Step σ.2.1 ω a y0 O yL_orderAnew wsL_orderAnew rmL_orderAnew 2 12 yX5_orderAnew wsX5_orderAnew rmX5_orderAnew (fun x => x.toInt64) [.int (xs (7 * j + 1)), .int (xs (7 * j + 2))] M)
    (go : ∀ kk M2 w5 w6, LI ω a y0 O kk M2 → V ω σ M2 [some (.ref b), some (.ref a), some (.ref y0), some (.ref O), some (.int (nI (7 * j))), w5, w6] (kc + 2) (ks + 12) Q 1337 []) : V ω σ M [some (.ref b), some (.ref a), some (.ref y0), some (.ref O), some (.int (nI (7 * j))), w5, w6] kc ks Q 654 [] := by
  obtain ⟨PQ1, hH, hgo⟩ := st
  refine v_aload_n F dL_law_654 rfl rfl ?_
  refine v_aload_n F dL_law_655 rfl rfl ?_
  refine v_iload F dL_law_656 rfl ?_
  refine v_iconst (v := nI 1) F dL_law_658 (by decide) ?_
  refine v_iadd_n F dL_law_659 ?_
  refine v_sld_n F hX hb hz (by omega) (by omega) dL_law_660 ?_
  refine v_aload_n F dL_law_661 rfl rfl ?_
  refine v_iload F dL_law_662 rfl ?_
  refine v_iconst (v := nI 2) F dL_law_664 (by decide) ?_
  refine v_iadd_n F dL_law_665 ?_
  refine v_sld_n F hX hb hz (by omega) (by omega) dL_law_666 ?_
  refine v_aload_n F dL_law_667 rfl rfl ?_
  refine v_callSN F hN 4 [_, _, _, _] rfl rfl rfl (hH) gL_law_L_orderAnew rfl hd_L_orderAnew ⟨⟨rfl, rfl⟩, ⟨(Nat.le_of_ble_eq_true rfl), (Nat.le_of_ble_eq_true rfl)⟩, ⟨(by show kc + 2 ≤ 601024; omega), (by show ks + 12 ≤ 7293034; omega)⟩, (Nat.le_of_ble_eq_true rfl)⟩ dL_law_668 (fun v668 M668 q668 => ?_)
  obtain ⟨kk, PQ2, fs, hk4, rfl, hobj, hMo, hres⟩ := hgo _ _ q668
  refine v_istore F dL_law_671 (Nat.le_of_ble_eq_true rfl) (ok2_d rfl) ?_
  refine v_aload_n F dL_law_673 rfl rfl ?_
  refine v_aload_n F dL_law_674 rfl rfl ?_
  refine v_iload F dL_law_675 rfl ?_
  refine v_iconst (v := nI 1) F dL_law_677 (by decide) ?_
  refine v_iadd_n F dL_law_678 ?_
  refine v_sld_n F hX hb hz (by omega) (by omega) dL_law_679 ?_
  refine v_aload_n F dL_law_680 rfl rfl ?_
  refine v_iload F dL_law_681 rfl ?_
  refine v_iconst (v := nI 2) F dL_law_683 (by decide) ?_
  refine v_iadd_n F dL_law_684 ?_
  refine v_sld_n F hX hb hz (by omega) (by omega) dL_law_685 ?_
  refine v_callV F 2 [_, _] rfl rfl rfl (hMo) gL_law_X5_orderAnew rfl hd_X5_orderAnew ⟨⟨rfl, rfl⟩, ⟨(Nat.le_of_ble_eq_true rfl), (Nat.le_of_ble_eq_true rfl)⟩, ⟨(by show kc + 2 + 0 ≤ 601024; omega), (by show ks + 12 + 0 ≤ 7293034; omega)⟩, (Nat.le_of_ble_eq_true rfl)⟩ hobj rfl dL_law_686 (fun v686 M686 q686 => ?_)
  obtain ⟨x, g, rfl, hLI, hO2, hv⟩ := hres _ _ q686
  obtain ⟨fs2, hobj2⟩ := hLI.obj
  refine v_istore F dL_law_689 (Nat.le_of_ble_eq_true rfl) (ok2_d rfl) ?_
  refine v_aload_n F dL_law_691 rfl rfl ?_
  refine v_callV F 0 [] rfl rfl rfl (hLI.thrown) gL_law_X5_thrown rfl hd_X5_thrown ⟨⟨rfl, rfl⟩, ⟨(Nat.le_of_ble_eq_true rfl), (Nat.le_of_ble_eq_true rfl)⟩, ⟨(by show kc + 2 + 0 + 0 ≤ 601024; omega), (by show ks + 12 + 0 + 0 ≤ 7293034; omega)⟩, (Nat.le_of_ble_eq_true rfl)⟩ hobj2 rfl dL_law_692 (fun v692 M692 q692 => ?_)
  obtain ⟨rfl, e692⟩ := q692
  replace e692 := e692.symm
  subst e692
  refine v_iload F dL_law_695 rfl ?_
  refine v_icmp_eq_n F 702 dL_law_697 (by decide) (by omega) (by omega) (fun c697 => ?_) (fun c697 => ?_)
  · refine v_iload F dL_law_702 rfl ?_
    refine v_if_ne_n F 719 dL_law_704 (by decide) (by omega) (fun c704 => ?_) (fun c704 => ?_)
    · refine v_goto F 1337 dL_law_719 (by decide) ?_
      exact go _ _ _ _ hLI
    · have hv0 : g (nI 0).toNatClampNeg = x.toInt64 := hv c704
      refine v_aload_n F dL_law_707 rfl rfl ?_
      refine v_iconst (v := nI 0) F dL_law_708 (by decide) ?_
      refine v_lald F dL_law_709 hO2 (vp_in_nI (by decide) (by decide)) ?_
      refine v_iload F dL_law_710 rfl ?_
      refine v_i2l F dL_law_712 ?_
      rw [hv0]
      refine v_lcmp F dL_law_713 ?_
      refine v_if_eq F 719 dL_law_714 (by decide) (fun c714 => ?_) (fun c714 => ?_)
      · refine v_goto F 1337 dL_law_719 (by decide) ?_
        exact go _ _ _ _ hLI
      · exact absurd (lg_self _) c714
  · exact absurd rfl c697
set_option maxHeartbeats 4000000 in
set_option maxRecDepth 100000 in
theorem law_placeOf {ω : Om} {σ : Sg} (F : Fx ω σ cL_law 7 wsL_law RL room_1) (hN : Nc3 σ.2.2.2.2.1) {b n a y0 O : Nat} {xs : Nat → Int32} (hX : va_X b n xs σ.2.2.2.2.1 σ.2.2.2.2.1.heap) (hb : b < σ.2.2.2.2.1.heap.size) (hz : ω.2.1 = σ.2.2.2.2.1.heap.size) (hn : n ≤ 3584) {j : Nat} (hj : 7 * j + 7 ≤ n) {M : MM} {kc ks : Nat} (hkc : kc + 2 ≤ 601024) (hks : ks + 12 ≤ 7293034) {Q : State → Prop} {w5 w6 : Option Value}
    (st : Step σ.2.1 ω a y0 O yL_placeOf wsL_placeOf rmL_placeOf 2 12 yX5_placeOf wsX5_placeOf rmX5_placeOf (fun x => x.toInt64) [.int (xs (7 * j + 1))] M)
    (go : ∀ kk M2 w5 w6, LI ω a y0 O kk M2 → V ω σ M2 [some (.ref b), some (.ref a), some (.ref y0), some (.ref O), some (.int (nI (7 * j))), w5, w6] (kc + 2) (ks + 12) Q 1337 []) : V ω σ M [some (.ref b), some (.ref a), some (.ref y0), some (.ref O), some (.int (nI (7 * j))), w5, w6] kc ks Q 722 [] := by
  obtain ⟨PQ1, hH, hgo⟩ := st
  refine v_aload_n F dL_law_722 rfl rfl ?_
  refine v_aload_n F dL_law_723 rfl rfl ?_
  refine v_iload F dL_law_724 rfl ?_
  refine v_iconst (v := nI 1) F dL_law_726 (by decide) ?_
  refine v_iadd_n F dL_law_727 ?_
  refine v_sld_n F hX hb hz (by omega) (by omega) dL_law_728 ?_
  refine v_aload_n F dL_law_729 rfl rfl ?_
  refine v_callSN F hN 3 [_, _, _] rfl rfl rfl (hH) gL_law_L_placeOf rfl hd_L_placeOf ⟨⟨rfl, rfl⟩, ⟨(Nat.le_of_ble_eq_true rfl), (Nat.le_of_ble_eq_true rfl)⟩, ⟨(by show kc + 2 ≤ 601024; omega), (by show ks + 12 ≤ 7293034; omega)⟩, (Nat.le_of_ble_eq_true rfl)⟩ dL_law_730 (fun v730 M730 q730 => ?_)
  obtain ⟨kk, PQ2, fs, hk4, rfl, hobj, hMo, hres⟩ := hgo _ _ q730
  refine v_istore F dL_law_733 (Nat.le_of_ble_eq_true rfl) (ok2_d rfl) ?_
  refine v_aload_n F dL_law_735 rfl rfl ?_
  refine v_aload_n F dL_law_736 rfl rfl ?_
  refine v_iload F dL_law_737 rfl ?_
  refine v_iconst (v := nI 1) F dL_law_739 (by decide) ?_
  refine v_iadd_n F dL_law_740 ?_
  refine v_sld_n F hX hb hz (by omega) (by omega) dL_law_741 ?_
  refine v_callV F 1 [_] rfl rfl rfl (hMo) gL_law_X5_placeOf rfl hd_X5_placeOf ⟨⟨rfl, rfl⟩, ⟨(Nat.le_of_ble_eq_true rfl), (Nat.le_of_ble_eq_true rfl)⟩, ⟨(by show kc + 2 + 0 ≤ 601024; omega), (by show ks + 12 + 0 ≤ 7293034; omega)⟩, (Nat.le_of_ble_eq_true rfl)⟩ hobj rfl dL_law_742 (fun v742 M742 q742 => ?_)
  obtain ⟨x, g, rfl, hLI, hO2, hv⟩ := hres _ _ q742
  obtain ⟨fs2, hobj2⟩ := hLI.obj
  refine v_istore F dL_law_745 (Nat.le_of_ble_eq_true rfl) (ok2_d rfl) ?_
  refine v_aload_n F dL_law_747 rfl rfl ?_
  refine v_callV F 0 [] rfl rfl rfl (hLI.thrown) gL_law_X5_thrown rfl hd_X5_thrown ⟨⟨rfl, rfl⟩, ⟨(Nat.le_of_ble_eq_true rfl), (Nat.le_of_ble_eq_true rfl)⟩, ⟨(by show kc + 2 + 0 + 0 ≤ 601024; omega), (by show ks + 12 + 0 + 0 ≤ 7293034; omega)⟩, (Nat.le_of_ble_eq_true rfl)⟩ hobj2 rfl dL_law_748 (fun v748 M748 q748 => ?_)
  obtain ⟨rfl, e748⟩ := q748
  replace e748 := e748.symm
  subst e748
  refine v_iload F dL_law_751 rfl ?_
  refine v_icmp_eq_n F 758 dL_law_753 (by decide) (by omega) (by omega) (fun c753 => ?_) (fun c753 => ?_)
  · refine v_iload F dL_law_758 rfl ?_
    refine v_if_ne_n F 775 dL_law_760 (by decide) (by omega) (fun c760 => ?_) (fun c760 => ?_)
    · refine v_goto F 1337 dL_law_775 (by decide) ?_
      exact go _ _ _ _ hLI
    · have hv0 : g (nI 0).toNatClampNeg = x.toInt64 := hv c760
      refine v_aload_n F dL_law_763 rfl rfl ?_
      refine v_iconst (v := nI 0) F dL_law_764 (by decide) ?_
      refine v_lald F dL_law_765 hO2 (vp_in_nI (by decide) (by decide)) ?_
      refine v_iload F dL_law_766 rfl ?_
      refine v_i2l F dL_law_768 ?_
      rw [hv0]
      refine v_lcmp F dL_law_769 ?_
      refine v_if_eq F 775 dL_law_770 (by decide) (fun c770 => ?_) (fun c770 => ?_)
      · refine v_goto F 1337 dL_law_775 (by decide) ?_
        exact go _ _ _ _ hLI
      · exact absurd (lg_self _) c770
  · exact absurd rfl c753
set_option maxHeartbeats 4000000 in
set_option maxRecDepth 100000 in
theorem law_boxes {ω : Om} {σ : Sg} (F : Fx ω σ cL_law 7 wsL_law RL room_1) (hN : Nc3 σ.2.2.2.2.1) {b n a y0 O : Nat} {xs : Nat → Int32} (hX : va_X b n xs σ.2.2.2.2.1 σ.2.2.2.2.1.heap) (hb : b < σ.2.2.2.2.1.heap.size) (hz : ω.2.1 = σ.2.2.2.2.1.heap.size) (hn : n ≤ 3584) {j : Nat} (hj : 7 * j + 7 ≤ n) {M : MM} {kc ks : Nat} (hkc : kc + 1 ≤ 601024) (hks : ks + 6 ≤ 7293034) {Q : State → Prop} {w5 w6 : Option Value}
    (st : Step σ.2.1 ω a y0 O yL_boxes wsL_boxes rmL_boxes 1 6 yX5_boxes wsX5_boxes rmX5_boxes (fun x => x.toInt64) [.int (xs (7 * j + 1))] M)
    (go : ∀ kk M2 w5 w6, LI ω a y0 O kk M2 → V ω σ M2 [some (.ref b), some (.ref a), some (.ref y0), some (.ref O), some (.int (nI (7 * j))), w5, w6] (kc + 1) (ks + 6) Q 1337 []) : V ω σ M [some (.ref b), some (.ref a), some (.ref y0), some (.ref O), some (.int (nI (7 * j))), w5, w6] kc ks Q 778 [] := by
  obtain ⟨PQ1, hH, hgo⟩ := st
  refine v_aload_n F dL_law_778 rfl rfl ?_
  refine v_aload_n F dL_law_779 rfl rfl ?_
  refine v_iload F dL_law_780 rfl ?_
  refine v_iconst (v := nI 1) F dL_law_782 (by decide) ?_
  refine v_iadd_n F dL_law_783 ?_
  refine v_sld_n F hX hb hz (by omega) (by omega) dL_law_784 ?_
  refine v_aload_n F dL_law_785 rfl rfl ?_
  refine v_callSN F hN 3 [_, _, _] rfl rfl rfl (hH) gL_law_L_boxes rfl hd_L_boxes ⟨⟨rfl, rfl⟩, ⟨(Nat.le_of_ble_eq_true rfl), (Nat.le_of_ble_eq_true rfl)⟩, ⟨(by show kc + 1 ≤ 601024; omega), (by show ks + 6 ≤ 7293034; omega)⟩, (Nat.le_of_ble_eq_true rfl)⟩ dL_law_786 (fun v786 M786 q786 => ?_)
  obtain ⟨kk, PQ2, fs, hk4, rfl, hobj, hMo, hres⟩ := hgo _ _ q786
  refine v_istore F dL_law_789 (Nat.le_of_ble_eq_true rfl) (ok2_d rfl) ?_
  refine v_aload_n F dL_law_791 rfl rfl ?_
  refine v_aload_n F dL_law_792 rfl rfl ?_
  refine v_iload F dL_law_793 rfl ?_
  refine v_iconst (v := nI 1) F dL_law_795 (by decide) ?_
  refine v_iadd_n F dL_law_796 ?_
  refine v_sld_n F hX hb hz (by omega) (by omega) dL_law_797 ?_
  refine v_callV F 1 [_] rfl rfl rfl (hMo) gL_law_X5_boxes rfl hd_X5_boxes ⟨⟨rfl, rfl⟩, ⟨(Nat.le_of_ble_eq_true rfl), (Nat.le_of_ble_eq_true rfl)⟩, ⟨(by show kc + 1 + 0 ≤ 601024; omega), (by show ks + 6 + 0 ≤ 7293034; omega)⟩, (Nat.le_of_ble_eq_true rfl)⟩ hobj rfl dL_law_798 (fun v798 M798 q798 => ?_)
  obtain ⟨x, g, rfl, hLI, hO2, hv⟩ := hres _ _ q798
  obtain ⟨fs2, hobj2⟩ := hLI.obj
  refine v_istore F dL_law_801 (Nat.le_of_ble_eq_true rfl) (ok2_d rfl) ?_
  refine v_aload_n F dL_law_803 rfl rfl ?_
  refine v_callV F 0 [] rfl rfl rfl (hLI.thrown) gL_law_X5_thrown rfl hd_X5_thrown ⟨⟨rfl, rfl⟩, ⟨(Nat.le_of_ble_eq_true rfl), (Nat.le_of_ble_eq_true rfl)⟩, ⟨(by show kc + 1 + 0 + 0 ≤ 601024; omega), (by show ks + 6 + 0 + 0 ≤ 7293034; omega)⟩, (Nat.le_of_ble_eq_true rfl)⟩ hobj2 rfl dL_law_804 (fun v804 M804 q804 => ?_)
  obtain ⟨rfl, e804⟩ := q804
  replace e804 := e804.symm
  subst e804
  refine v_iload F dL_law_807 rfl ?_
  refine v_icmp_eq_n F 814 dL_law_809 (by decide) (by omega) (by omega) (fun c809 => ?_) (fun c809 => ?_)
  · refine v_iload F dL_law_814 rfl ?_
    refine v_if_ne_n F 831 dL_law_816 (by decide) (by omega) (fun c816 => ?_) (fun c816 => ?_)
    · refine v_goto F 1337 dL_law_831 (by decide) ?_
      exact go _ _ _ _ hLI
    · have hv0 : g (nI 0).toNatClampNeg = x.toInt64 := hv c816
      refine v_aload_n F dL_law_819 rfl rfl ?_
      refine v_iconst (v := nI 0) F dL_law_820 (by decide) ?_
      refine v_lald F dL_law_821 hO2 (vp_in_nI (by decide) (by decide)) ?_
      refine v_iload F dL_law_822 rfl ?_
      refine v_i2l F dL_law_824 ?_
      rw [hv0]
      refine v_lcmp F dL_law_825 ?_
      refine v_if_eq F 831 dL_law_826 (by decide) (fun c826 => ?_) (fun c826 => ?_)
      · refine v_goto F 1337 dL_law_831 (by decide) ?_
        exact go _ _ _ _ hLI
      · exact absurd (lg_self _) c826
  · exact absurd rfl c809
set_option maxHeartbeats 4000000 in
set_option maxRecDepth 100000 in
theorem law_about {ω : Om} {σ : Sg} (F : Fx ω σ cL_law 7 wsL_law RL room_1) (hN : Nc3 σ.2.2.2.2.1) {b n a y0 O : Nat} {xs : Nat → Int32} (hX : va_X b n xs σ.2.2.2.2.1 σ.2.2.2.2.1.heap) (hb : b < σ.2.2.2.2.1.heap.size) (hz : ω.2.1 = σ.2.2.2.2.1.heap.size) (hn : n ≤ 3584) {j : Nat} (hj : 7 * j + 7 ≤ n) {M : MM} {kc ks : Nat} (hkc : kc + 1 ≤ 601024) (hks : ks + 6 ≤ 7293034) {Q : State → Prop} {w5 w6 : Option Value}
    (st : Step σ.2.1 ω a y0 O yL_about wsL_about rmL_about 1 6 yX5_about wsX5_about rmX5_about (fun x => x.toInt64) [.int (xs (7 * j + 1)), .int (xs (7 * j + 2))] M)
    (go : ∀ kk M2 w5 w6, LI ω a y0 O kk M2 → V ω σ M2 [some (.ref b), some (.ref a), some (.ref y0), some (.ref O), some (.int (nI (7 * j))), w5, w6] (kc + 1) (ks + 6) Q 1337 []) : V ω σ M [some (.ref b), some (.ref a), some (.ref y0), some (.ref O), some (.int (nI (7 * j))), w5, w6] kc ks Q 834 [] := by
  obtain ⟨PQ1, hH, hgo⟩ := st
  refine v_aload_n F dL_law_834 rfl rfl ?_
  refine v_aload_n F dL_law_835 rfl rfl ?_
  refine v_iload F dL_law_836 rfl ?_
  refine v_iconst (v := nI 1) F dL_law_838 (by decide) ?_
  refine v_iadd_n F dL_law_839 ?_
  refine v_sld_n F hX hb hz (by omega) (by omega) dL_law_840 ?_
  refine v_aload_n F dL_law_841 rfl rfl ?_
  refine v_iload F dL_law_842 rfl ?_
  refine v_iconst (v := nI 2) F dL_law_844 (by decide) ?_
  refine v_iadd_n F dL_law_845 ?_
  refine v_sld_n F hX hb hz (by omega) (by omega) dL_law_846 ?_
  refine v_aload_n F dL_law_847 rfl rfl ?_
  refine v_callSN F hN 4 [_, _, _, _] rfl rfl rfl (hH) gL_law_L_about rfl hd_L_about ⟨⟨rfl, rfl⟩, ⟨(Nat.le_of_ble_eq_true rfl), (Nat.le_of_ble_eq_true rfl)⟩, ⟨(by show kc + 1 ≤ 601024; omega), (by show ks + 6 ≤ 7293034; omega)⟩, (Nat.le_of_ble_eq_true rfl)⟩ dL_law_848 (fun v848 M848 q848 => ?_)
  obtain ⟨kk, PQ2, fs, hk4, rfl, hobj, hMo, hres⟩ := hgo _ _ q848
  refine v_istore F dL_law_851 (Nat.le_of_ble_eq_true rfl) (ok2_d rfl) ?_
  refine v_aload_n F dL_law_853 rfl rfl ?_
  refine v_aload_n F dL_law_854 rfl rfl ?_
  refine v_iload F dL_law_855 rfl ?_
  refine v_iconst (v := nI 1) F dL_law_857 (by decide) ?_
  refine v_iadd_n F dL_law_858 ?_
  refine v_sld_n F hX hb hz (by omega) (by omega) dL_law_859 ?_
  refine v_aload_n F dL_law_860 rfl rfl ?_
  refine v_iload F dL_law_861 rfl ?_
  refine v_iconst (v := nI 2) F dL_law_863 (by decide) ?_
  refine v_iadd_n F dL_law_864 ?_
  refine v_sld_n F hX hb hz (by omega) (by omega) dL_law_865 ?_
  refine v_callV F 2 [_, _] rfl rfl rfl (hMo) gL_law_X5_about rfl hd_X5_about ⟨⟨rfl, rfl⟩, ⟨(Nat.le_of_ble_eq_true rfl), (Nat.le_of_ble_eq_true rfl)⟩, ⟨(by show kc + 1 + 0 ≤ 601024; omega), (by show ks + 6 + 0 ≤ 7293034; omega)⟩, (Nat.le_of_ble_eq_true rfl)⟩ hobj rfl dL_law_866 (fun v866 M866 q866 => ?_)
  obtain ⟨x, g, rfl, hLI, hO2, hv⟩ := hres _ _ q866
  obtain ⟨fs2, hobj2⟩ := hLI.obj
  refine v_istore F dL_law_869 (Nat.le_of_ble_eq_true rfl) (ok2_d rfl) ?_
  refine v_aload_n F dL_law_871 rfl rfl ?_
  refine v_callV F 0 [] rfl rfl rfl (hLI.thrown) gL_law_X5_thrown rfl hd_X5_thrown ⟨⟨rfl, rfl⟩, ⟨(Nat.le_of_ble_eq_true rfl), (Nat.le_of_ble_eq_true rfl)⟩, ⟨(by show kc + 1 + 0 + 0 ≤ 601024; omega), (by show ks + 6 + 0 + 0 ≤ 7293034; omega)⟩, (Nat.le_of_ble_eq_true rfl)⟩ hobj2 rfl dL_law_872 (fun v872 M872 q872 => ?_)
  obtain ⟨rfl, e872⟩ := q872
  replace e872 := e872.symm
  subst e872
  refine v_iload F dL_law_875 rfl ?_
  refine v_icmp_eq_n F 882 dL_law_877 (by decide) (by omega) (by omega) (fun c877 => ?_) (fun c877 => ?_)
  · refine v_iload F dL_law_882 rfl ?_
    refine v_if_ne_n F 899 dL_law_884 (by decide) (by omega) (fun c884 => ?_) (fun c884 => ?_)
    · refine v_goto F 1337 dL_law_899 (by decide) ?_
      exact go _ _ _ _ hLI
    · have hv0 : g (nI 0).toNatClampNeg = x.toInt64 := hv c884
      refine v_aload_n F dL_law_887 rfl rfl ?_
      refine v_iconst (v := nI 0) F dL_law_888 (by decide) ?_
      refine v_lald F dL_law_889 hO2 (vp_in_nI (by decide) (by decide)) ?_
      refine v_iload F dL_law_890 rfl ?_
      refine v_i2l F dL_law_892 ?_
      rw [hv0]
      refine v_lcmp F dL_law_893 ?_
      refine v_if_eq F 899 dL_law_894 (by decide) (fun c894 => ?_) (fun c894 => ?_)
      · refine v_goto F 1337 dL_law_899 (by decide) ?_
        exact go _ _ _ _ hLI
      · exact absurd (lg_self _) c894
  · exact absurd rfl c877
set_option maxHeartbeats 4000000 in
set_option maxRecDepth 100000 in
theorem law_way {ω : Om} {σ : Sg} (F : Fx ω σ cL_law 7 wsL_law RL room_1) (hN : Nc3 σ.2.2.2.2.1) {b n a y0 O : Nat} {xs : Nat → Int32} (hX : va_X b n xs σ.2.2.2.2.1 σ.2.2.2.2.1.heap) (hb : b < σ.2.2.2.2.1.heap.size) (hz : ω.2.1 = σ.2.2.2.2.1.heap.size) (hn : n ≤ 3584) {j : Nat} (hj : 7 * j + 7 ≤ n) {M : MM} {kc ks : Nat} (hkc : kc + 1 ≤ 601024) (hks : ks + 6 ≤ 7293034) {Q : State → Prop} {w5 w6 : Option Value}
    (st : Step σ.2.1 ω a y0 O yL_way wsL_way rmL_way 1 6 yX5_way wsX5_way rmX5_way (fun x => x.toInt64) [.int (xs (7 * j + 1))] M)
    (go : ∀ kk M2 w5 w6, LI ω a y0 O kk M2 → V ω σ M2 [some (.ref b), some (.ref a), some (.ref y0), some (.ref O), some (.int (nI (7 * j))), w5, w6] (kc + 1) (ks + 6) Q 1337 []) : V ω σ M [some (.ref b), some (.ref a), some (.ref y0), some (.ref O), some (.int (nI (7 * j))), w5, w6] kc ks Q 902 [] := by
  obtain ⟨PQ1, hH, hgo⟩ := st
  refine v_aload_n F dL_law_902 rfl rfl ?_
  refine v_aload_n F dL_law_903 rfl rfl ?_
  refine v_iload F dL_law_904 rfl ?_
  refine v_iconst (v := nI 1) F dL_law_906 (by decide) ?_
  refine v_iadd_n F dL_law_907 ?_
  refine v_sld_n F hX hb hz (by omega) (by omega) dL_law_908 ?_
  refine v_aload_n F dL_law_909 rfl rfl ?_
  refine v_callSN F hN 3 [_, _, _] rfl rfl rfl (hH) gL_law_L_way rfl hd_L_way ⟨⟨rfl, rfl⟩, ⟨(Nat.le_of_ble_eq_true rfl), (Nat.le_of_ble_eq_true rfl)⟩, ⟨(by show kc + 1 ≤ 601024; omega), (by show ks + 6 ≤ 7293034; omega)⟩, (Nat.le_of_ble_eq_true rfl)⟩ dL_law_910 (fun v910 M910 q910 => ?_)
  obtain ⟨kk, PQ2, fs, hk4, rfl, hobj, hMo, hres⟩ := hgo _ _ q910
  refine v_istore F dL_law_913 (Nat.le_of_ble_eq_true rfl) (ok2_d rfl) ?_
  refine v_aload_n F dL_law_915 rfl rfl ?_
  refine v_aload_n F dL_law_916 rfl rfl ?_
  refine v_iload F dL_law_917 rfl ?_
  refine v_iconst (v := nI 1) F dL_law_919 (by decide) ?_
  refine v_iadd_n F dL_law_920 ?_
  refine v_sld_n F hX hb hz (by omega) (by omega) dL_law_921 ?_
  refine v_callV F 1 [_] rfl rfl rfl (hMo) gL_law_X5_way rfl hd_X5_way ⟨⟨rfl, rfl⟩, ⟨(Nat.le_of_ble_eq_true rfl), (Nat.le_of_ble_eq_true rfl)⟩, ⟨(by show kc + 1 + 0 ≤ 601024; omega), (by show ks + 6 + 0 ≤ 7293034; omega)⟩, (Nat.le_of_ble_eq_true rfl)⟩ hobj rfl dL_law_922 (fun v922 M922 q922 => ?_)
  obtain ⟨x, g, rfl, hLI, hO2, hv⟩ := hres _ _ q922
  obtain ⟨fs2, hobj2⟩ := hLI.obj
  refine v_istore F dL_law_925 (Nat.le_of_ble_eq_true rfl) (ok2_d rfl) ?_
  refine v_aload_n F dL_law_927 rfl rfl ?_
  refine v_callV F 0 [] rfl rfl rfl (hLI.thrown) gL_law_X5_thrown rfl hd_X5_thrown ⟨⟨rfl, rfl⟩, ⟨(Nat.le_of_ble_eq_true rfl), (Nat.le_of_ble_eq_true rfl)⟩, ⟨(by show kc + 1 + 0 + 0 ≤ 601024; omega), (by show ks + 6 + 0 + 0 ≤ 7293034; omega)⟩, (Nat.le_of_ble_eq_true rfl)⟩ hobj2 rfl dL_law_928 (fun v928 M928 q928 => ?_)
  obtain ⟨rfl, e928⟩ := q928
  replace e928 := e928.symm
  subst e928
  refine v_iload F dL_law_931 rfl ?_
  refine v_icmp_eq_n F 938 dL_law_933 (by decide) (by omega) (by omega) (fun c933 => ?_) (fun c933 => ?_)
  · refine v_iload F dL_law_938 rfl ?_
    refine v_if_ne_n F 955 dL_law_940 (by decide) (by omega) (fun c940 => ?_) (fun c940 => ?_)
    · refine v_goto F 1337 dL_law_955 (by decide) ?_
      exact go _ _ _ _ hLI
    · have hv0 : g (nI 0).toNatClampNeg = x.toInt64 := hv c940
      refine v_aload_n F dL_law_943 rfl rfl ?_
      refine v_iconst (v := nI 0) F dL_law_944 (by decide) ?_
      refine v_lald F dL_law_945 hO2 (vp_in_nI (by decide) (by decide)) ?_
      refine v_iload F dL_law_946 rfl ?_
      refine v_i2l F dL_law_948 ?_
      rw [hv0]
      refine v_lcmp F dL_law_949 ?_
      refine v_if_eq F 955 dL_law_950 (by decide) (fun c950 => ?_) (fun c950 => ?_)
      · refine v_goto F 1337 dL_law_955 (by decide) ?_
        exact go _ _ _ _ hLI
      · exact absurd (lg_self _) c950
  · exact absurd rfl c933
set_option maxHeartbeats 4000000 in
set_option maxRecDepth 100000 in
theorem law_faults {ω : Om} {σ : Sg} (F : Fx ω σ cL_law 7 wsL_law RL room_1) (hN : Nc3 σ.2.2.2.2.1) {b n a y0 O : Nat} {xs : Nat → Int32} (hX : va_X b n xs σ.2.2.2.2.1 σ.2.2.2.2.1.heap) (hb : b < σ.2.2.2.2.1.heap.size) (hz : ω.2.1 = σ.2.2.2.2.1.heap.size) (hn : n ≤ 3584) {j : Nat} (hj : 7 * j + 7 ≤ n) {M : MM} {kc ks : Nat} (hkc : kc + 2 ≤ 601024) (hks : ks + 12 ≤ 7293034) {Q : State → Prop} {w5 w6 : Option Value}
    (st : Step σ.2.1 ω a y0 O yL_faults wsL_faults rmL_faults 2 12 yX5_faults wsX5_faults rmX5_faults (fun x => x.toInt64) [.int (xs (7 * j + 1))] M)
    (go : ∀ kk M2 w5 w6, LI ω a y0 O kk M2 → V ω σ M2 [some (.ref b), some (.ref a), some (.ref y0), some (.ref O), some (.int (nI (7 * j))), w5, w6] (kc + 2) (ks + 12) Q 1337 []) : V ω σ M [some (.ref b), some (.ref a), some (.ref y0), some (.ref O), some (.int (nI (7 * j))), w5, w6] kc ks Q 958 [] := by
  obtain ⟨PQ1, hH, hgo⟩ := st
  refine v_aload_n F dL_law_958 rfl rfl ?_
  refine v_aload_n F dL_law_959 rfl rfl ?_
  refine v_iload F dL_law_960 rfl ?_
  refine v_iconst (v := nI 1) F dL_law_962 (by decide) ?_
  refine v_iadd_n F dL_law_963 ?_
  refine v_sld_n F hX hb hz (by omega) (by omega) dL_law_964 ?_
  refine v_aload_n F dL_law_965 rfl rfl ?_
  refine v_callSN F hN 3 [_, _, _] rfl rfl rfl (hH) gL_law_L_faults rfl hd_L_faults ⟨⟨rfl, rfl⟩, ⟨(Nat.le_of_ble_eq_true rfl), (Nat.le_of_ble_eq_true rfl)⟩, ⟨(by show kc + 2 ≤ 601024; omega), (by show ks + 12 ≤ 7293034; omega)⟩, (Nat.le_of_ble_eq_true rfl)⟩ dL_law_966 (fun v966 M966 q966 => ?_)
  obtain ⟨kk, PQ2, fs, hk4, rfl, hobj, hMo, hres⟩ := hgo _ _ q966
  refine v_istore F dL_law_969 (Nat.le_of_ble_eq_true rfl) (ok2_d rfl) ?_
  refine v_aload_n F dL_law_971 rfl rfl ?_
  refine v_aload_n F dL_law_972 rfl rfl ?_
  refine v_iload F dL_law_973 rfl ?_
  refine v_iconst (v := nI 1) F dL_law_975 (by decide) ?_
  refine v_iadd_n F dL_law_976 ?_
  refine v_sld_n F hX hb hz (by omega) (by omega) dL_law_977 ?_
  refine v_callV F 1 [_] rfl rfl rfl (hMo) gL_law_X5_faults rfl hd_X5_faults ⟨⟨rfl, rfl⟩, ⟨(Nat.le_of_ble_eq_true rfl), (Nat.le_of_ble_eq_true rfl)⟩, ⟨(by show kc + 2 + 0 ≤ 601024; omega), (by show ks + 12 + 0 ≤ 7293034; omega)⟩, (Nat.le_of_ble_eq_true rfl)⟩ hobj rfl dL_law_978 (fun v978 M978 q978 => ?_)
  obtain ⟨x, g, rfl, hLI, hO2, hv⟩ := hres _ _ q978
  obtain ⟨fs2, hobj2⟩ := hLI.obj
  refine v_istore F dL_law_981 (Nat.le_of_ble_eq_true rfl) (ok2_d rfl) ?_
  refine v_aload_n F dL_law_983 rfl rfl ?_
  refine v_callV F 0 [] rfl rfl rfl (hLI.thrown) gL_law_X5_thrown rfl hd_X5_thrown ⟨⟨rfl, rfl⟩, ⟨(Nat.le_of_ble_eq_true rfl), (Nat.le_of_ble_eq_true rfl)⟩, ⟨(by show kc + 2 + 0 + 0 ≤ 601024; omega), (by show ks + 12 + 0 + 0 ≤ 7293034; omega)⟩, (Nat.le_of_ble_eq_true rfl)⟩ hobj2 rfl dL_law_984 (fun v984 M984 q984 => ?_)
  obtain ⟨rfl, e984⟩ := q984
  replace e984 := e984.symm
  subst e984
  refine v_iload F dL_law_987 rfl ?_
  refine v_icmp_eq_n F 994 dL_law_989 (by decide) (by omega) (by omega) (fun c989 => ?_) (fun c989 => ?_)
  · refine v_iload F dL_law_994 rfl ?_
    refine v_if_ne_n F 1011 dL_law_996 (by decide) (by omega) (fun c996 => ?_) (fun c996 => ?_)
    · refine v_goto F 1337 dL_law_1011 (by decide) ?_
      exact go _ _ _ _ hLI
    · have hv0 : g (nI 0).toNatClampNeg = x.toInt64 := hv c996
      refine v_aload_n F dL_law_999 rfl rfl ?_
      refine v_iconst (v := nI 0) F dL_law_1000 (by decide) ?_
      refine v_lald F dL_law_1001 hO2 (vp_in_nI (by decide) (by decide)) ?_
      refine v_iload F dL_law_1002 rfl ?_
      refine v_i2l F dL_law_1004 ?_
      rw [hv0]
      refine v_lcmp F dL_law_1005 ?_
      refine v_if_eq F 1011 dL_law_1006 (by decide) (fun c1006 => ?_) (fun c1006 => ?_)
      · refine v_goto F 1337 dL_law_1011 (by decide) ?_
        exact go _ _ _ _ hLI
      · exact absurd (lg_self _) c1006
  · exact absurd rfl c989
set_option maxHeartbeats 4000000 in
set_option maxRecDepth 100000 in
theorem law_faulty {ω : Om} {σ : Sg} (F : Fx ω σ cL_law 7 wsL_law RL room_1) (hN : Nc3 σ.2.2.2.2.1) {b n a y0 O : Nat} {xs : Nat → Int32} (hX : va_X b n xs σ.2.2.2.2.1 σ.2.2.2.2.1.heap) (hb : b < σ.2.2.2.2.1.heap.size) (hz : ω.2.1 = σ.2.2.2.2.1.heap.size) (hn : n ≤ 3584) {j : Nat} (hj : 7 * j + 7 ≤ n) {M : MM} {kc ks : Nat} (hkc : kc + 1 ≤ 601024) (hks : ks + 6 ≤ 7293034) {Q : State → Prop} {w5 w6 : Option Value}
    (st : Step σ.2.1 ω a y0 O yL_faulty wsL_faulty rmL_faulty 1 6 yX5_faulty wsX5_faulty rmX5_faulty (fun x => x.toInt64) [.int (xs (7 * j + 1))] M)
    (go : ∀ kk M2 w5 w6, LI ω a y0 O kk M2 → V ω σ M2 [some (.ref b), some (.ref a), some (.ref y0), some (.ref O), some (.int (nI (7 * j))), w5, w6] (kc + 1) (ks + 6) Q 1337 []) : V ω σ M [some (.ref b), some (.ref a), some (.ref y0), some (.ref O), some (.int (nI (7 * j))), w5, w6] kc ks Q 1014 [] := by
  obtain ⟨PQ1, hH, hgo⟩ := st
  refine v_aload_n F dL_law_1014 rfl rfl ?_
  refine v_aload_n F dL_law_1015 rfl rfl ?_
  refine v_iload F dL_law_1016 rfl ?_
  refine v_iconst (v := nI 1) F dL_law_1018 (by decide) ?_
  refine v_iadd_n F dL_law_1019 ?_
  refine v_sld_n F hX hb hz (by omega) (by omega) dL_law_1020 ?_
  refine v_aload_n F dL_law_1021 rfl rfl ?_
  refine v_callSN F hN 3 [_, _, _] rfl rfl rfl (hH) gL_law_L_faulty rfl hd_L_faulty ⟨⟨rfl, rfl⟩, ⟨(Nat.le_of_ble_eq_true rfl), (Nat.le_of_ble_eq_true rfl)⟩, ⟨(by show kc + 1 ≤ 601024; omega), (by show ks + 6 ≤ 7293034; omega)⟩, (Nat.le_of_ble_eq_true rfl)⟩ dL_law_1022 (fun v1022 M1022 q1022 => ?_)
  obtain ⟨kk, PQ2, fs, hk4, rfl, hobj, hMo, hres⟩ := hgo _ _ q1022
  refine v_istore F dL_law_1025 (Nat.le_of_ble_eq_true rfl) (ok2_d rfl) ?_
  refine v_aload_n F dL_law_1027 rfl rfl ?_
  refine v_aload_n F dL_law_1028 rfl rfl ?_
  refine v_iload F dL_law_1029 rfl ?_
  refine v_iconst (v := nI 1) F dL_law_1031 (by decide) ?_
  refine v_iadd_n F dL_law_1032 ?_
  refine v_sld_n F hX hb hz (by omega) (by omega) dL_law_1033 ?_
  refine v_callV F 1 [_] rfl rfl rfl (hMo) gL_law_X5_faulty rfl hd_X5_faulty ⟨⟨rfl, rfl⟩, ⟨(Nat.le_of_ble_eq_true rfl), (Nat.le_of_ble_eq_true rfl)⟩, ⟨(by show kc + 1 + 0 ≤ 601024; omega), (by show ks + 6 + 0 ≤ 7293034; omega)⟩, (Nat.le_of_ble_eq_true rfl)⟩ hobj rfl dL_law_1034 (fun v1034 M1034 q1034 => ?_)
  obtain ⟨x, g, rfl, hLI, hO2, hv⟩ := hres _ _ q1034
  obtain ⟨fs2, hobj2⟩ := hLI.obj
  refine v_istore F dL_law_1037 (Nat.le_of_ble_eq_true rfl) (ok2_d rfl) ?_
  refine v_aload_n F dL_law_1039 rfl rfl ?_
  refine v_callV F 0 [] rfl rfl rfl (hLI.thrown) gL_law_X5_thrown rfl hd_X5_thrown ⟨⟨rfl, rfl⟩, ⟨(Nat.le_of_ble_eq_true rfl), (Nat.le_of_ble_eq_true rfl)⟩, ⟨(by show kc + 1 + 0 + 0 ≤ 601024; omega), (by show ks + 6 + 0 + 0 ≤ 7293034; omega)⟩, (Nat.le_of_ble_eq_true rfl)⟩ hobj2 rfl dL_law_1040 (fun v1040 M1040 q1040 => ?_)
  obtain ⟨rfl, e1040⟩ := q1040
  replace e1040 := e1040.symm
  subst e1040
  refine v_iload F dL_law_1043 rfl ?_
  refine v_icmp_eq_n F 1050 dL_law_1045 (by decide) (by omega) (by omega) (fun c1045 => ?_) (fun c1045 => ?_)
  · refine v_iload F dL_law_1050 rfl ?_
    refine v_if_ne_n F 1067 dL_law_1052 (by decide) (by omega) (fun c1052 => ?_) (fun c1052 => ?_)
    · refine v_goto F 1337 dL_law_1067 (by decide) ?_
      exact go _ _ _ _ hLI
    · have hv0 : g (nI 0).toNatClampNeg = x.toInt64 := hv c1052
      refine v_aload_n F dL_law_1055 rfl rfl ?_
      refine v_iconst (v := nI 0) F dL_law_1056 (by decide) ?_
      refine v_lald F dL_law_1057 hO2 (vp_in_nI (by decide) (by decide)) ?_
      refine v_iload F dL_law_1058 rfl ?_
      refine v_i2l F dL_law_1060 ?_
      rw [hv0]
      refine v_lcmp F dL_law_1061 ?_
      refine v_if_eq F 1067 dL_law_1062 (by decide) (fun c1062 => ?_) (fun c1062 => ?_)
      · refine v_goto F 1337 dL_law_1067 (by decide) ?_
        exact go _ _ _ _ hLI
      · exact absurd (lg_self _) c1062
  · exact absurd rfl c1045
set_option maxHeartbeats 4000000 in
set_option maxRecDepth 100000 in
theorem law_approve {ω : Om} {σ : Sg} (F : Fx ω σ cL_law 7 wsL_law RL room_1) (hN : Nc3 σ.2.2.2.2.1) {b n a y0 O : Nat} {xs : Nat → Int32} (hX : va_X b n xs σ.2.2.2.2.1 σ.2.2.2.2.1.heap) (hb : b < σ.2.2.2.2.1.heap.size) (hz : ω.2.1 = σ.2.2.2.2.1.heap.size) (hn : n ≤ 3584) {j : Nat} (hj : 7 * j + 7 ≤ n) {M : MM} {kc ks : Nat} (hkc : kc + 3 ≤ 601024) (hks : ks + 15 ≤ 7293034) {Q : State → Prop} {w5 w6 : Option Value}
    (st : Step σ.2.1 ω a y0 O yL_approve wsL_approve rmL_approve 3 15 yX5_approve wsX5_approve rmX5_approve (fun x => x.toInt64) [.int (xs (7 * j + 1)), .int (xs (7 * j + 2))] M)
    (go : ∀ kk M2 w5 w6, LI ω a y0 O kk M2 → V ω σ M2 [some (.ref b), some (.ref a), some (.ref y0), some (.ref O), some (.int (nI (7 * j))), w5, w6] (kc + 3) (ks + 15) Q 1337 []) : V ω σ M [some (.ref b), some (.ref a), some (.ref y0), some (.ref O), some (.int (nI (7 * j))), w5, w6] kc ks Q 1070 [] := by
  obtain ⟨PQ1, hH, hgo⟩ := st
  refine v_aload_n F dL_law_1070 rfl rfl ?_
  refine v_aload_n F dL_law_1071 rfl rfl ?_
  refine v_iload F dL_law_1072 rfl ?_
  refine v_iconst (v := nI 1) F dL_law_1074 (by decide) ?_
  refine v_iadd_n F dL_law_1075 ?_
  refine v_sld_n F hX hb hz (by omega) (by omega) dL_law_1076 ?_
  refine v_aload_n F dL_law_1077 rfl rfl ?_
  refine v_iload F dL_law_1078 rfl ?_
  refine v_iconst (v := nI 2) F dL_law_1080 (by decide) ?_
  refine v_iadd_n F dL_law_1081 ?_
  refine v_sld_n F hX hb hz (by omega) (by omega) dL_law_1082 ?_
  refine v_aload_n F dL_law_1083 rfl rfl ?_
  refine v_callSN F hN 4 [_, _, _, _] rfl rfl rfl (hH) gL_law_L_approve rfl hd_L_approve ⟨⟨rfl, rfl⟩, ⟨(Nat.le_of_ble_eq_true rfl), (Nat.le_of_ble_eq_true rfl)⟩, ⟨(by show kc + 3 ≤ 601024; omega), (by show ks + 15 ≤ 7293034; omega)⟩, (Nat.le_of_ble_eq_true rfl)⟩ dL_law_1084 (fun v1084 M1084 q1084 => ?_)
  obtain ⟨kk, PQ2, fs, hk4, rfl, hobj, hMo, hres⟩ := hgo _ _ q1084
  refine v_istore F dL_law_1087 (Nat.le_of_ble_eq_true rfl) (ok2_d rfl) ?_
  refine v_aload_n F dL_law_1089 rfl rfl ?_
  refine v_aload_n F dL_law_1090 rfl rfl ?_
  refine v_iload F dL_law_1091 rfl ?_
  refine v_iconst (v := nI 1) F dL_law_1093 (by decide) ?_
  refine v_iadd_n F dL_law_1094 ?_
  refine v_sld_n F hX hb hz (by omega) (by omega) dL_law_1095 ?_
  refine v_aload_n F dL_law_1096 rfl rfl ?_
  refine v_iload F dL_law_1097 rfl ?_
  refine v_iconst (v := nI 2) F dL_law_1099 (by decide) ?_
  refine v_iadd_n F dL_law_1100 ?_
  refine v_sld_n F hX hb hz (by omega) (by omega) dL_law_1101 ?_
  refine v_callV F 2 [_, _] rfl rfl rfl (hMo) gL_law_X5_approve rfl hd_X5_approve ⟨⟨rfl, rfl⟩, ⟨(Nat.le_of_ble_eq_true rfl), (Nat.le_of_ble_eq_true rfl)⟩, ⟨(by show kc + 3 + 0 ≤ 601024; omega), (by show ks + 15 + 0 ≤ 7293034; omega)⟩, (Nat.le_of_ble_eq_true rfl)⟩ hobj rfl dL_law_1102 (fun v1102 M1102 q1102 => ?_)
  obtain ⟨x, g, rfl, hLI, hO2, hv⟩ := hres _ _ q1102
  obtain ⟨fs2, hobj2⟩ := hLI.obj
  refine v_istore F dL_law_1105 (Nat.le_of_ble_eq_true rfl) (ok2_d rfl) ?_
  refine v_aload_n F dL_law_1107 rfl rfl ?_
  refine v_callV F 0 [] rfl rfl rfl (hLI.thrown) gL_law_X5_thrown rfl hd_X5_thrown ⟨⟨rfl, rfl⟩, ⟨(Nat.le_of_ble_eq_true rfl), (Nat.le_of_ble_eq_true rfl)⟩, ⟨(by show kc + 3 + 0 + 0 ≤ 601024; omega), (by show ks + 15 + 0 + 0 ≤ 7293034; omega)⟩, (Nat.le_of_ble_eq_true rfl)⟩ hobj2 rfl dL_law_1108 (fun v1108 M1108 q1108 => ?_)
  obtain ⟨rfl, e1108⟩ := q1108
  replace e1108 := e1108.symm
  subst e1108
  refine v_iload F dL_law_1111 rfl ?_
  refine v_icmp_eq_n F 1118 dL_law_1113 (by decide) (by omega) (by omega) (fun c1113 => ?_) (fun c1113 => ?_)
  · refine v_iload F dL_law_1118 rfl ?_
    refine v_if_ne_n F 1135 dL_law_1120 (by decide) (by omega) (fun c1120 => ?_) (fun c1120 => ?_)
    · refine v_goto F 1337 dL_law_1135 (by decide) ?_
      exact go _ _ _ _ hLI
    · have hv0 : g (nI 0).toNatClampNeg = x.toInt64 := hv c1120
      refine v_aload_n F dL_law_1123 rfl rfl ?_
      refine v_iconst (v := nI 0) F dL_law_1124 (by decide) ?_
      refine v_lald F dL_law_1125 hO2 (vp_in_nI (by decide) (by decide)) ?_
      refine v_iload F dL_law_1126 rfl ?_
      refine v_i2l F dL_law_1128 ?_
      rw [hv0]
      refine v_lcmp F dL_law_1129 ?_
      refine v_if_eq F 1135 dL_law_1130 (by decide) (fun c1130 => ?_) (fun c1130 => ?_)
      · refine v_goto F 1337 dL_law_1135 (by decide) ?_
        exact go _ _ _ _ hLI
      · exact absurd (lg_self _) c1130
  · exact absurd rfl c1113
set_option maxHeartbeats 4000000 in
set_option maxRecDepth 100000 in
theorem law_stands {ω : Om} {σ : Sg} (F : Fx ω σ cL_law 7 wsL_law RL room_1) (hN : Nc3 σ.2.2.2.2.1) {b n a y0 O : Nat} {xs : Nat → Int32} (hX : va_X b n xs σ.2.2.2.2.1 σ.2.2.2.2.1.heap) (hb : b < σ.2.2.2.2.1.heap.size) (hz : ω.2.1 = σ.2.2.2.2.1.heap.size) (hn : n ≤ 3584) {j : Nat} (hj : 7 * j + 7 ≤ n) {M : MM} {kc ks : Nat} (hkc : kc + 1 ≤ 601024) (hks : ks + 6 ≤ 7293034) {Q : State → Prop} {w5 w6 : Option Value}
    (st : Step σ.2.1 ω a y0 O yL_stands wsL_stands rmL_stands 1 6 yX5_stands wsX5_stands rmX5_stands (fun x => if x = 0 then 0 else 1) [.int (xs (7 * j + 1))] M)
    (go : ∀ kk M2 w5 w6, LI ω a y0 O kk M2 → V ω σ M2 [some (.ref b), some (.ref a), some (.ref y0), some (.ref O), some (.int (nI (7 * j))), w5, w6] (kc + 1) (ks + 6) Q 1337 []) : V ω σ M [some (.ref b), some (.ref a), some (.ref y0), some (.ref O), some (.int (nI (7 * j))), w5, w6] kc ks Q 1138 [] := by
  obtain ⟨PQ1, hH, hgo⟩ := st
  refine v_aload_n F dL_law_1138 rfl rfl ?_
  refine v_aload_n F dL_law_1139 rfl rfl ?_
  refine v_iload F dL_law_1140 rfl ?_
  refine v_iconst (v := nI 1) F dL_law_1142 (by decide) ?_
  refine v_iadd_n F dL_law_1143 ?_
  refine v_sld_n F hX hb hz (by omega) (by omega) dL_law_1144 ?_
  refine v_aload_n F dL_law_1145 rfl rfl ?_
  refine v_callSN F hN 3 [_, _, _] rfl rfl rfl (hH) gL_law_L_stands rfl hd_L_stands ⟨⟨rfl, rfl⟩, ⟨(Nat.le_of_ble_eq_true rfl), (Nat.le_of_ble_eq_true rfl)⟩, ⟨(by show kc + 1 ≤ 601024; omega), (by show ks + 6 ≤ 7293034; omega)⟩, (Nat.le_of_ble_eq_true rfl)⟩ dL_law_1146 (fun v1146 M1146 q1146 => ?_)
  obtain ⟨kk, PQ2, fs, hk4, rfl, hobj, hMo, hres⟩ := hgo _ _ q1146
  refine v_istore F dL_law_1149 (Nat.le_of_ble_eq_true rfl) (ok2_d rfl) ?_
  refine v_aload_n F dL_law_1151 rfl rfl ?_
  refine v_aload_n F dL_law_1152 rfl rfl ?_
  refine v_iload F dL_law_1153 rfl ?_
  refine v_iconst (v := nI 1) F dL_law_1155 (by decide) ?_
  refine v_iadd_n F dL_law_1156 ?_
  refine v_sld_n F hX hb hz (by omega) (by omega) dL_law_1157 ?_
  refine v_callV F 1 [_] rfl rfl rfl (hMo) gL_law_X5_stands rfl hd_X5_stands ⟨⟨rfl, rfl⟩, ⟨(Nat.le_of_ble_eq_true rfl), (Nat.le_of_ble_eq_true rfl)⟩, ⟨(by show kc + 1 + 0 ≤ 601024; omega), (by show ks + 6 + 0 ≤ 7293034; omega)⟩, (Nat.le_of_ble_eq_true rfl)⟩ hobj rfl dL_law_1158 (fun v1158 M1158 q1158 => ?_)
  obtain ⟨x, g, rfl, hLI, hO2, hv⟩ := hres _ _ q1158
  obtain ⟨fs2, hobj2⟩ := hLI.obj
  refine v_istore F dL_law_1161 (Nat.le_of_ble_eq_true rfl) (ok2_d rfl) ?_
  refine v_aload_n F dL_law_1163 rfl rfl ?_
  refine v_callV F 0 [] rfl rfl rfl (hLI.thrown) gL_law_X5_thrown rfl hd_X5_thrown ⟨⟨rfl, rfl⟩, ⟨(Nat.le_of_ble_eq_true rfl), (Nat.le_of_ble_eq_true rfl)⟩, ⟨(by show kc + 1 + 0 + 0 ≤ 601024; omega), (by show ks + 6 + 0 + 0 ≤ 7293034; omega)⟩, (Nat.le_of_ble_eq_true rfl)⟩ hobj2 rfl dL_law_1164 (fun v1164 M1164 q1164 => ?_)
  obtain ⟨rfl, e1164⟩ := q1164
  replace e1164 := e1164.symm
  subst e1164
  refine v_iload F dL_law_1167 rfl ?_
  refine v_icmp_eq_n F 1174 dL_law_1169 (by decide) (by omega) (by omega) (fun c1169 => ?_) (fun c1169 => ?_)
  · refine v_iload F dL_law_1174 rfl ?_
    refine v_if_ne_n F 1198 dL_law_1176 (by decide) (by omega) (fun c1176 => ?_) (fun c1176 => ?_)
    · refine v_goto F 1337 dL_law_1198 (by decide) ?_
      exact go _ _ _ _ hLI
    · have hv0 : g (nI 0).toNatClampNeg = (if x = 0 then 0 else 1) := hv c1176
      refine v_aload_n F dL_law_1179 rfl rfl ?_
      refine v_iconst (v := nI 0) F dL_law_1180 (by decide) ?_
      refine v_lald F dL_law_1181 hO2 (vp_in_nI (by decide) (by decide)) ?_
      refine v_iload F dL_law_1182 rfl ?_
      refine v_if_eq F 1191 dL_law_1184 (by decide) (fun c1184 => ?_) (fun c1184 => ?_)
      · refine v_lconst F dL_law_1191 rfl ?_
        rw [hv0]
        first | rw [if_pos c1184] | rw [if_neg c1184]
        refine v_lcmp F dL_law_1192 ?_
        refine v_if_eq F 1198 dL_law_1193 (by decide) (fun c1193 => ?_) (fun c1193 => ?_)
        · refine v_goto F 1337 dL_law_1198 (by decide) ?_
          exact go _ _ _ _ hLI
        · exact absurd (lg_self _) c1193
      · refine v_lconst F dL_law_1187 rfl ?_
        refine v_goto F 1192 dL_law_1188 (by decide) ?_
        rw [hv0]
        first | rw [if_pos c1184] | rw [if_neg c1184]
        refine v_lcmp F dL_law_1192 ?_
        refine v_if_eq F 1198 dL_law_1193 (by decide) (fun c1193 => ?_) (fun c1193 => ?_)
        · refine v_goto F 1337 dL_law_1198 (by decide) ?_
          exact go _ _ _ _ hLI
        · exact absurd (lg_self _) c1193
  · exact absurd rfl c1169
set_option maxHeartbeats 4000000 in
set_option maxRecDepth 100000 in
theorem law_approvers {ω : Om} {σ : Sg} (F : Fx ω σ cL_law 7 wsL_law RL room_1) (hN : Nc3 σ.2.2.2.2.1) {b n a y0 O : Nat} {xs : Nat → Int32} (hX : va_X b n xs σ.2.2.2.2.1 σ.2.2.2.2.1.heap) (hb : b < σ.2.2.2.2.1.heap.size) (hz : ω.2.1 = σ.2.2.2.2.1.heap.size) (hn : n ≤ 3584) {j : Nat} (hj : 7 * j + 7 ≤ n) {M : MM} {kc ks : Nat} (hkc : kc + 1 ≤ 601024) (hks : ks + 6 ≤ 7293034) {Q : State → Prop} {w5 w6 : Option Value}
    (st : Step σ.2.1 ω a y0 O yL_approvers wsL_approvers rmL_approvers 1 6 yX5_approvers wsX5_approvers rmX5_approvers (fun x => x.toInt64) [.int (xs (7 * j + 1))] M)
    (go : ∀ kk M2 w5 w6, LI ω a y0 O kk M2 → V ω σ M2 [some (.ref b), some (.ref a), some (.ref y0), some (.ref O), some (.int (nI (7 * j))), w5, w6] (kc + 1) (ks + 6) Q 1337 []) : V ω σ M [some (.ref b), some (.ref a), some (.ref y0), some (.ref O), some (.int (nI (7 * j))), w5, w6] kc ks Q 1201 [] := by
  obtain ⟨PQ1, hH, hgo⟩ := st
  refine v_aload_n F dL_law_1201 rfl rfl ?_
  refine v_aload_n F dL_law_1202 rfl rfl ?_
  refine v_iload F dL_law_1203 rfl ?_
  refine v_iconst (v := nI 1) F dL_law_1205 (by decide) ?_
  refine v_iadd_n F dL_law_1206 ?_
  refine v_sld_n F hX hb hz (by omega) (by omega) dL_law_1207 ?_
  refine v_aload_n F dL_law_1208 rfl rfl ?_
  refine v_callSN F hN 3 [_, _, _] rfl rfl rfl (hH) gL_law_L_approvers rfl hd_L_approvers ⟨⟨rfl, rfl⟩, ⟨(Nat.le_of_ble_eq_true rfl), (Nat.le_of_ble_eq_true rfl)⟩, ⟨(by show kc + 1 ≤ 601024; omega), (by show ks + 6 ≤ 7293034; omega)⟩, (Nat.le_of_ble_eq_true rfl)⟩ dL_law_1209 (fun v1209 M1209 q1209 => ?_)
  obtain ⟨kk, PQ2, fs, hk4, rfl, hobj, hMo, hres⟩ := hgo _ _ q1209
  refine v_istore F dL_law_1212 (Nat.le_of_ble_eq_true rfl) (ok2_d rfl) ?_
  refine v_aload_n F dL_law_1214 rfl rfl ?_
  refine v_aload_n F dL_law_1215 rfl rfl ?_
  refine v_iload F dL_law_1216 rfl ?_
  refine v_iconst (v := nI 1) F dL_law_1218 (by decide) ?_
  refine v_iadd_n F dL_law_1219 ?_
  refine v_sld_n F hX hb hz (by omega) (by omega) dL_law_1220 ?_
  refine v_callV F 1 [_] rfl rfl rfl (hMo) gL_law_X5_approvers rfl hd_X5_approvers ⟨⟨rfl, rfl⟩, ⟨(Nat.le_of_ble_eq_true rfl), (Nat.le_of_ble_eq_true rfl)⟩, ⟨(by show kc + 1 + 0 ≤ 601024; omega), (by show ks + 6 + 0 ≤ 7293034; omega)⟩, (Nat.le_of_ble_eq_true rfl)⟩ hobj rfl dL_law_1221 (fun v1221 M1221 q1221 => ?_)
  obtain ⟨x, g, rfl, hLI, hO2, hv⟩ := hres _ _ q1221
  obtain ⟨fs2, hobj2⟩ := hLI.obj
  refine v_istore F dL_law_1224 (Nat.le_of_ble_eq_true rfl) (ok2_d rfl) ?_
  refine v_aload_n F dL_law_1226 rfl rfl ?_
  refine v_callV F 0 [] rfl rfl rfl (hLI.thrown) gL_law_X5_thrown rfl hd_X5_thrown ⟨⟨rfl, rfl⟩, ⟨(Nat.le_of_ble_eq_true rfl), (Nat.le_of_ble_eq_true rfl)⟩, ⟨(by show kc + 1 + 0 + 0 ≤ 601024; omega), (by show ks + 6 + 0 + 0 ≤ 7293034; omega)⟩, (Nat.le_of_ble_eq_true rfl)⟩ hobj2 rfl dL_law_1227 (fun v1227 M1227 q1227 => ?_)
  obtain ⟨rfl, e1227⟩ := q1227
  replace e1227 := e1227.symm
  subst e1227
  refine v_iload F dL_law_1230 rfl ?_
  refine v_icmp_eq_n F 1237 dL_law_1232 (by decide) (by omega) (by omega) (fun c1232 => ?_) (fun c1232 => ?_)
  · refine v_iload F dL_law_1237 rfl ?_
    refine v_if_ne_n F 1254 dL_law_1239 (by decide) (by omega) (fun c1239 => ?_) (fun c1239 => ?_)
    · refine v_goto F 1337 dL_law_1254 (by decide) ?_
      exact go _ _ _ _ hLI
    · have hv0 : g (nI 0).toNatClampNeg = x.toInt64 := hv c1239
      refine v_aload_n F dL_law_1242 rfl rfl ?_
      refine v_iconst (v := nI 0) F dL_law_1243 (by decide) ?_
      refine v_lald F dL_law_1244 hO2 (vp_in_nI (by decide) (by decide)) ?_
      refine v_iload F dL_law_1245 rfl ?_
      refine v_i2l F dL_law_1247 ?_
      rw [hv0]
      refine v_lcmp F dL_law_1248 ?_
      refine v_if_eq F 1254 dL_law_1249 (by decide) (fun c1249 => ?_) (fun c1249 => ?_)
      · refine v_goto F 1337 dL_law_1254 (by decide) ?_
        exact go _ _ _ _ hLI
      · exact absurd (lg_self _) c1249
  · exact absurd rfl c1232
set_option maxHeartbeats 4000000 in
set_option maxRecDepth 100000 in
theorem law_breaks {ω : Om} {σ : Sg} (F : Fx ω σ cL_law 7 wsL_law RL room_1) (hN : Nc3 σ.2.2.2.2.1) {b n a y0 O : Nat} {xs : Nat → Int32} (hX : va_X b n xs σ.2.2.2.2.1 σ.2.2.2.2.1.heap) (hb : b < σ.2.2.2.2.1.heap.size) (hz : ω.2.1 = σ.2.2.2.2.1.heap.size) (hn : n ≤ 3584) {j : Nat} (hj : 7 * j + 7 ≤ n) {M : MM} {kc ks : Nat} (hkc : kc + 3 ≤ 601024) (hks : ks + 18 ≤ 7293034) {Q : State → Prop} {w5 w6 : Option Value}
    (st : Step σ.2.1 ω a y0 O yL_breaks wsL_breaks rmL_breaks 3 18 yX5_breaks wsX5_breaks rmX5_breaks (fun x => x.toInt64) [.int (xs (7 * j + 1)), .int (xs (7 * j + 2)), .int (xs (7 * j + 3))] M)
    (go : ∀ kk M2 w5 w6, LI ω a y0 O kk M2 → V ω σ M2 [some (.ref b), some (.ref a), some (.ref y0), some (.ref O), some (.int (nI (7 * j))), w5, w6] (kc + 3) (ks + 18) Q 1337 []) : V ω σ M [some (.ref b), some (.ref a), some (.ref y0), some (.ref O), some (.int (nI (7 * j))), w5, w6] kc ks Q 1257 [] := by
  obtain ⟨PQ1, hH, hgo⟩ := st
  refine v_aload_n F dL_law_1257 rfl rfl ?_
  refine v_aload_n F dL_law_1258 rfl rfl ?_
  refine v_iload F dL_law_1259 rfl ?_
  refine v_iconst (v := nI 1) F dL_law_1261 (by decide) ?_
  refine v_iadd_n F dL_law_1262 ?_
  refine v_sld_n F hX hb hz (by omega) (by omega) dL_law_1263 ?_
  refine v_aload_n F dL_law_1264 rfl rfl ?_
  refine v_iload F dL_law_1265 rfl ?_
  refine v_iconst (v := nI 2) F dL_law_1267 (by decide) ?_
  refine v_iadd_n F dL_law_1268 ?_
  refine v_sld_n F hX hb hz (by omega) (by omega) dL_law_1269 ?_
  refine v_aload_n F dL_law_1270 rfl rfl ?_
  refine v_iload F dL_law_1271 rfl ?_
  refine v_iconst (v := nI 3) F dL_law_1273 (by decide) ?_
  refine v_iadd_n F dL_law_1274 ?_
  refine v_sld_n F hX hb hz (by omega) (by omega) dL_law_1275 ?_
  refine v_aload_n F dL_law_1276 rfl rfl ?_
  refine v_callSN F hN 5 [_, _, _, _, _] rfl rfl rfl (hH) gL_law_L_breaks rfl hd_L_breaks ⟨⟨rfl, rfl⟩, ⟨(Nat.le_of_ble_eq_true rfl), (Nat.le_of_ble_eq_true rfl)⟩, ⟨(by show kc + 3 ≤ 601024; omega), (by show ks + 18 ≤ 7293034; omega)⟩, (Nat.le_of_ble_eq_true rfl)⟩ dL_law_1277 (fun v1277 M1277 q1277 => ?_)
  obtain ⟨kk, PQ2, fs, hk4, rfl, hobj, hMo, hres⟩ := hgo _ _ q1277
  refine v_istore F dL_law_1280 (Nat.le_of_ble_eq_true rfl) (ok2_d rfl) ?_
  refine v_aload_n F dL_law_1282 rfl rfl ?_
  refine v_aload_n F dL_law_1283 rfl rfl ?_
  refine v_iload F dL_law_1284 rfl ?_
  refine v_iconst (v := nI 1) F dL_law_1286 (by decide) ?_
  refine v_iadd_n F dL_law_1287 ?_
  refine v_sld_n F hX hb hz (by omega) (by omega) dL_law_1288 ?_
  refine v_aload_n F dL_law_1289 rfl rfl ?_
  refine v_iload F dL_law_1290 rfl ?_
  refine v_iconst (v := nI 2) F dL_law_1292 (by decide) ?_
  refine v_iadd_n F dL_law_1293 ?_
  refine v_sld_n F hX hb hz (by omega) (by omega) dL_law_1294 ?_
  refine v_aload_n F dL_law_1295 rfl rfl ?_
  refine v_iload F dL_law_1296 rfl ?_
  refine v_iconst (v := nI 3) F dL_law_1298 (by decide) ?_
  refine v_iadd_n F dL_law_1299 ?_
  refine v_sld_n F hX hb hz (by omega) (by omega) dL_law_1300 ?_
  refine v_callV F 3 [_, _, _] rfl rfl rfl (hMo) gL_law_X5_breaks rfl hd_X5_breaks ⟨⟨rfl, rfl⟩, ⟨(Nat.le_of_ble_eq_true rfl), (Nat.le_of_ble_eq_true rfl)⟩, ⟨(by show kc + 3 + 0 ≤ 601024; omega), (by show ks + 18 + 0 ≤ 7293034; omega)⟩, (Nat.le_of_ble_eq_true rfl)⟩ hobj rfl dL_law_1301 (fun v1301 M1301 q1301 => ?_)
  obtain ⟨x, g, rfl, hLI, hO2, hv⟩ := hres _ _ q1301
  obtain ⟨fs2, hobj2⟩ := hLI.obj
  refine v_istore F dL_law_1304 (Nat.le_of_ble_eq_true rfl) (ok2_d rfl) ?_
  refine v_aload_n F dL_law_1306 rfl rfl ?_
  refine v_callV F 0 [] rfl rfl rfl (hLI.thrown) gL_law_X5_thrown rfl hd_X5_thrown ⟨⟨rfl, rfl⟩, ⟨(Nat.le_of_ble_eq_true rfl), (Nat.le_of_ble_eq_true rfl)⟩, ⟨(by show kc + 3 + 0 + 0 ≤ 601024; omega), (by show ks + 18 + 0 + 0 ≤ 7293034; omega)⟩, (Nat.le_of_ble_eq_true rfl)⟩ hobj2 rfl dL_law_1307 (fun v1307 M1307 q1307 => ?_)
  obtain ⟨rfl, e1307⟩ := q1307
  replace e1307 := e1307.symm
  subst e1307
  refine v_iload F dL_law_1310 rfl ?_
  refine v_icmp_eq_n F 1317 dL_law_1312 (by decide) (by omega) (by omega) (fun c1312 => ?_) (fun c1312 => ?_)
  · refine v_iload F dL_law_1317 rfl ?_
    refine v_if_ne_n F 1334 dL_law_1319 (by decide) (by omega) (fun c1319 => ?_) (fun c1319 => ?_)
    · refine v_goto F 1337 dL_law_1334 (by decide) ?_
      exact go _ _ _ _ hLI
    · have hv0 : g (nI 0).toNatClampNeg = x.toInt64 := hv c1319
      refine v_aload_n F dL_law_1322 rfl rfl ?_
      refine v_iconst (v := nI 0) F dL_law_1323 (by decide) ?_
      refine v_lald F dL_law_1324 hO2 (vp_in_nI (by decide) (by decide)) ?_
      refine v_iload F dL_law_1325 rfl ?_
      refine v_i2l F dL_law_1327 ?_
      rw [hv0]
      refine v_lcmp F dL_law_1328 ?_
      refine v_if_eq F 1334 dL_law_1329 (by decide) (fun c1329 => ?_) (fun c1329 => ?_)
      · refine v_goto F 1337 dL_law_1334 (by decide) ?_
        exact go _ _ _ _ hLI
      · exact absurd (lg_self _) c1329
  · exact absurd rfl c1312
