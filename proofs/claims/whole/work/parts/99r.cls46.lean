/-! the law, call for call (1) -/
theorem cmp_self (x : Int64) : lg_cmp x x = 0 := by unfold lg_cmp; simp
set_option maxHeartbeats 1000000 in
set_option maxRecDepth 20000 in
theorem arm_fence {X : zX} {B : zB} {b L i : Nat} {xs : Nat → Int32} {M : zM} {N : zN} (o : zOk X B RL cL_law 4 61) (hB : znn B = 95) (hX : zScr X B b L xs) (hL : L ≤ 3072) (hi : i + 6 ≤ L) (h : zS M N) (kk : ∀ (M1 : zM) (N1 : zN), zS M1 N1 → zW X B (zg B M1 N1) 1489 [(3, .int (nI i)), (2, zref B 82), (1, zref B 0), (0, .ref b)] []) : zW X B (zg B M N) 208 [(3, .int (nI i)), (2, zref B 82), (1, zref B 0), (0, .ref b)] [] := by
  refine z_aload_n (j := 2) o dL_law_208 rfl ?_
  refine z_aload_n (j := 3) o dL_law_209 rfl ?_
  refine z_iload_n (j := 0) o dL_law_210 rfl ?_
  refine z_iconst (v := 1) o dL_law_211 (by decide) ?_
  refine z_iadd o dL_law_212 ?_
  refine zo_rw (y := nI (i + 1)) (zn_add (rfl) (rfl)) ?_
  refine z_scd (j := i + 1) o hX dL_law_213 (by omega) hL ?_
  refine z_aload_n (j := 3) o dL_law_214 rfl ?_
  refine z_iload_n (j := 0) o dL_law_215 rfl ?_
  refine z_iconst (v := 2) o dL_law_216 (by decide) ?_
  refine z_iadd o dL_law_217 ?_
  refine zo_rw (y := nI (i + 2)) (zn_add (rfl) (rfl)) ?_
  refine z_scd (j := i + 2) o hX dL_law_218 (by omega) hL ?_
  refine z_callVi (As := [.int (xs (i + 1)), .int (xs (i + 2))]) (n := 2) (st := []) o dL_law_219 (k_fence hB M N M (xs (i + 1)) (xs (i + 2)) h.1 h.2.1) zc_L_13 (by decide) (i := 0) (by rw [hB]; exact zsh_lt rfl (by decide)) (zg_o rfl (by decide)) rfl rfl rfl (Nat.le_of_ble_eq_true rfl) (fun r1 g2 p3 => ?_)
  obtain ⟨M1, N1, rfl, e1, hr, hh⟩ := p3
  refine z_aload_n (j := 1) o dL_law_222 rfl ?_
  refine z_aload_n (j := 3) o dL_law_223 rfl ?_
  refine z_iload_n (j := 0) o dL_law_224 rfl ?_
  refine z_iconst (v := 1) o dL_law_225 (by decide) ?_
  refine z_iadd o dL_law_226 ?_
  refine zo_rw (y := nI (i + 1)) (zn_add (rfl) (rfl)) ?_
  refine z_scd (j := i + 1) o hX dL_law_227 (by omega) hL ?_
  refine z_aload_n (j := 3) o dL_law_228 rfl ?_
  refine z_iload_n (j := 0) o dL_law_229 rfl ?_
  refine z_iconst (v := 2) o dL_law_230 (by decide) ?_
  refine z_iadd o dL_law_231 ?_
  refine zo_rw (y := nI (i + 2)) (zn_add (rfl) (rfl)) ?_
  refine z_scd (j := i + 2) o hX dL_law_232 (by omega) hL ?_
  refine z_callVi (As := [.int (xs (i + 1)), .int (xs (i + 2))]) (n := 2) (st := [.int r1]) o dL_law_233 (c_X8_fence hB M1 N1 (xs (i + 1)) (xs (i + 2)) (by rw [hh 83 (by decide)]; exact h.2.1)) zc_L_17 (by decide) (i := 82) (by rw [hB]; exact zsh_lt rfl (by decide)) (zg_o rfl (by decide)) rfl rfl rfl (Nat.le_of_ble_eq_true rfl) (fun r4 g5 p6 => ?_)
  obtain ⟨rfl, e2⟩ := p6
  refine z_icmpeq (tgt := 1489) o dL_law_236 (by decide) (fun c7 => ?_) (fun c7 => ?_)
  · exact kk _ _ (tk_fence (xs (i + 1)) (xs (i + 2)) h hh hr zQ.rf)
  · exact absurd (e1.trans ((congrArg Prod.fst (ek_fence hh (xs (i + 1)) (xs (i + 2)))).symm.trans e2.symm)) c7
set_option maxHeartbeats 1000000 in
set_option maxRecDepth 20000 in
theorem arm_post {X : zX} {B : zB} {b L i : Nat} {xs : Nat → Int32} {M : zM} {N : zN} (o : zOk X B RL cL_law 4 61) (hB : znn B = 95) (hX : zScr X B b L xs) (hL : L ≤ 3072) (hi : i + 6 ≤ L) (h : zS M N) (kk : ∀ (M1 : zM) (N1 : zN), zS M1 N1 → zW X B (zg B M1 N1) 1489 [(3, .int (nI i)), (2, zref B 82), (1, zref B 0), (0, .ref b)] []) : zW X B (zg B M N) 241 [(3, .int (nI i)), (2, zref B 82), (1, zref B 0), (0, .ref b)] [] := by
  refine z_aload_n (j := 2) o dL_law_241 rfl ?_
  refine z_aload_n (j := 3) o dL_law_242 rfl ?_
  refine z_iload_n (j := 0) o dL_law_243 rfl ?_
  refine z_iconst (v := 1) o dL_law_244 (by decide) ?_
  refine z_iadd o dL_law_245 ?_
  refine zo_rw (y := nI (i + 1)) (zn_add (rfl) (rfl)) ?_
  refine z_scd (j := i + 1) o hX dL_law_246 (by omega) hL ?_
  refine z_aload_n (j := 3) o dL_law_247 rfl ?_
  refine z_iload_n (j := 0) o dL_law_248 rfl ?_
  refine z_iconst (v := 2) o dL_law_249 (by decide) ?_
  refine z_iadd o dL_law_250 ?_
  refine zo_rw (y := nI (i + 2)) (zn_add (rfl) (rfl)) ?_
  refine z_scd (j := i + 2) o hX dL_law_251 (by omega) hL ?_
  refine z_callVi (As := [.int (xs (i + 1)), .int (xs (i + 2))]) (n := 2) (st := []) o dL_law_252 (k_post hB M N M (xs (i + 1)) (xs (i + 2)) h.1 h.2.1) zc_L_18 (by decide) (i := 0) (by rw [hB]; exact zsh_lt rfl (by decide)) (zg_o rfl (by decide)) rfl rfl rfl (Nat.le_of_ble_eq_true rfl) (fun r1 g2 p3 => ?_)
  obtain ⟨M1, N1, rfl, e1, hr, hh⟩ := p3
  refine z_aload_n (j := 1) o dL_law_255 rfl ?_
  refine z_aload_n (j := 3) o dL_law_256 rfl ?_
  refine z_iload_n (j := 0) o dL_law_257 rfl ?_
  refine z_iconst (v := 1) o dL_law_258 (by decide) ?_
  refine z_iadd o dL_law_259 ?_
  refine zo_rw (y := nI (i + 1)) (zn_add (rfl) (rfl)) ?_
  refine z_scd (j := i + 1) o hX dL_law_260 (by omega) hL ?_
  refine z_aload_n (j := 3) o dL_law_261 rfl ?_
  refine z_iload_n (j := 0) o dL_law_262 rfl ?_
  refine z_iconst (v := 2) o dL_law_263 (by decide) ?_
  refine z_iadd o dL_law_264 ?_
  refine zo_rw (y := nI (i + 2)) (zn_add (rfl) (rfl)) ?_
  refine z_scd (j := i + 2) o hX dL_law_265 (by omega) hL ?_
  refine z_callVi (As := [.int (xs (i + 1)), .int (xs (i + 2))]) (n := 2) (st := [.int r1]) o dL_law_266 (c_X8_post hB M1 N1 (xs (i + 1)) (xs (i + 2)) (by rw [hh 83 (by decide)]; exact h.2.1)) zc_L_21 (by decide) (i := 82) (by rw [hB]; exact zsh_lt rfl (by decide)) (zg_o rfl (by decide)) rfl rfl rfl (Nat.le_of_ble_eq_true rfl) (fun r4 g5 p6 => ?_)
  obtain ⟨rfl, e2⟩ := p6
  refine z_icmpeq (tgt := 1489) o dL_law_269 (by decide) (fun c7 => ?_) (fun c7 => ?_)
  · exact kk _ _ (tk_post (xs (i + 1)) (xs (i + 2)) h hh hr zQ.rf)
  · exact absurd (e1.trans ((congrArg Prod.fst (ek_post hh (xs (i + 1)) (xs (i + 2)))).symm.trans e2.symm)) c7
set_option maxHeartbeats 1000000 in
set_option maxRecDepth 20000 in
theorem arm_fenceIs {X : zX} {B : zB} {b L i : Nat} {xs : Nat → Int32} {M : zM} {N : zN} (o : zOk X B RL cL_law 4 61) (hB : znn B = 95) (hX : zScr X B b L xs) (hL : L ≤ 3072) (hi : i + 6 ≤ L) (h : zS M N) (kk : ∀ (M1 : zM) (N1 : zN), zS M1 N1 → zW X B (zg B M1 N1) 1489 [(3, .int (nI i)), (2, zref B 82), (1, zref B 0), (0, .ref b)] []) : zW X B (zg B M N) 274 [(3, .int (nI i)), (2, zref B 82), (1, zref B 0), (0, .ref b)] [] := by
  refine z_aload_n (j := 2) o dL_law_274 rfl ?_
  refine z_aload_n (j := 3) o dL_law_275 rfl ?_
  refine z_iload_n (j := 0) o dL_law_276 rfl ?_
  refine z_iconst (v := 1) o dL_law_277 (by decide) ?_
  refine z_iadd o dL_law_278 ?_
  refine zo_rw (y := nI (i + 1)) (zn_add (rfl) (rfl)) ?_
  refine z_scd (j := i + 1) o hX dL_law_279 (by omega) hL ?_
  refine z_aload_n (j := 3) o dL_law_280 rfl ?_
  refine z_iload_n (j := 0) o dL_law_281 rfl ?_
  refine z_iconst (v := 2) o dL_law_282 (by decide) ?_
  refine z_iadd o dL_law_283 ?_
  refine zo_rw (y := nI (i + 2)) (zn_add (rfl) (rfl)) ?_
  refine z_scd (j := i + 2) o hX dL_law_284 (by omega) hL ?_
  refine z_callVi (As := [.int (xs (i + 1)), .int (xs (i + 2))]) (n := 2) (st := []) o dL_law_285 (k_fenceIs hB M N M (xs (i + 1)) (xs (i + 2)) h.1 h.2.1) zc_L_22 (by decide) (i := 0) (by rw [hB]; exact zsh_lt rfl (by decide)) (zg_o rfl (by decide)) rfl rfl rfl (Nat.le_of_ble_eq_true rfl) (fun r1 g2 p3 => ?_)
  obtain ⟨M1, N1, rfl, e1, hr, hh⟩ := p3
  refine z_aload_n (j := 1) o dL_law_288 rfl ?_
  refine z_aload_n (j := 3) o dL_law_289 rfl ?_
  refine z_iload_n (j := 0) o dL_law_290 rfl ?_
  refine z_iconst (v := 1) o dL_law_291 (by decide) ?_
  refine z_iadd o dL_law_292 ?_
  refine zo_rw (y := nI (i + 1)) (zn_add (rfl) (rfl)) ?_
  refine z_scd (j := i + 1) o hX dL_law_293 (by omega) hL ?_
  refine z_aload_n (j := 3) o dL_law_294 rfl ?_
  refine z_iload_n (j := 0) o dL_law_295 rfl ?_
  refine z_iconst (v := 2) o dL_law_296 (by decide) ?_
  refine z_iadd o dL_law_297 ?_
  refine zo_rw (y := nI (i + 2)) (zn_add (rfl) (rfl)) ?_
  refine z_scd (j := i + 2) o hX dL_law_298 (by omega) hL ?_
  refine z_callVi (As := [.int (xs (i + 1)), .int (xs (i + 2))]) (n := 2) (st := [.int r1]) o dL_law_299 (c_X8_fenceIs hB M1 N1 (xs (i + 1)) (xs (i + 2)) (by rw [hh 83 (by decide)]; exact h.2.1)) zc_L_25 (by decide) (i := 82) (by rw [hB]; exact zsh_lt rfl (by decide)) (zg_o rfl (by decide)) rfl rfl rfl (Nat.le_of_ble_eq_true rfl) (fun r4 g5 p6 => ?_)
  obtain ⟨M2, rfl, e2, hq⟩ := p6
  refine z_icmpeq (tgt := 1489) o dL_law_302 (by decide) (fun c7 => ?_) (fun c7 => ?_)
  · exact kk _ _ (tk_fenceIs (xs (i + 1)) (xs (i + 2)) h hh hr hq)
  · exact absurd (e1.trans ((congrArg Prod.fst (ek_fenceIs hh (xs (i + 1)) (xs (i + 2)))).symm.trans e2.symm)) c7
set_option maxHeartbeats 1000000 in
set_option maxRecDepth 20000 in
theorem arm_at {X : zX} {B : zB} {b L i : Nat} {xs : Nat → Int32} {M : zM} {N : zN} (o : zOk X B RL cL_law 4 61) (hB : znn B = 95) (hX : zScr X B b L xs) (hL : L ≤ 3072) (hi : i + 6 ≤ L) (h : zS M N) (kk : ∀ (M1 : zM) (N1 : zN), zS M1 N1 → zW X B (zg B M1 N1) 1489 [(3, .int (nI i)), (2, zref B 82), (1, zref B 0), (0, .ref b)] []) : zW X B (zg B M N) 307 [(3, .int (nI i)), (2, zref B 82), (1, zref B 0), (0, .ref b)] [] := by
  refine z_aload_n (j := 2) o dL_law_307 rfl ?_
  refine z_aload_n (j := 3) o dL_law_308 rfl ?_
  refine z_iload_n (j := 0) o dL_law_309 rfl ?_
  refine z_iconst (v := 1) o dL_law_310 (by decide) ?_
  refine z_iadd o dL_law_311 ?_
  refine zo_rw (y := nI (i + 1)) (zn_add (rfl) (rfl)) ?_
  refine z_scd (j := i + 1) o hX dL_law_312 (by omega) hL ?_
  refine z_aload_n (j := 3) o dL_law_313 rfl ?_
  refine z_iload_n (j := 0) o dL_law_314 rfl ?_
  refine z_iconst (v := 2) o dL_law_315 (by decide) ?_
  refine z_iadd o dL_law_316 ?_
  refine zo_rw (y := nI (i + 2)) (zn_add (rfl) (rfl)) ?_
  refine z_scd (j := i + 2) o hX dL_law_317 (by omega) hL ?_
  refine z_callVi (As := [.int (xs (i + 1)), .int (xs (i + 2))]) (n := 2) (st := []) o dL_law_318 (k_at hB M N M (xs (i + 1)) (xs (i + 2)) h.1 h.2.1) zc_L_26 (by decide) (i := 0) (by rw [hB]; exact zsh_lt rfl (by decide)) (zg_o rfl (by decide)) rfl rfl rfl (Nat.le_of_ble_eq_true rfl) (fun r1 g2 p3 => ?_)
  obtain ⟨M1, N1, rfl, e1, hr, hh⟩ := p3
  refine z_aload_n (j := 1) o dL_law_321 rfl ?_
  refine z_aload_n (j := 3) o dL_law_322 rfl ?_
  refine z_iload_n (j := 0) o dL_law_323 rfl ?_
  refine z_iconst (v := 1) o dL_law_324 (by decide) ?_
  refine z_iadd o dL_law_325 ?_
  refine zo_rw (y := nI (i + 1)) (zn_add (rfl) (rfl)) ?_
  refine z_scd (j := i + 1) o hX dL_law_326 (by omega) hL ?_
  refine z_aload_n (j := 3) o dL_law_327 rfl ?_
  refine z_iload_n (j := 0) o dL_law_328 rfl ?_
  refine z_iconst (v := 2) o dL_law_329 (by decide) ?_
  refine z_iadd o dL_law_330 ?_
  refine zo_rw (y := nI (i + 2)) (zn_add (rfl) (rfl)) ?_
  refine z_scd (j := i + 2) o hX dL_law_331 (by omega) hL ?_
  refine z_callVi (As := [.int (xs (i + 1)), .int (xs (i + 2))]) (n := 2) (st := [.int r1]) o dL_law_332 (c_X8_at hB M1 N1 (xs (i + 1)) (xs (i + 2)) (by rw [hh 83 (by decide)]; exact h.2.1)) zc_L_29 (by decide) (i := 82) (by rw [hB]; exact zsh_lt rfl (by decide)) (zg_o rfl (by decide)) rfl rfl rfl (Nat.le_of_ble_eq_true rfl) (fun r4 g5 p6 => ?_)
  obtain ⟨rfl, e2⟩ := p6
  refine z_icmpeq (tgt := 1489) o dL_law_335 (by decide) (fun c7 => ?_) (fun c7 => ?_)
  · exact kk _ _ (tk_at (xs (i + 1)) (xs (i + 2)) h hh hr zQ.rf)
  · exact absurd (e1.trans ((congrArg Prod.fst (ek_at hh (xs (i + 1)) (xs (i + 2)))).symm.trans e2.symm)) c7
set_option maxHeartbeats 1000000 in
set_option maxRecDepth 20000 in
theorem arm_heads {X : zX} {B : zB} {b L i : Nat} {xs : Nat → Int32} {M : zM} {N : zN} (o : zOk X B RL cL_law 4 61) (hB : znn B = 95) (hX : zScr X B b L xs) (hL : L ≤ 3072) (hi : i + 6 ≤ L) (h : zS M N) (kk : ∀ (M1 : zM) (N1 : zN), zS M1 N1 → zW X B (zg B M1 N1) 1489 [(3, .int (nI i)), (2, zref B 82), (1, zref B 0), (0, .ref b)] []) : zW X B (zg B M N) 340 [(3, .int (nI i)), (2, zref B 82), (1, zref B 0), (0, .ref b)] [] := by
  refine z_aload_n (j := 2) o dL_law_340 rfl ?_
  refine z_aload_n (j := 3) o dL_law_341 rfl ?_
  refine z_iload_n (j := 0) o dL_law_342 rfl ?_
  refine z_iconst (v := 1) o dL_law_343 (by decide) ?_
  refine z_iadd o dL_law_344 ?_
  refine zo_rw (y := nI (i + 1)) (zn_add (rfl) (rfl)) ?_
  refine z_scd (j := i + 1) o hX dL_law_345 (by omega) hL ?_
  refine z_aload_n (j := 3) o dL_law_346 rfl ?_
  refine z_iload_n (j := 0) o dL_law_347 rfl ?_
  refine z_iconst (v := 2) o dL_law_348 (by decide) ?_
  refine z_iadd o dL_law_349 ?_
  refine zo_rw (y := nI (i + 2)) (zn_add (rfl) (rfl)) ?_
  refine z_scd (j := i + 2) o hX dL_law_350 (by omega) hL ?_
  refine z_callVi (As := [.int (xs (i + 1)), .int (xs (i + 2))]) (n := 2) (st := []) o dL_law_351 (k_heads hB M N M (xs (i + 1)) (xs (i + 2)) h.1 h.2.1) zc_L_30 (by decide) (i := 0) (by rw [hB]; exact zsh_lt rfl (by decide)) (zg_o rfl (by decide)) rfl rfl rfl (Nat.le_of_ble_eq_true rfl) (fun r1 g2 p3 => ?_)
  obtain ⟨M1, N1, rfl, e1, hr, hh⟩ := p3
  refine z_aload_n (j := 1) o dL_law_354 rfl ?_
  refine z_aload_n (j := 3) o dL_law_355 rfl ?_
  refine z_iload_n (j := 0) o dL_law_356 rfl ?_
  refine z_iconst (v := 1) o dL_law_357 (by decide) ?_
  refine z_iadd o dL_law_358 ?_
  refine zo_rw (y := nI (i + 1)) (zn_add (rfl) (rfl)) ?_
  refine z_scd (j := i + 1) o hX dL_law_359 (by omega) hL ?_
  refine z_aload_n (j := 3) o dL_law_360 rfl ?_
  refine z_iload_n (j := 0) o dL_law_361 rfl ?_
  refine z_iconst (v := 2) o dL_law_362 (by decide) ?_
  refine z_iadd o dL_law_363 ?_
  refine zo_rw (y := nI (i + 2)) (zn_add (rfl) (rfl)) ?_
  refine z_scd (j := i + 2) o hX dL_law_364 (by omega) hL ?_
  refine z_callVi (As := [.int (xs (i + 1)), .int (xs (i + 2))]) (n := 2) (st := [.int r1]) o dL_law_365 (c_X8_heads hB M1 N1 (xs (i + 1)) (xs (i + 2)) (by rw [hh 83 (by decide)]; exact h.2.1)) zc_L_33 (by decide) (i := 82) (by rw [hB]; exact zsh_lt rfl (by decide)) (zg_o rfl (by decide)) rfl rfl rfl (Nat.le_of_ble_eq_true rfl) (fun r4 g5 p6 => ?_)
  obtain ⟨rfl, e2⟩ := p6
  refine z_icmpeq (tgt := 1489) o dL_law_368 (by decide) (fun c7 => ?_) (fun c7 => ?_)
  · exact kk _ _ (tk_heads (xs (i + 1)) (xs (i + 2)) h hh hr zQ.rf)
  · exact absurd (e1.trans ((congrArg Prod.fst (ek_heads hh (xs (i + 1)) (xs (i + 2)))).symm.trans e2.symm)) c7
set_option maxHeartbeats 1000000 in
set_option maxRecDepth 20000 in
theorem arm_become {X : zX} {B : zB} {b L i : Nat} {xs : Nat → Int32} {M : zM} {N : zN} (o : zOk X B RL cL_law 4 61) (hB : znn B = 95) (hX : zScr X B b L xs) (hL : L ≤ 3072) (hi : i + 6 ≤ L) (h : zS M N) (kk : ∀ (M1 : zM) (N1 : zN), zS M1 N1 → zW X B (zg B M1 N1) 1489 [(3, .int (nI i)), (2, zref B 82), (1, zref B 0), (0, .ref b)] []) : zW X B (zg B M N) 373 [(3, .int (nI i)), (2, zref B 82), (1, zref B 0), (0, .ref b)] [] := by
  refine z_aload_n (j := 2) o dL_law_373 rfl ?_
  refine z_aload_n (j := 3) o dL_law_374 rfl ?_
  refine z_iload_n (j := 0) o dL_law_375 rfl ?_
  refine z_iconst (v := 1) o dL_law_376 (by decide) ?_
  refine z_iadd o dL_law_377 ?_
  refine zo_rw (y := nI (i + 1)) (zn_add (rfl) (rfl)) ?_
  refine z_scd (j := i + 1) o hX dL_law_378 (by omega) hL ?_
  refine z_aload_n (j := 3) o dL_law_379 rfl ?_
  refine z_iload_n (j := 0) o dL_law_380 rfl ?_
  refine z_iconst (v := 2) o dL_law_381 (by decide) ?_
  refine z_iadd o dL_law_382 ?_
  refine zo_rw (y := nI (i + 2)) (zn_add (rfl) (rfl)) ?_
  refine z_scd (j := i + 2) o hX dL_law_383 (by omega) hL ?_
  refine z_callVi (As := [.int (xs (i + 1)), .int (xs (i + 2))]) (n := 2) (st := []) o dL_law_384 (k_become hB M N M (xs (i + 1)) (xs (i + 2)) h.1 h.2.1) zc_L_34 (by decide) (i := 0) (by rw [hB]; exact zsh_lt rfl (by decide)) (zg_o rfl (by decide)) rfl rfl rfl (Nat.le_of_ble_eq_true rfl) (fun r1 g2 p3 => ?_)
  obtain ⟨M1, N1, rfl, e1, hr, hh⟩ := p3
  refine z_aload_n (j := 1) o dL_law_387 rfl ?_
  refine z_aload_n (j := 3) o dL_law_388 rfl ?_
  refine z_iload_n (j := 0) o dL_law_389 rfl ?_
  refine z_iconst (v := 1) o dL_law_390 (by decide) ?_
  refine z_iadd o dL_law_391 ?_
  refine zo_rw (y := nI (i + 1)) (zn_add (rfl) (rfl)) ?_
  refine z_scd (j := i + 1) o hX dL_law_392 (by omega) hL ?_
  refine z_aload_n (j := 3) o dL_law_393 rfl ?_
  refine z_iload_n (j := 0) o dL_law_394 rfl ?_
  refine z_iconst (v := 2) o dL_law_395 (by decide) ?_
  refine z_iadd o dL_law_396 ?_
  refine zo_rw (y := nI (i + 2)) (zn_add (rfl) (rfl)) ?_
  refine z_scd (j := i + 2) o hX dL_law_397 (by omega) hL ?_
  refine z_callVi (As := [.int (xs (i + 1)), .int (xs (i + 2))]) (n := 2) (st := [.int r1]) o dL_law_398 (c_X8_become hB M1 N1 (xs (i + 1)) (xs (i + 2)) (by rw [hh 83 (by decide)]; exact h.2.1)) zc_L_37 (by decide) (i := 82) (by rw [hB]; exact zsh_lt rfl (by decide)) (zg_o rfl (by decide)) rfl rfl rfl (Nat.le_of_ble_eq_true rfl) (fun r4 g5 p6 => ?_)
  obtain ⟨rfl, e2⟩ := p6
  refine z_icmpeq (tgt := 1489) o dL_law_401 (by decide) (fun c7 => ?_) (fun c7 => ?_)
  · exact kk _ _ (tk_become (xs (i + 1)) (xs (i + 2)) h hh hr zQ.rf)
  · exact absurd (e1.trans ((congrArg Prod.fst (ek_become hh (xs (i + 1)) (xs (i + 2)))).symm.trans e2.symm)) c7
set_option maxHeartbeats 1000000 in
set_option maxRecDepth 20000 in
theorem arm_as {X : zX} {B : zB} {b L i : Nat} {xs : Nat → Int32} {M : zM} {N : zN} (o : zOk X B RL cL_law 4 61) (hB : znn B = 95) (hX : zScr X B b L xs) (hL : L ≤ 3072) (hi : i + 6 ≤ L) (h : zS M N) (kk : ∀ (M1 : zM) (N1 : zN), zS M1 N1 → zW X B (zg B M1 N1) 1489 [(3, .int (nI i)), (2, zref B 82), (1, zref B 0), (0, .ref b)] []) : zW X B (zg B M N) 406 [(3, .int (nI i)), (2, zref B 82), (1, zref B 0), (0, .ref b)] [] := by
  refine z_aload_n (j := 2) o dL_law_406 rfl ?_
  refine z_aload_n (j := 3) o dL_law_407 rfl ?_
  refine z_iload_n (j := 0) o dL_law_408 rfl ?_
  refine z_iconst (v := 1) o dL_law_409 (by decide) ?_
  refine z_iadd o dL_law_410 ?_
  refine zo_rw (y := nI (i + 1)) (zn_add (rfl) (rfl)) ?_
  refine z_scd (j := i + 1) o hX dL_law_411 (by omega) hL ?_
  refine z_aload_n (j := 3) o dL_law_412 rfl ?_
  refine z_iload_n (j := 0) o dL_law_413 rfl ?_
  refine z_iconst (v := 2) o dL_law_414 (by decide) ?_
  refine z_iadd o dL_law_415 ?_
  refine zo_rw (y := nI (i + 2)) (zn_add (rfl) (rfl)) ?_
  refine z_scd (j := i + 2) o hX dL_law_416 (by omega) hL ?_
  refine z_callVi (As := [.int (xs (i + 1)), .int (xs (i + 2))]) (n := 2) (st := []) o dL_law_417 (k_as hB M N M (xs (i + 1)) (xs (i + 2)) h.1 h.2.1) zc_L_38 (by decide) (i := 0) (by rw [hB]; exact zsh_lt rfl (by decide)) (zg_o rfl (by decide)) rfl rfl rfl (Nat.le_of_ble_eq_true rfl) (fun r1 g2 p3 => ?_)
  obtain ⟨M1, N1, rfl, e1, hr, hh⟩ := p3
  refine z_aload_n (j := 1) o dL_law_420 rfl ?_
  refine z_aload_n (j := 3) o dL_law_421 rfl ?_
  refine z_iload_n (j := 0) o dL_law_422 rfl ?_
  refine z_iconst (v := 1) o dL_law_423 (by decide) ?_
  refine z_iadd o dL_law_424 ?_
  refine zo_rw (y := nI (i + 1)) (zn_add (rfl) (rfl)) ?_
  refine z_scd (j := i + 1) o hX dL_law_425 (by omega) hL ?_
  refine z_aload_n (j := 3) o dL_law_426 rfl ?_
  refine z_iload_n (j := 0) o dL_law_427 rfl ?_
  refine z_iconst (v := 2) o dL_law_428 (by decide) ?_
  refine z_iadd o dL_law_429 ?_
  refine zo_rw (y := nI (i + 2)) (zn_add (rfl) (rfl)) ?_
  refine z_scd (j := i + 2) o hX dL_law_430 (by omega) hL ?_
  refine z_callVi (As := [.int (xs (i + 1)), .int (xs (i + 2))]) (n := 2) (st := [.int r1]) o dL_law_431 (c_X8_as hB M1 N1 (xs (i + 1)) (xs (i + 2)) (by rw [hh 83 (by decide)]; exact h.2.1)) zc_L_41 (by decide) (i := 82) (by rw [hB]; exact zsh_lt rfl (by decide)) (zg_o rfl (by decide)) rfl rfl rfl (Nat.le_of_ble_eq_true rfl) (fun r4 g5 p6 => ?_)
  obtain ⟨rfl, e2⟩ := p6
  refine z_icmpeq (tgt := 1489) o dL_law_434 (by decide) (fun c7 => ?_) (fun c7 => ?_)
  · exact kk _ _ (tk_as (xs (i + 1)) (xs (i + 2)) h hh hr zQ.rf)
  · exact absurd (e1.trans ((congrArg Prod.fst (ek_as hh (xs (i + 1)) (xs (i + 2)))).symm.trans e2.symm)) c7
set_option maxHeartbeats 1000000 in
set_option maxRecDepth 20000 in
theorem arm_turn {X : zX} {B : zB} {b L i : Nat} {xs : Nat → Int32} {M : zM} {N : zN} (o : zOk X B RL cL_law 4 61) (hB : znn B = 95) (hX : zScr X B b L xs) (hL : L ≤ 3072) (hi : i + 6 ≤ L) (h : zS M N) (kk : ∀ (M1 : zM) (N1 : zN), zS M1 N1 → zW X B (zg B M1 N1) 1489 [(3, .int (nI i)), (2, zref B 82), (1, zref B 0), (0, .ref b)] []) : zW X B (zg B M N) 439 [(3, .int (nI i)), (2, zref B 82), (1, zref B 0), (0, .ref b)] [] := by
  refine z_aload_n (j := 2) o dL_law_439 rfl ?_
  refine z_aload_n (j := 3) o dL_law_440 rfl ?_
  refine z_iload_n (j := 0) o dL_law_441 rfl ?_
  refine z_iconst (v := 1) o dL_law_442 (by decide) ?_
  refine z_iadd o dL_law_443 ?_
  refine zo_rw (y := nI (i + 1)) (zn_add (rfl) (rfl)) ?_
  refine z_scd (j := i + 1) o hX dL_law_444 (by omega) hL ?_
  refine z_aload_n (j := 3) o dL_law_445 rfl ?_
  refine z_iload_n (j := 0) o dL_law_446 rfl ?_
  refine z_iconst (v := 2) o dL_law_447 (by decide) ?_
  refine z_iadd o dL_law_448 ?_
  refine zo_rw (y := nI (i + 2)) (zn_add (rfl) (rfl)) ?_
  refine z_scd (j := i + 2) o hX dL_law_449 (by omega) hL ?_
  refine z_callVi (As := [.int (xs (i + 1)), .int (xs (i + 2))]) (n := 2) (st := []) o dL_law_450 (k_turn hB M N M (xs (i + 1)) (xs (i + 2)) h.1 h.2.1) zc_L_42 (by decide) (i := 0) (by rw [hB]; exact zsh_lt rfl (by decide)) (zg_o rfl (by decide)) rfl rfl rfl (Nat.le_of_ble_eq_true rfl) (fun r1 g2 p3 => ?_)
  obtain ⟨M1, N1, rfl, e1, hr, hh⟩ := p3
  refine z_aload_n (j := 1) o dL_law_453 rfl ?_
  refine z_aload_n (j := 3) o dL_law_454 rfl ?_
  refine z_iload_n (j := 0) o dL_law_455 rfl ?_
  refine z_iconst (v := 1) o dL_law_456 (by decide) ?_
  refine z_iadd o dL_law_457 ?_
  refine zo_rw (y := nI (i + 1)) (zn_add (rfl) (rfl)) ?_
  refine z_scd (j := i + 1) o hX dL_law_458 (by omega) hL ?_
  refine z_aload_n (j := 3) o dL_law_459 rfl ?_
  refine z_iload_n (j := 0) o dL_law_460 rfl ?_
  refine z_iconst (v := 2) o dL_law_461 (by decide) ?_
  refine z_iadd o dL_law_462 ?_
  refine zo_rw (y := nI (i + 2)) (zn_add (rfl) (rfl)) ?_
  refine z_scd (j := i + 2) o hX dL_law_463 (by omega) hL ?_
  refine z_callVi (As := [.int (xs (i + 1)), .int (xs (i + 2))]) (n := 2) (st := [.int r1]) o dL_law_464 (c_X8_turn hB M1 N1 (xs (i + 1)) (xs (i + 2)) (by rw [hh 83 (by decide)]; exact h.2.1)) zc_L_45 (by decide) (i := 82) (by rw [hB]; exact zsh_lt rfl (by decide)) (zg_o rfl (by decide)) rfl rfl rfl (Nat.le_of_ble_eq_true rfl) (fun r4 g5 p6 => ?_)
  obtain ⟨rfl, e2⟩ := p6
  refine z_icmpeq (tgt := 1489) o dL_law_467 (by decide) (fun c7 => ?_) (fun c7 => ?_)
  · exact kk _ _ (tk_turn (xs (i + 1)) (xs (i + 2)) h hh hr zQ.rf)
  · exact absurd (e1.trans ((congrArg Prod.fst (ek_turn hh (xs (i + 1)) (xs (i + 2)))).symm.trans e2.symm)) c7
set_option maxHeartbeats 1000000 in
set_option maxRecDepth 20000 in
theorem arm_cut {X : zX} {B : zB} {b L i : Nat} {xs : Nat → Int32} {M : zM} {N : zN} (o : zOk X B RL cL_law 4 61) (hB : znn B = 95) (hX : zScr X B b L xs) (hL : L ≤ 3072) (hi : i + 6 ≤ L) (h : zS M N) (kk : ∀ (M1 : zM) (N1 : zN), zS M1 N1 → zW X B (zg B M1 N1) 1489 [(3, .int (nI i)), (2, zref B 82), (1, zref B 0), (0, .ref b)] []) : zW X B (zg B M N) 472 [(3, .int (nI i)), (2, zref B 82), (1, zref B 0), (0, .ref b)] [] := by
  refine z_aload_n (j := 2) o dL_law_472 rfl ?_
  refine z_aload_n (j := 3) o dL_law_473 rfl ?_
  refine z_iload_n (j := 0) o dL_law_474 rfl ?_
  refine z_iconst (v := 1) o dL_law_475 (by decide) ?_
  refine z_iadd o dL_law_476 ?_
  refine zo_rw (y := nI (i + 1)) (zn_add (rfl) (rfl)) ?_
  refine z_scd (j := i + 1) o hX dL_law_477 (by omega) hL ?_
  refine z_callVi (As := [.int (xs (i + 1))]) (n := 1) (st := []) o dL_law_478 (k_cut hB M N M (xs (i + 1)) h.1 h.2.1) zc_L_46 (by decide) (i := 0) (by rw [hB]; exact zsh_lt rfl (by decide)) (zg_o rfl (by decide)) rfl rfl rfl (Nat.le_of_ble_eq_true rfl) (fun r1 g2 p3 => ?_)
  obtain ⟨M1, N1, rfl, e1, hr, hh⟩ := p3
  refine z_aload_n (j := 1) o dL_law_481 rfl ?_
  refine z_aload_n (j := 3) o dL_law_482 rfl ?_
  refine z_iload_n (j := 0) o dL_law_483 rfl ?_
  refine z_iconst (v := 1) o dL_law_484 (by decide) ?_
  refine z_iadd o dL_law_485 ?_
  refine zo_rw (y := nI (i + 1)) (zn_add (rfl) (rfl)) ?_
  refine z_scd (j := i + 1) o hX dL_law_486 (by omega) hL ?_
  refine z_callVi (As := [.int (xs (i + 1))]) (n := 1) (st := [.int r1]) o dL_law_487 (c_X8_cut hB M1 N1 (xs (i + 1)) (by rw [hh 83 (by decide)]; exact h.2.1)) zc_L_50 (by decide) (i := 82) (by rw [hB]; exact zsh_lt rfl (by decide)) (zg_o rfl (by decide)) rfl rfl rfl (Nat.le_of_ble_eq_true rfl) (fun r4 g5 p6 => ?_)
  obtain ⟨rfl, e2⟩ := p6
  refine z_icmpeq (tgt := 1489) o dL_law_490 (by decide) (fun c7 => ?_) (fun c7 => ?_)
  · exact kk _ _ (tk_cut (xs (i + 1)) h hh hr zQ.rf)
  · exact absurd (e1.trans ((congrArg Prod.fst (ek_cut hh (xs (i + 1)))).symm.trans e2.symm)) c7
set_option maxHeartbeats 1000000 in
set_option maxRecDepth 20000 in
theorem arm_lay {X : zX} {B : zB} {b L i : Nat} {xs : Nat → Int32} {M : zM} {N : zN} (o : zOk X B RL cL_law 4 61) (hB : znn B = 95) (hX : zScr X B b L xs) (hL : L ≤ 3072) (hi : i + 6 ≤ L) (h : zS M N) (kk : ∀ (M1 : zM) (N1 : zN), zS M1 N1 → zW X B (zg B M1 N1) 1489 [(3, .int (nI i)), (2, zref B 82), (1, zref B 0), (0, .ref b)] []) : zW X B (zg B M N) 495 [(3, .int (nI i)), (2, zref B 82), (1, zref B 0), (0, .ref b)] [] := by
  refine z_aload_n (j := 2) o dL_law_495 rfl ?_
  refine z_aload_n (j := 3) o dL_law_496 rfl ?_
  refine z_iload_n (j := 0) o dL_law_497 rfl ?_
  refine z_iconst (v := 1) o dL_law_498 (by decide) ?_
  refine z_iadd o dL_law_499 ?_
  refine zo_rw (y := nI (i + 1)) (zn_add (rfl) (rfl)) ?_
  refine z_scd (j := i + 1) o hX dL_law_500 (by omega) hL ?_
  refine z_aload_n (j := 3) o dL_law_501 rfl ?_
  refine z_iload_n (j := 0) o dL_law_502 rfl ?_
  refine z_iconst (v := 2) o dL_law_503 (by decide) ?_
  refine z_iadd o dL_law_504 ?_
  refine zo_rw (y := nI (i + 2)) (zn_add (rfl) (rfl)) ?_
  refine z_scd (j := i + 2) o hX dL_law_505 (by omega) hL ?_
  refine z_aload_n (j := 3) o dL_law_506 rfl ?_
  refine z_iload_n (j := 0) o dL_law_507 rfl ?_
  refine z_iconst (v := 3) o dL_law_508 (by decide) ?_
  refine z_iadd o dL_law_509 ?_
  refine zo_rw (y := nI (i + 3)) (zn_add (rfl) (rfl)) ?_
  refine z_scd (j := i + 3) o hX dL_law_510 (by omega) hL ?_
  refine z_callVi (As := [.int (xs (i + 1)), .int (xs (i + 2)), .int (xs (i + 3))]) (n := 3) (st := []) o dL_law_511 (k_lay hB M N M (xs (i + 1)) (xs (i + 2)) (xs (i + 3)) h.1 h.2.1) zc_L_51 (by decide) (i := 0) (by rw [hB]; exact zsh_lt rfl (by decide)) (zg_o rfl (by decide)) rfl rfl rfl (Nat.le_of_ble_eq_true rfl) (fun r1 g2 p3 => ?_)
  obtain ⟨M1, N1, rfl, e1, hr, hh⟩ := p3
  refine z_aload_n (j := 1) o dL_law_514 rfl ?_
  refine z_aload_n (j := 3) o dL_law_515 rfl ?_
  refine z_iload_n (j := 0) o dL_law_516 rfl ?_
  refine z_iconst (v := 1) o dL_law_517 (by decide) ?_
  refine z_iadd o dL_law_518 ?_
  refine zo_rw (y := nI (i + 1)) (zn_add (rfl) (rfl)) ?_
  refine z_scd (j := i + 1) o hX dL_law_519 (by omega) hL ?_
  refine z_aload_n (j := 3) o dL_law_520 rfl ?_
  refine z_iload_n (j := 0) o dL_law_521 rfl ?_
  refine z_iconst (v := 2) o dL_law_522 (by decide) ?_
  refine z_iadd o dL_law_523 ?_
  refine zo_rw (y := nI (i + 2)) (zn_add (rfl) (rfl)) ?_
  refine z_scd (j := i + 2) o hX dL_law_524 (by omega) hL ?_
  refine z_aload_n (j := 3) o dL_law_525 rfl ?_
  refine z_iload_n (j := 0) o dL_law_526 rfl ?_
  refine z_iconst (v := 3) o dL_law_527 (by decide) ?_
  refine z_iadd o dL_law_528 ?_
  refine zo_rw (y := nI (i + 3)) (zn_add (rfl) (rfl)) ?_
  refine z_scd (j := i + 3) o hX dL_law_529 (by omega) hL ?_
  refine z_callVi (As := [.int (xs (i + 1)), .int (xs (i + 2)), .int (xs (i + 3))]) (n := 3) (st := [.int r1]) o dL_law_530 (c_X8_lay hB M1 N1 (xs (i + 1)) (xs (i + 2)) (xs (i + 3)) (by rw [hh 83 (by decide)]; exact h.2.1)) zc_L_55 (by decide) (i := 82) (by rw [hB]; exact zsh_lt rfl (by decide)) (zg_o rfl (by decide)) rfl rfl rfl (Nat.le_of_ble_eq_true rfl) (fun r4 g5 p6 => ?_)
  obtain ⟨rfl, e2⟩ := p6
  refine z_icmpeq (tgt := 1489) o dL_law_533 (by decide) (fun c7 => ?_) (fun c7 => ?_)
  · exact kk _ _ (tk_lay (xs (i + 1)) (xs (i + 2)) (xs (i + 3)) h hh hr zQ.rf)
  · exact absurd (e1.trans ((congrArg Prod.fst (ek_lay hh (xs (i + 1)) (xs (i + 2)) (xs (i + 3)))).symm.trans e2.symm)) c7
set_option maxHeartbeats 1000000 in
set_option maxRecDepth 20000 in
theorem arm_cow {X : zX} {B : zB} {b L i : Nat} {xs : Nat → Int32} {M : zM} {N : zN} (o : zOk X B RL cL_law 4 61) (hB : znn B = 95) (hX : zScr X B b L xs) (hL : L ≤ 3072) (hi : i + 6 ≤ L) (h : zS M N) (kk : ∀ (M1 : zM) (N1 : zN), zS M1 N1 → zW X B (zg B M1 N1) 1489 [(3, .int (nI i)), (2, zref B 82), (1, zref B 0), (0, .ref b)] []) : zW X B (zg B M N) 538 [(3, .int (nI i)), (2, zref B 82), (1, zref B 0), (0, .ref b)] [] := by
  refine z_aload_n (j := 2) o dL_law_538 rfl ?_
  refine z_aload_n (j := 3) o dL_law_539 rfl ?_
  refine z_iload_n (j := 0) o dL_law_540 rfl ?_
  refine z_iconst (v := 1) o dL_law_541 (by decide) ?_
  refine z_iadd o dL_law_542 ?_
  refine zo_rw (y := nI (i + 1)) (zn_add (rfl) (rfl)) ?_
  refine z_scd (j := i + 1) o hX dL_law_543 (by omega) hL ?_
  refine z_callVi (As := [.int (xs (i + 1))]) (n := 1) (st := []) o dL_law_544 (k_cow hB M N M (xs (i + 1)) h.1 h.2.1) zc_L_56 (by decide) (i := 0) (by rw [hB]; exact zsh_lt rfl (by decide)) (zg_o rfl (by decide)) rfl rfl rfl (Nat.le_of_ble_eq_true rfl) (fun r1 g2 p3 => ?_)
  obtain ⟨M1, N1, rfl, e1, hr, hh⟩ := p3
  refine z_aload_n (j := 1) o dL_law_547 rfl ?_
  refine z_aload_n (j := 3) o dL_law_548 rfl ?_
  refine z_iload_n (j := 0) o dL_law_549 rfl ?_
  refine z_iconst (v := 1) o dL_law_550 (by decide) ?_
  refine z_iadd o dL_law_551 ?_
  refine zo_rw (y := nI (i + 1)) (zn_add (rfl) (rfl)) ?_
  refine z_scd (j := i + 1) o hX dL_law_552 (by omega) hL ?_
  refine z_callVi (As := [.int (xs (i + 1))]) (n := 1) (st := [.int r1]) o dL_law_553 (c_X8_cow hB M1 N1 (xs (i + 1)) (by rw [hh 83 (by decide)]; exact h.2.1)) zc_L_59 (by decide) (i := 82) (by rw [hB]; exact zsh_lt rfl (by decide)) (zg_o rfl (by decide)) rfl rfl rfl (Nat.le_of_ble_eq_true rfl) (fun r4 g5 p6 => ?_)
  obtain ⟨rfl, e2⟩ := p6
  refine z_icmpeq (tgt := 1489) o dL_law_556 (by decide) (fun c7 => ?_) (fun c7 => ?_)
  · exact kk _ _ (tk_cow (xs (i + 1)) h hh hr zQ.rf)
  · exact absurd (e1.trans ((congrArg Prod.fst (ek_cow hh (xs (i + 1)))).symm.trans e2.symm)) c7
set_option maxHeartbeats 1000000 in
set_option maxRecDepth 20000 in
theorem arm_cowIs {X : zX} {B : zB} {b L i : Nat} {xs : Nat → Int32} {M : zM} {N : zN} (o : zOk X B RL cL_law 4 61) (hB : znn B = 95) (hX : zScr X B b L xs) (hL : L ≤ 3072) (hi : i + 6 ≤ L) (h : zS M N) (kk : ∀ (M1 : zM) (N1 : zN), zS M1 N1 → zW X B (zg B M1 N1) 1489 [(3, .int (nI i)), (2, zref B 82), (1, zref B 0), (0, .ref b)] []) : zW X B (zg B M N) 561 [(3, .int (nI i)), (2, zref B 82), (1, zref B 0), (0, .ref b)] [] := by
  refine z_aload_n (j := 2) o dL_law_561 rfl ?_
  refine z_aload_n (j := 3) o dL_law_562 rfl ?_
  refine z_iload_n (j := 0) o dL_law_563 rfl ?_
  refine z_iconst (v := 1) o dL_law_564 (by decide) ?_
  refine z_iadd o dL_law_565 ?_
  refine zo_rw (y := nI (i + 1)) (zn_add (rfl) (rfl)) ?_
  refine z_scd (j := i + 1) o hX dL_law_566 (by omega) hL ?_
  refine z_aload_n (j := 3) o dL_law_567 rfl ?_
  refine z_iload_n (j := 0) o dL_law_568 rfl ?_
  refine z_iconst (v := 2) o dL_law_569 (by decide) ?_
  refine z_iadd o dL_law_570 ?_
  refine zo_rw (y := nI (i + 2)) (zn_add (rfl) (rfl)) ?_
  refine z_scd (j := i + 2) o hX dL_law_571 (by omega) hL ?_
  refine z_callVi (As := [.int (xs (i + 1)), .int (xs (i + 2))]) (n := 2) (st := []) o dL_law_572 (k_cowIs hB M N M (xs (i + 1)) (xs (i + 2)) h.1 h.2.1) zc_L_60 (by decide) (i := 0) (by rw [hB]; exact zsh_lt rfl (by decide)) (zg_o rfl (by decide)) rfl rfl rfl (Nat.le_of_ble_eq_true rfl) (fun r1 g2 p3 => ?_)
  obtain ⟨M1, N1, rfl, e1, hr, hh⟩ := p3
  refine z_aload_n (j := 1) o dL_law_575 rfl ?_
  refine z_aload_n (j := 3) o dL_law_576 rfl ?_
  refine z_iload_n (j := 0) o dL_law_577 rfl ?_
  refine z_iconst (v := 1) o dL_law_578 (by decide) ?_
  refine z_iadd o dL_law_579 ?_
  refine zo_rw (y := nI (i + 1)) (zn_add (rfl) (rfl)) ?_
  refine z_scd (j := i + 1) o hX dL_law_580 (by omega) hL ?_
  refine z_aload_n (j := 3) o dL_law_581 rfl ?_
  refine z_iload_n (j := 0) o dL_law_582 rfl ?_
  refine z_iconst (v := 2) o dL_law_583 (by decide) ?_
  refine z_iadd o dL_law_584 ?_
  refine zo_rw (y := nI (i + 2)) (zn_add (rfl) (rfl)) ?_
  refine z_scd (j := i + 2) o hX dL_law_585 (by omega) hL ?_
  refine z_callVi (As := [.int (xs (i + 1)), .int (xs (i + 2))]) (n := 2) (st := [.int r1]) o dL_law_586 (c_X8_cowIs hB M1 N1 (xs (i + 1)) (xs (i + 2)) (by rw [hh 83 (by decide)]; exact h.2.1)) zc_L_63 (by decide) (i := 82) (by rw [hB]; exact zsh_lt rfl (by decide)) (zg_o rfl (by decide)) rfl rfl rfl (Nat.le_of_ble_eq_true rfl) (fun r4 g5 p6 => ?_)
  obtain ⟨M2, rfl, e2, hq⟩ := p6
  refine z_icmpeq (tgt := 1489) o dL_law_589 (by decide) (fun c7 => ?_) (fun c7 => ?_)
  · exact kk _ _ (tk_cowIs (xs (i + 1)) (xs (i + 2)) h hh hr hq)
  · exact absurd (e1.trans ((congrArg Prod.fst (ek_cowIs hh (xs (i + 1)) (xs (i + 2)))).symm.trans e2.symm)) c7
set_option maxHeartbeats 1000000 in
set_option maxRecDepth 20000 in
theorem arm_drive {X : zX} {B : zB} {b L i : Nat} {xs : Nat → Int32} {M : zM} {N : zN} (o : zOk X B RL cL_law 4 61) (hB : znn B = 95) (hX : zScr X B b L xs) (hL : L ≤ 3072) (hi : i + 6 ≤ L) (h : zS M N) (kk : ∀ (M1 : zM) (N1 : zN), zS M1 N1 → zW X B (zg B M1 N1) 1489 [(3, .int (nI i)), (2, zref B 82), (1, zref B 0), (0, .ref b)] []) : zW X B (zg B M N) 594 [(3, .int (nI i)), (2, zref B 82), (1, zref B 0), (0, .ref b)] [] := by
  refine z_aload_n (j := 2) o dL_law_594 rfl ?_
  refine z_aload_n (j := 3) o dL_law_595 rfl ?_
  refine z_iload_n (j := 0) o dL_law_596 rfl ?_
  refine z_iconst (v := 1) o dL_law_597 (by decide) ?_
  refine z_iadd o dL_law_598 ?_
  refine zo_rw (y := nI (i + 1)) (zn_add (rfl) (rfl)) ?_
  refine z_scd (j := i + 1) o hX dL_law_599 (by omega) hL ?_
  refine z_aload_n (j := 3) o dL_law_600 rfl ?_
  refine z_iload_n (j := 0) o dL_law_601 rfl ?_
  refine z_iconst (v := 2) o dL_law_602 (by decide) ?_
  refine z_iadd o dL_law_603 ?_
  refine zo_rw (y := nI (i + 2)) (zn_add (rfl) (rfl)) ?_
  refine z_scd (j := i + 2) o hX dL_law_604 (by omega) hL ?_
  refine z_callVi (As := [.int (xs (i + 1)), .int (xs (i + 2))]) (n := 2) (st := []) o dL_law_605 (k_drive hB M N M (xs (i + 1)) (xs (i + 2)) h.1 h.2.1) zc_L_64 (by decide) (i := 0) (by rw [hB]; exact zsh_lt rfl (by decide)) (zg_o rfl (by decide)) rfl rfl rfl (Nat.le_of_ble_eq_true rfl) (fun r1 g2 p3 => ?_)
  obtain ⟨M1, N1, rfl, e1, hr, hh⟩ := p3
  refine z_aload_n (j := 1) o dL_law_608 rfl ?_
  refine z_aload_n (j := 3) o dL_law_609 rfl ?_
  refine z_iload_n (j := 0) o dL_law_610 rfl ?_
  refine z_iconst (v := 1) o dL_law_611 (by decide) ?_
  refine z_iadd o dL_law_612 ?_
  refine zo_rw (y := nI (i + 1)) (zn_add (rfl) (rfl)) ?_
  refine z_scd (j := i + 1) o hX dL_law_613 (by omega) hL ?_
  refine z_aload_n (j := 3) o dL_law_614 rfl ?_
  refine z_iload_n (j := 0) o dL_law_615 rfl ?_
  refine z_iconst (v := 2) o dL_law_616 (by decide) ?_
  refine z_iadd o dL_law_617 ?_
  refine zo_rw (y := nI (i + 2)) (zn_add (rfl) (rfl)) ?_
  refine z_scd (j := i + 2) o hX dL_law_618 (by omega) hL ?_
  refine z_callVi (As := [.int (xs (i + 1)), .int (xs (i + 2))]) (n := 2) (st := [.int r1]) o dL_law_619 (c_X8_drive hB M1 N1 (xs (i + 1)) (xs (i + 2)) (by rw [hh 83 (by decide)]; exact h.2.1)) zc_L_67 (by decide) (i := 82) (by rw [hB]; exact zsh_lt rfl (by decide)) (zg_o rfl (by decide)) rfl rfl rfl (Nat.le_of_ble_eq_true rfl) (fun r4 g5 p6 => ?_)
  obtain ⟨rfl, e2⟩ := p6
  refine z_icmpeq (tgt := 1489) o dL_law_622 (by decide) (fun c7 => ?_) (fun c7 => ?_)
  · exact kk _ _ (tk_drive (xs (i + 1)) (xs (i + 2)) h hh hr zQ.rf)
  · exact absurd (e1.trans ((congrArg Prod.fst (ek_drive hh (xs (i + 1)) (xs (i + 2)))).symm.trans e2.symm)) c7
set_option maxHeartbeats 1000000 in
set_option maxRecDepth 20000 in
theorem arm_feed {X : zX} {B : zB} {b L i : Nat} {xs : Nat → Int32} {M : zM} {N : zN} (o : zOk X B RL cL_law 4 61) (hB : znn B = 95) (hX : zScr X B b L xs) (hL : L ≤ 3072) (hi : i + 6 ≤ L) (h : zS M N) (kk : ∀ (M1 : zM) (N1 : zN), zS M1 N1 → zW X B (zg B M1 N1) 1489 [(3, .int (nI i)), (2, zref B 82), (1, zref B 0), (0, .ref b)] []) : zW X B (zg B M N) 627 [(3, .int (nI i)), (2, zref B 82), (1, zref B 0), (0, .ref b)] [] := by
  refine z_aload_n (j := 2) o dL_law_627 rfl ?_
  refine z_aload_n (j := 3) o dL_law_628 rfl ?_
  refine z_iload_n (j := 0) o dL_law_629 rfl ?_
  refine z_iconst (v := 1) o dL_law_630 (by decide) ?_
  refine z_iadd o dL_law_631 ?_
  refine zo_rw (y := nI (i + 1)) (zn_add (rfl) (rfl)) ?_
  refine z_scd (j := i + 1) o hX dL_law_632 (by omega) hL ?_
  refine z_i2l o dL_law_633 ?_
  refine z_bipush (v := 32) o dL_law_634 (by decide) ?_
  refine z_lshl o dL_law_636 ?_
  refine z_aload_n (j := 3) o dL_law_637 rfl ?_
  refine z_iload_n (j := 0) o dL_law_638 rfl ?_
  refine z_iconst (v := 2) o dL_law_639 (by decide) ?_
  refine z_iadd o dL_law_640 ?_
  refine zo_rw (y := nI (i + 2)) (zn_add (rfl) (rfl)) ?_
  refine z_scd (j := i + 2) o hX dL_law_641 (by omega) hL ?_
  refine z_i2l o dL_law_642 ?_
  refine z_ldc2 (v := 4294967295) o dL_law_643 zk_L_68 ?_
  refine z_land o dL_law_646 ?_
  refine z_lor o dL_law_647 ?_
  refine z_aload_n (j := 3) o dL_law_648 rfl ?_
  refine z_iload_n (j := 0) o dL_law_649 rfl ?_
  refine z_iconst (v := 3) o dL_law_650 (by decide) ?_
  refine z_iadd o dL_law_651 ?_
  refine zo_rw (y := nI (i + 3)) (zn_add (rfl) (rfl)) ?_
  refine z_scd (j := i + 3) o hX dL_law_652 (by omega) hL ?_
  refine z_callVi (As := [.long ((zlshl ((xs (i + 1)).toInt64) 32) ||| (((xs (i + 2)).toInt64) &&& 4294967295)), .int (xs (i + 3))]) (n := 2) (st := []) o dL_law_653 (k_feed hB M N M ((zlshl ((xs (i + 1)).toInt64) 32) ||| (((xs (i + 2)).toInt64) &&& 4294967295)) (xs (i + 3)) h.1 h.2.1) zc_L_70 (by decide) (i := 0) (by rw [hB]; exact zsh_lt rfl (by decide)) (zg_o rfl (by decide)) rfl rfl rfl (Nat.le_of_ble_eq_true rfl) (fun r1 g2 p3 => ?_)
  obtain ⟨M1, N1, rfl, e1, hr, hh⟩ := p3
  refine z_aload_n (j := 1) o dL_law_656 rfl ?_
  refine z_aload_n (j := 3) o dL_law_657 rfl ?_
  refine z_iload_n (j := 0) o dL_law_658 rfl ?_
  refine z_iconst (v := 1) o dL_law_659 (by decide) ?_
  refine z_iadd o dL_law_660 ?_
  refine zo_rw (y := nI (i + 1)) (zn_add (rfl) (rfl)) ?_
  refine z_scd (j := i + 1) o hX dL_law_661 (by omega) hL ?_
  refine z_i2l o dL_law_662 ?_
  refine z_bipush (v := 32) o dL_law_663 (by decide) ?_
  refine z_lshl o dL_law_665 ?_
  refine z_aload_n (j := 3) o dL_law_666 rfl ?_
  refine z_iload_n (j := 0) o dL_law_667 rfl ?_
  refine z_iconst (v := 2) o dL_law_668 (by decide) ?_
  refine z_iadd o dL_law_669 ?_
  refine zo_rw (y := nI (i + 2)) (zn_add (rfl) (rfl)) ?_
  refine z_scd (j := i + 2) o hX dL_law_670 (by omega) hL ?_
  refine z_i2l o dL_law_671 ?_
  refine z_ldc2 (v := 4294967295) o dL_law_672 zk_L_68 ?_
  refine z_land o dL_law_675 ?_
  refine z_lor o dL_law_676 ?_
  refine z_aload_n (j := 3) o dL_law_677 rfl ?_
  refine z_iload_n (j := 0) o dL_law_678 rfl ?_
  refine z_iconst (v := 3) o dL_law_679 (by decide) ?_
  refine z_iadd o dL_law_680 ?_
  refine zo_rw (y := nI (i + 3)) (zn_add (rfl) (rfl)) ?_
  refine z_scd (j := i + 3) o hX dL_law_681 (by omega) hL ?_
  refine z_callVi (As := [.long ((zlshl ((xs (i + 1)).toInt64) 32) ||| (((xs (i + 2)).toInt64) &&& 4294967295)), .int (xs (i + 3))]) (n := 2) (st := [.int r1]) o dL_law_682 (c_X8_feed hB M1 N1 ((zlshl ((xs (i + 1)).toInt64) 32) ||| (((xs (i + 2)).toInt64) &&& 4294967295)) (xs (i + 3)) (by rw [hh 83 (by decide)]; exact h.2.1)) zc_L_74 (by decide) (i := 82) (by rw [hB]; exact zsh_lt rfl (by decide)) (zg_o rfl (by decide)) rfl rfl rfl (Nat.le_of_ble_eq_true rfl) (fun r4 g5 p6 => ?_)
  obtain ⟨rfl, e2⟩ := p6
  refine z_icmpeq (tgt := 1489) o dL_law_685 (by decide) (fun c7 => ?_) (fun c7 => ?_)
  · exact kk _ _ (tk_feed ((zlshl ((xs (i + 1)).toInt64) 32) ||| (((xs (i + 2)).toInt64) &&& 4294967295)) (xs (i + 3)) h hh hr zQ.rf)
  · exact absurd (e1.trans ((congrArg Prod.fst (ek_feed hh ((zlshl ((xs (i + 1)).toInt64) 32) ||| (((xs (i + 2)).toInt64) &&& 4294967295)) (xs (i + 3)))).symm.trans e2.symm)) c7
set_option maxHeartbeats 1000000 in
set_option maxRecDepth 20000 in
theorem arm_text {X : zX} {B : zB} {b L i : Nat} {xs : Nat → Int32} {M : zM} {N : zN} (o : zOk X B RL cL_law 4 61) (hB : znn B = 95) (hX : zScr X B b L xs) (hL : L ≤ 3072) (hi : i + 6 ≤ L) (h : zS M N) (kk : ∀ (M1 : zM) (N1 : zN), zS M1 N1 → zW X B (zg B M1 N1) 1489 [(3, .int (nI i)), (2, zref B 82), (1, zref B 0), (0, .ref b)] []) : zW X B (zg B M N) 690 [(3, .int (nI i)), (2, zref B 82), (1, zref B 0), (0, .ref b)] [] := by
  refine z_aload_n (j := 2) o dL_law_690 rfl ?_
  refine z_aload_n (j := 3) o dL_law_691 rfl ?_
  refine z_iload_n (j := 0) o dL_law_692 rfl ?_
  refine z_iconst (v := 1) o dL_law_693 (by decide) ?_
  refine z_iadd o dL_law_694 ?_
  refine zo_rw (y := nI (i + 1)) (zn_add (rfl) (rfl)) ?_
  refine z_scd (j := i + 1) o hX dL_law_695 (by omega) hL ?_
  refine z_callVi (As := [.int (xs (i + 1))]) (n := 1) (st := []) o dL_law_696 (k_text hB M N M (xs (i + 1)) h.1 h.2.1) zc_L_75 (by decide) (i := 0) (by rw [hB]; exact zsh_lt rfl (by decide)) (zg_o rfl (by decide)) rfl rfl rfl (Nat.le_of_ble_eq_true rfl) (fun r1 g2 p3 => ?_)
  obtain ⟨M1, N1, rfl, e1, hr, hh⟩ := p3
  refine z_aload_n (j := 1) o dL_law_699 rfl ?_
  refine z_aload_n (j := 3) o dL_law_700 rfl ?_
  refine z_iload_n (j := 0) o dL_law_701 rfl ?_
  refine z_iconst (v := 1) o dL_law_702 (by decide) ?_
  refine z_iadd o dL_law_703 ?_
  refine zo_rw (y := nI (i + 1)) (zn_add (rfl) (rfl)) ?_
  refine z_scd (j := i + 1) o hX dL_law_704 (by omega) hL ?_
  refine z_callVi (As := [.int (xs (i + 1))]) (n := 1) (st := [.int r1]) o dL_law_705 (c_X8_text hB M1 N1 (xs (i + 1)) (by rw [hh 83 (by decide)]; exact h.2.1)) zc_L_78 (by decide) (i := 82) (by rw [hB]; exact zsh_lt rfl (by decide)) (zg_o rfl (by decide)) rfl rfl rfl (Nat.le_of_ble_eq_true rfl) (fun r4 g5 p6 => ?_)
  obtain ⟨M2, rfl, e2, hq⟩ := p6
  refine z_icmpeq (tgt := 1489) o dL_law_708 (by decide) (fun c7 => ?_) (fun c7 => ?_)
  · exact kk _ _ (tk_text (xs (i + 1)) h hh hr hq)
  · exact absurd (e1.trans ((congrArg Prod.fst (ek_text hh (xs (i + 1)))).symm.trans e2.symm)) c7
set_option maxHeartbeats 1000000 in
set_option maxRecDepth 20000 in
theorem arm_untell {X : zX} {B : zB} {b L i : Nat} {xs : Nat → Int32} {M : zM} {N : zN} (o : zOk X B RL cL_law 4 61) (hB : znn B = 95) (hX : zScr X B b L xs) (hL : L ≤ 3072) (hi : i + 6 ≤ L) (h : zS M N) (kk : ∀ (M1 : zM) (N1 : zN), zS M1 N1 → zW X B (zg B M1 N1) 1489 [(3, .int (nI i)), (2, zref B 82), (1, zref B 0), (0, .ref b)] []) : zW X B (zg B M N) 713 [(3, .int (nI i)), (2, zref B 82), (1, zref B 0), (0, .ref b)] [] := by
  refine z_aload_n (j := 2) o dL_law_713 rfl ?_
  refine z_aload_n (j := 3) o dL_law_714 rfl ?_
  refine z_iload_n (j := 0) o dL_law_715 rfl ?_
  refine z_iconst (v := 1) o dL_law_716 (by decide) ?_
  refine z_iadd o dL_law_717 ?_
  refine zo_rw (y := nI (i + 1)) (zn_add (rfl) (rfl)) ?_
  refine z_scd (j := i + 1) o hX dL_law_718 (by omega) hL ?_
  refine z_callVi (As := [.int (xs (i + 1))]) (n := 1) (st := []) o dL_law_719 (k_untell hB M N M (xs (i + 1)) h.1 h.2.1) zc_L_79 (by decide) (i := 0) (by rw [hB]; exact zsh_lt rfl (by decide)) (zg_o rfl (by decide)) rfl rfl rfl (Nat.le_of_ble_eq_true rfl) (fun r1 g2 p3 => ?_)
  obtain ⟨M1, N1, rfl, e1, hr, hh⟩ := p3
  refine z_aload_n (j := 1) o dL_law_722 rfl ?_
  refine z_aload_n (j := 3) o dL_law_723 rfl ?_
  refine z_iload_n (j := 0) o dL_law_724 rfl ?_
  refine z_iconst (v := 1) o dL_law_725 (by decide) ?_
  refine z_iadd o dL_law_726 ?_
  refine zo_rw (y := nI (i + 1)) (zn_add (rfl) (rfl)) ?_
  refine z_scd (j := i + 1) o hX dL_law_727 (by omega) hL ?_
  refine z_callVi (As := [.int (xs (i + 1))]) (n := 1) (st := [.int r1]) o dL_law_728 (c_X8_untell hB M1 N1 (xs (i + 1)) (by rw [hh 83 (by decide)]; exact h.2.1)) zc_L_82 (by decide) (i := 82) (by rw [hB]; exact zsh_lt rfl (by decide)) (zg_o rfl (by decide)) rfl rfl rfl (Nat.le_of_ble_eq_true rfl) (fun r4 g5 p6 => ?_)
  obtain ⟨rfl, e2⟩ := p6
  refine z_icmpeq (tgt := 1489) o dL_law_731 (by decide) (fun c7 => ?_) (fun c7 => ?_)
  · exact kk _ _ (tk_untell (xs (i + 1)) h hh hr zQ.rf)
  · exact absurd (e1.trans ((congrArg Prod.fst (ek_untell hh (xs (i + 1)))).symm.trans e2.symm)) c7
set_option maxHeartbeats 1000000 in
set_option maxRecDepth 20000 in
theorem arm_law {X : zX} {B : zB} {b L i : Nat} {xs : Nat → Int32} {M : zM} {N : zN} (o : zOk X B RL cL_law 4 61) (hB : znn B = 95) (hX : zScr X B b L xs) (hL : L ≤ 3072) (hi : i + 6 ≤ L) (h : zS M N) (kk : ∀ (M1 : zM) (N1 : zN), zS M1 N1 → zW X B (zg B M1 N1) 1489 [(3, .int (nI i)), (2, zref B 82), (1, zref B 0), (0, .ref b)] []) : zW X B (zg B M N) 736 [(3, .int (nI i)), (2, zref B 82), (1, zref B 0), (0, .ref b)] [] := by
  refine z_aload_n (j := 2) o dL_law_736 rfl ?_
  refine z_aload_n (j := 3) o dL_law_737 rfl ?_
  refine z_iload_n (j := 0) o dL_law_738 rfl ?_
  refine z_iconst (v := 1) o dL_law_739 (by decide) ?_
  refine z_iadd o dL_law_740 ?_
  refine zo_rw (y := nI (i + 1)) (zn_add (rfl) (rfl)) ?_
  refine z_scd (j := i + 1) o hX dL_law_741 (by omega) hL ?_
  refine z_aload_n (j := 3) o dL_law_742 rfl ?_
  refine z_iload_n (j := 0) o dL_law_743 rfl ?_
  refine z_iconst (v := 2) o dL_law_744 (by decide) ?_
  refine z_iadd o dL_law_745 ?_
  refine zo_rw (y := nI (i + 2)) (zn_add (rfl) (rfl)) ?_
  refine z_scd (j := i + 2) o hX dL_law_746 (by omega) hL ?_
  refine z_aload_n (j := 3) o dL_law_747 rfl ?_
  refine z_iload_n (j := 0) o dL_law_748 rfl ?_
  refine z_iconst (v := 3) o dL_law_749 (by decide) ?_
  refine z_iadd o dL_law_750 ?_
  refine zo_rw (y := nI (i + 3)) (zn_add (rfl) (rfl)) ?_
  refine z_scd (j := i + 3) o hX dL_law_751 (by omega) hL ?_
  refine z_aload_n (j := 3) o dL_law_752 rfl ?_
  refine z_iload_n (j := 0) o dL_law_753 rfl ?_
  refine z_iconst (v := 4) o dL_law_754 (by decide) ?_
  refine z_iadd o dL_law_755 ?_
  refine zo_rw (y := nI (i + 4)) (zn_add (rfl) (rfl)) ?_
  refine z_scd (j := i + 4) o hX dL_law_756 (by omega) hL ?_
  refine z_callVi (As := [.int (xs (i + 1)), .int (xs (i + 2)), .int (xs (i + 3)), .int (xs (i + 4))]) (n := 4) (st := []) o dL_law_757 (k_law hB M N M (xs (i + 1)) (xs (i + 2)) (xs (i + 3)) (xs (i + 4)) h.1 h.2.1) zc_L_83 (by decide) (i := 0) (by rw [hB]; exact zsh_lt rfl (by decide)) (zg_o rfl (by decide)) rfl rfl rfl (Nat.le_of_ble_eq_true rfl) (fun r1 g2 p3 => ?_)
  obtain ⟨M1, N1, rfl, e1, hr, hh⟩ := p3
  refine z_aload_n (j := 1) o dL_law_760 rfl ?_
  refine z_aload_n (j := 3) o dL_law_761 rfl ?_
  refine z_iload_n (j := 0) o dL_law_762 rfl ?_
  refine z_iconst (v := 1) o dL_law_763 (by decide) ?_
  refine z_iadd o dL_law_764 ?_
  refine zo_rw (y := nI (i + 1)) (zn_add (rfl) (rfl)) ?_
  refine z_scd (j := i + 1) o hX dL_law_765 (by omega) hL ?_
  refine z_aload_n (j := 3) o dL_law_766 rfl ?_
  refine z_iload_n (j := 0) o dL_law_767 rfl ?_
  refine z_iconst (v := 2) o dL_law_768 (by decide) ?_
  refine z_iadd o dL_law_769 ?_
  refine zo_rw (y := nI (i + 2)) (zn_add (rfl) (rfl)) ?_
  refine z_scd (j := i + 2) o hX dL_law_770 (by omega) hL ?_
  refine z_aload_n (j := 3) o dL_law_771 rfl ?_
  refine z_iload_n (j := 0) o dL_law_772 rfl ?_
  refine z_iconst (v := 3) o dL_law_773 (by decide) ?_
  refine z_iadd o dL_law_774 ?_
  refine zo_rw (y := nI (i + 3)) (zn_add (rfl) (rfl)) ?_
  refine z_scd (j := i + 3) o hX dL_law_775 (by omega) hL ?_
  refine z_aload_n (j := 3) o dL_law_776 rfl ?_
  refine z_iload_n (j := 0) o dL_law_777 rfl ?_
  refine z_iconst (v := 4) o dL_law_778 (by decide) ?_
  refine z_iadd o dL_law_779 ?_
  refine zo_rw (y := nI (i + 4)) (zn_add (rfl) (rfl)) ?_
  refine z_scd (j := i + 4) o hX dL_law_780 (by omega) hL ?_
  refine z_callVi (As := [.int (xs (i + 1)), .int (xs (i + 2)), .int (xs (i + 3)), .int (xs (i + 4))]) (n := 4) (st := [.int r1]) o dL_law_781 (c_X8_law hB M1 N1 (xs (i + 1)) (xs (i + 2)) (xs (i + 3)) (xs (i + 4)) (by rw [hh 83 (by decide)]; exact h.2.1)) zc_L_87 (by decide) (i := 82) (by rw [hB]; exact zsh_lt rfl (by decide)) (zg_o rfl (by decide)) rfl rfl rfl (Nat.le_of_ble_eq_true rfl) (fun r4 g5 p6 => ?_)
  obtain ⟨M2, rfl, e2, hq⟩ := p6
  refine z_icmpeq (tgt := 1489) o dL_law_784 (by decide) (fun c7 => ?_) (fun c7 => ?_)
  · exact kk _ _ (tk_law (xs (i + 1)) (xs (i + 2)) (xs (i + 3)) (xs (i + 4)) h hh hr hq)
  · exact absurd (e1.trans ((congrArg Prod.fst (ek_law hh (xs (i + 1)) (xs (i + 2)) (xs (i + 3)) (xs (i + 4)))).symm.trans e2.symm)) c7
set_option maxHeartbeats 1000000 in
set_option maxRecDepth 20000 in
theorem arm_dawns {X : zX} {B : zB} {b L i : Nat} {xs : Nat → Int32} {M : zM} {N : zN} (o : zOk X B RL cL_law 4 61) (hB : znn B = 95) (hX : zScr X B b L xs) (hL : L ≤ 3072) (hi : i + 6 ≤ L) (h : zS M N) (kk : ∀ (M1 : zM) (N1 : zN), zS M1 N1 → zW X B (zg B M1 N1) 1489 [(3, .int (nI i)), (2, zref B 82), (1, zref B 0), (0, .ref b)] []) : zW X B (zg B M N) 789 [(3, .int (nI i)), (2, zref B 82), (1, zref B 0), (0, .ref b)] [] := by
  refine z_aload_n (j := 2) o dL_law_789 rfl ?_
  refine z_aload_n (j := 3) o dL_law_790 rfl ?_
  refine z_iload_n (j := 0) o dL_law_791 rfl ?_
  refine z_iconst (v := 1) o dL_law_792 (by decide) ?_
  refine z_iadd o dL_law_793 ?_
  refine zo_rw (y := nI (i + 1)) (zn_add (rfl) (rfl)) ?_
  refine z_scd (j := i + 1) o hX dL_law_794 (by omega) hL ?_
  refine z_callVi (As := [.int (xs (i + 1))]) (n := 1) (st := []) o dL_law_795 (k_dawns hB M N M (xs (i + 1)) h.1 h.2.1) zc_L_88 (by decide) (i := 0) (by rw [hB]; exact zsh_lt rfl (by decide)) (zg_o rfl (by decide)) rfl rfl rfl (Nat.le_of_ble_eq_true rfl) (fun r1 g2 p3 => ?_)
  obtain ⟨M1, N1, rfl, e1, hr, hh⟩ := p3
  refine z_aload_n (j := 1) o dL_law_798 rfl ?_
  refine z_aload_n (j := 3) o dL_law_799 rfl ?_
  refine z_iload_n (j := 0) o dL_law_800 rfl ?_
  refine z_iconst (v := 1) o dL_law_801 (by decide) ?_
  refine z_iadd o dL_law_802 ?_
  refine zo_rw (y := nI (i + 1)) (zn_add (rfl) (rfl)) ?_
  refine z_scd (j := i + 1) o hX dL_law_803 (by omega) hL ?_
  refine z_callVi (As := [.int (xs (i + 1))]) (n := 1) (st := [.int r1]) o dL_law_804 (c_X8_dawns hB M1 N1 (xs (i + 1)) (by rw [hh 83 (by decide)]; exact h.2.1)) zc_L_91 (by decide) (i := 82) (by rw [hB]; exact zsh_lt rfl (by decide)) (zg_o rfl (by decide)) rfl rfl rfl (Nat.le_of_ble_eq_true rfl) (fun r4 g5 p6 => ?_)
  obtain ⟨M2, rfl, e2, hq⟩ := p6
  refine z_icmpeq (tgt := 1489) o dL_law_807 (by decide) (fun c7 => ?_) (fun c7 => ?_)
  · exact kk _ _ (tk_dawns (xs (i + 1)) h hh hr hq)
  · exact absurd (e1.trans ((congrArg Prod.fst (ek_dawns hh (xs (i + 1)))).symm.trans e2.symm)) c7
set_option maxHeartbeats 1000000 in
set_option maxRecDepth 20000 in
theorem arm_loose {X : zX} {B : zB} {b L i : Nat} {xs : Nat → Int32} {M : zM} {N : zN} (o : zOk X B RL cL_law 4 61) (hB : znn B = 95) (hX : zScr X B b L xs) (hL : L ≤ 3072) (hi : i + 6 ≤ L) (h : zS M N) (kk : ∀ (M1 : zM) (N1 : zN), zS M1 N1 → zW X B (zg B M1 N1) 1489 [(3, .int (nI i)), (2, zref B 82), (1, zref B 0), (0, .ref b)] []) : zW X B (zg B M N) 812 [(3, .int (nI i)), (2, zref B 82), (1, zref B 0), (0, .ref b)] [] := by
  refine z_aload_n (j := 2) o dL_law_812 rfl ?_
  refine z_aload_n (j := 3) o dL_law_813 rfl ?_
  refine z_iload_n (j := 0) o dL_law_814 rfl ?_
  refine z_iconst (v := 1) o dL_law_815 (by decide) ?_
  refine z_iadd o dL_law_816 ?_
  refine zo_rw (y := nI (i + 1)) (zn_add (rfl) (rfl)) ?_
  refine z_scd (j := i + 1) o hX dL_law_817 (by omega) hL ?_
  refine z_callVi (As := [.int (xs (i + 1))]) (n := 1) (st := []) o dL_law_818 (k_loose hB M N M (xs (i + 1)) h.1 h.2.1) zc_L_92 (by decide) (i := 0) (by rw [hB]; exact zsh_lt rfl (by decide)) (zg_o rfl (by decide)) rfl rfl rfl (Nat.le_of_ble_eq_true rfl) (fun r1 g2 p3 => ?_)
  obtain ⟨M1, N1, rfl, e1, hr, hh⟩ := p3
  refine z_aload_n (j := 1) o dL_law_821 rfl ?_
  refine z_aload_n (j := 3) o dL_law_822 rfl ?_
  refine z_iload_n (j := 0) o dL_law_823 rfl ?_
  refine z_iconst (v := 1) o dL_law_824 (by decide) ?_
  refine z_iadd o dL_law_825 ?_
  refine zo_rw (y := nI (i + 1)) (zn_add (rfl) (rfl)) ?_
  refine z_scd (j := i + 1) o hX dL_law_826 (by omega) hL ?_
  refine z_callVi (As := [.int (xs (i + 1))]) (n := 1) (st := [.int r1]) o dL_law_827 (c_X8_loose hB M1 N1 (xs (i + 1)) (by rw [hh 83 (by decide)]; exact h.2.1)) zc_L_95 (by decide) (i := 82) (by rw [hB]; exact zsh_lt rfl (by decide)) (zg_o rfl (by decide)) rfl rfl rfl (Nat.le_of_ble_eq_true rfl) (fun r4 g5 p6 => ?_)
  obtain ⟨M2, rfl, e2, hq⟩ := p6
  refine z_icmpeq (tgt := 1489) o dL_law_830 (by decide) (fun c7 => ?_) (fun c7 => ?_)
  · exact kk _ _ (tk_loose (xs (i + 1)) h hh hr hq)
  · exact absurd (e1.trans ((congrArg Prod.fst (ek_loose hh (xs (i + 1)))).symm.trans e2.symm)) c7
set_option maxHeartbeats 1000000 in
set_option maxRecDepth 20000 in
theorem arm_seed {X : zX} {B : zB} {b L i : Nat} {xs : Nat → Int32} {M : zM} {N : zN} (o : zOk X B RL cL_law 4 61) (hB : znn B = 95) (hX : zScr X B b L xs) (hL : L ≤ 3072) (hi : i + 6 ≤ L) (h : zS M N) (kk : ∀ (M1 : zM) (N1 : zN), zS M1 N1 → zW X B (zg B M1 N1) 1489 [(3, .int (nI i)), (2, zref B 82), (1, zref B 0), (0, .ref b)] []) : zW X B (zg B M N) 835 [(3, .int (nI i)), (2, zref B 82), (1, zref B 0), (0, .ref b)] [] := by
  refine z_aload_n (j := 2) o dL_law_835 rfl ?_
  refine z_aload_n (j := 3) o dL_law_836 rfl ?_
  refine z_iload_n (j := 0) o dL_law_837 rfl ?_
  refine z_iconst (v := 1) o dL_law_838 (by decide) ?_
  refine z_iadd o dL_law_839 ?_
  refine zo_rw (y := nI (i + 1)) (zn_add (rfl) (rfl)) ?_
  refine z_scd (j := i + 1) o hX dL_law_840 (by omega) hL ?_
  refine z_callVi (As := [.int (xs (i + 1))]) (n := 1) (st := []) o dL_law_841 (k_seed hB M N M (xs (i + 1)) h.1 h.2.1) zc_L_96 (by decide) (i := 0) (by rw [hB]; exact zsh_lt rfl (by decide)) (zg_o rfl (by decide)) rfl rfl rfl (Nat.le_of_ble_eq_true rfl) (fun r1 g2 p3 => ?_)
  obtain ⟨M1, N1, rfl, e1, hr, hh⟩ := p3
  refine z_aload_n (j := 1) o dL_law_844 rfl ?_
  refine z_aload_n (j := 3) o dL_law_845 rfl ?_
  refine z_iload_n (j := 0) o dL_law_846 rfl ?_
  refine z_iconst (v := 1) o dL_law_847 (by decide) ?_
  refine z_iadd o dL_law_848 ?_
  refine zo_rw (y := nI (i + 1)) (zn_add (rfl) (rfl)) ?_
  refine z_scd (j := i + 1) o hX dL_law_849 (by omega) hL ?_
  refine z_callVi (As := [.int (xs (i + 1))]) (n := 1) (st := [.int r1]) o dL_law_850 (c_X8_seed hB M1 N1 (xs (i + 1)) (by rw [hh 83 (by decide)]; exact h.2.1)) zc_L_99 (by decide) (i := 82) (by rw [hB]; exact zsh_lt rfl (by decide)) (zg_o rfl (by decide)) rfl rfl rfl (Nat.le_of_ble_eq_true rfl) (fun r4 g5 p6 => ?_)
  obtain ⟨rfl, e2⟩ := p6
  refine z_icmpeq (tgt := 1489) o dL_law_853 (by decide) (fun c7 => ?_) (fun c7 => ?_)
  · exact kk _ _ (tk_seed (xs (i + 1)) h hh hr zQ.rf)
  · exact absurd (e1.trans ((congrArg Prod.fst (ek_seed hh (xs (i + 1)))).symm.trans e2.symm)) c7
