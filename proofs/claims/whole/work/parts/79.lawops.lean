/-! the law: its cases -/
theorem L_organ {n : Nat} {xs : Nat → Int} {i : Nat} {I : z_M} (hxs : ∀ j, inI (xs j)) (hi : i + 6 ≤ n) (hn : n ≤ 384) (h : RR I) (k : ∀ I', RR I' → z_R (muL n xs) finL 1108 [aR 200, aR 0, aR 60, aI i] [] I') : z_R (muL n xs) finL 184 [aR 200, aR 0, aR 60, aI i] [] I := by
  refine g_aload_n (i := 1) (x := 0) dL_184 rfl rfl ?_
  refine g_callV (C := RX10) (ci := 10) (As := []) (n := 0) dL_185 ⟨m_5_18, pdX10_organ, ⟨Nat.le_of_ble_eq_true rfl, Nat.le_of_ble_eq_true rfl⟩, rfl, rfl, Nat.le_of_ble_eq_true rfl, Nat.le_of_ble_eq_true rfl⟩ m_5_15 m_5_16 m_5_17 m_1_2 rfl rfl (by decide) rfl rfl (Nat.le_of_ble_eq_true rfl) (t_organ (Q := fun r r' I2 => r' = r ∧ RR I2) h (fun r I' hr => ⟨rfl, hr⟩)) (fun r0 I1 h1 => ?_)
  obtain ⟨r, rfl, h1⟩ := h1
  refine g_aload_n (i := 2) (x := 60) dL_188 rfl rfl ?_
  refine g_callV (C := RX11) (ci := 11) (As := []) (n := 0) dL_189 ⟨m_6_17, pdX11_organ, ⟨Nat.le_of_ble_eq_true rfl, Nat.le_of_ble_eq_true rfl⟩, rfl, rfl, Nat.le_of_ble_eq_true rfl, Nat.le_of_ble_eq_true rfl⟩ m_6_14 m_6_15 m_6_16 m_1_5 rfl rfl (by decide) rfl rfl (Nat.le_of_ble_eq_true rfl) h1 (fun r0 I2 h2 => ?_)
  obtain ⟨r', rfl, rfl, h2⟩ := h2
  exact g_icmp_eq dL_192 (tgt := 1108) (by decide) (fun _ => k I2 h2) (fun q => absurd rfl q)
theorem L_place {n : Nat} {xs : Nat → Int} {i : Nat} {I : z_M} (hxs : ∀ j, inI (xs j)) (hi : i + 6 ≤ n) (hn : n ≤ 384) (h : RR I) (k : ∀ I', RR I' → z_R (muL n xs) finL 1108 [aR 200, aR 0, aR 60, aI i] [] I') : z_R (muL n xs) finL 197 [aR 200, aR 0, aR 60, aI i] [] I := by
  refine g_aload_n (i := 1) (x := 0) dL_197 rfl rfl ?_
  refine g_aload_n (i := 0) (x := 200) dL_198 rfl rfl ?_
  refine g_iload_n (i := 3) (x := i) dL_199 rfl rfl ?_
  refine g_iconst (n := 1) dL_200 (by decide) ?_
  refine g_iadd dL_201 (by omega) ?_
  refine g_sld hxs dL_202 (by omega) (by omega) ?_
  refine g_aload_n (i := 0) (x := 200) dL_203 rfl rfl ?_
  refine g_iload_n (i := 3) (x := i) dL_204 rfl rfl ?_
  refine g_iconst (n := 2) dL_205 (by decide) ?_
  refine g_iadd dL_206 (by omega) ?_
  refine g_sld hxs dL_207 (by omega) (by omega) ?_
  refine g_aload_n (i := 0) (x := 200) dL_208 rfl rfl ?_
  refine g_iload_n (i := 3) (x := i) dL_209 rfl rfl ?_
  refine g_iconst (n := 3) dL_210 (by decide) ?_
  refine g_iadd dL_211 (by omega) ?_
  refine g_sld hxs dL_212 (by omega) (by omega) ?_
  refine g_aload_n (i := 0) (x := 200) dL_213 rfl rfl ?_
  refine g_iload_n (i := 3) (x := i) dL_214 rfl rfl ?_
  refine g_iconst (n := 4) dL_215 (by decide) ?_
  refine g_iadd dL_216 (by omega) ?_
  refine g_sld hxs dL_217 (by omega) (by omega) ?_
  refine g_aload_n (i := 0) (x := 200) dL_218 rfl rfl ?_
  refine g_iload_n (i := 3) (x := i) dL_219 rfl rfl ?_
  refine g_iconst (n := 5) dL_220 (by decide) ?_
  refine g_iadd dL_221 (by omega) ?_
  refine g_sld hxs dL_222 (by omega) (by omega) ?_
  refine g_callV (C := RX10) (ci := 10) (As := [aI (xs ((i : Int) + 1).toNat), aI (xs ((i : Int) + 2).toNat), aI (xs ((i : Int) + 3).toNat), aI (xs ((i : Int) + 4).toNat), aI (xs ((i : Int) + 5).toNat)]) (n := 5) dL_223 ⟨m_7_4, pdX10_place, ⟨Nat.le_of_ble_eq_true rfl, Nat.le_of_ble_eq_true rfl⟩, rfl, rfl, Nat.le_of_ble_eq_true rfl, Nat.le_of_ble_eq_true rfl⟩ m_7_1 m_7_2 m_7_3 m_1_2 rfl rfl (by decide) rfl rfl (Nat.le_of_ble_eq_true rfl) (t_place (Q := fun r r' I2 => r' = r ∧ RR I2) h (fun r I' hr => ⟨rfl, hr⟩)) (fun r0 I1 h1 => ?_)
  obtain ⟨r, rfl, h1⟩ := h1
  refine g_aload_n (i := 2) (x := 60) dL_226 rfl rfl ?_
  refine g_aload_n (i := 0) (x := 200) dL_227 rfl rfl ?_
  refine g_iload_n (i := 3) (x := i) dL_228 rfl rfl ?_
  refine g_iconst (n := 1) dL_229 (by decide) ?_
  refine g_iadd dL_230 (by omega) ?_
  refine g_sld hxs dL_231 (by omega) (by omega) ?_
  refine g_aload_n (i := 0) (x := 200) dL_232 rfl rfl ?_
  refine g_iload_n (i := 3) (x := i) dL_233 rfl rfl ?_
  refine g_iconst (n := 2) dL_234 (by decide) ?_
  refine g_iadd dL_235 (by omega) ?_
  refine g_sld hxs dL_236 (by omega) (by omega) ?_
  refine g_aload_n (i := 0) (x := 200) dL_237 rfl rfl ?_
  refine g_iload_n (i := 3) (x := i) dL_238 rfl rfl ?_
  refine g_iconst (n := 3) dL_239 (by decide) ?_
  refine g_iadd dL_240 (by omega) ?_
  refine g_sld hxs dL_241 (by omega) (by omega) ?_
  refine g_aload_n (i := 0) (x := 200) dL_242 rfl rfl ?_
  refine g_iload_n (i := 3) (x := i) dL_243 rfl rfl ?_
  refine g_iconst (n := 4) dL_244 (by decide) ?_
  refine g_iadd dL_245 (by omega) ?_
  refine g_sld hxs dL_246 (by omega) (by omega) ?_
  refine g_aload_n (i := 0) (x := 200) dL_247 rfl rfl ?_
  refine g_iload_n (i := 3) (x := i) dL_248 rfl rfl ?_
  refine g_iconst (n := 5) dL_249 (by decide) ?_
  refine g_iadd dL_250 (by omega) ?_
  refine g_sld hxs dL_251 (by omega) (by omega) ?_
  refine g_callV (C := RX11) (ci := 11) (As := [aI (xs ((i : Int) + 1).toNat), aI (xs ((i : Int) + 2).toNat), aI (xs ((i : Int) + 3).toNat), aI (xs ((i : Int) + 4).toNat), aI (xs ((i : Int) + 5).toNat)]) (n := 5) dL_252 ⟨m_8_4, pdX11_place, ⟨Nat.le_of_ble_eq_true rfl, Nat.le_of_ble_eq_true rfl⟩, rfl, rfl, Nat.le_of_ble_eq_true rfl, Nat.le_of_ble_eq_true rfl⟩ m_8_1 m_8_2 m_8_3 m_1_5 rfl rfl (by decide) rfl rfl (Nat.le_of_ble_eq_true rfl) h1 (fun r0 I2 h2 => ?_)
  obtain ⟨r', rfl, rfl, h2⟩ := h2
  exact g_icmp_eq dL_255 (tgt := 1108) (by decide) (fun _ => k I2 h2) (fun q => absurd rfl q)
theorem L_pipe {n : Nat} {xs : Nat → Int} {i : Nat} {I : z_M} (hxs : ∀ j, inI (xs j)) (hi : i + 6 ≤ n) (hn : n ≤ 384) (h : RR I) (k : ∀ I', RR I' → z_R (muL n xs) finL 1108 [aR 200, aR 0, aR 60, aI i] [] I') : z_R (muL n xs) finL 260 [aR 200, aR 0, aR 60, aI i] [] I := by
  refine g_aload_n (i := 1) (x := 0) dL_260 rfl rfl ?_
  refine g_aload_n (i := 0) (x := 200) dL_261 rfl rfl ?_
  refine g_iload_n (i := 3) (x := i) dL_262 rfl rfl ?_
  refine g_iconst (n := 1) dL_263 (by decide) ?_
  refine g_iadd dL_264 (by omega) ?_
  refine g_sld hxs dL_265 (by omega) (by omega) ?_
  refine g_aload_n (i := 0) (x := 200) dL_266 rfl rfl ?_
  refine g_iload_n (i := 3) (x := i) dL_267 rfl rfl ?_
  refine g_iconst (n := 2) dL_268 (by decide) ?_
  refine g_iadd dL_269 (by omega) ?_
  refine g_sld hxs dL_270 (by omega) (by omega) ?_
  refine g_callV (C := RX10) (ci := 10) (As := [aI (xs ((i : Int) + 1).toNat), aI (xs ((i : Int) + 2).toNat)]) (n := 2) dL_271 ⟨m_9_6, pdX10_pipe, ⟨Nat.le_of_ble_eq_true rfl, Nat.le_of_ble_eq_true rfl⟩, rfl, rfl, Nat.le_of_ble_eq_true rfl, Nat.le_of_ble_eq_true rfl⟩ m_9_3 m_9_4 m_9_5 m_1_2 rfl rfl (by decide) rfl rfl (Nat.le_of_ble_eq_true rfl) (t_pipe (Q := fun r r' I2 => r' = r ∧ RR I2) h (fun r I' hr => ⟨rfl, hr⟩)) (fun r0 I1 h1 => ?_)
  obtain ⟨r, rfl, h1⟩ := h1
  refine g_aload_n (i := 2) (x := 60) dL_274 rfl rfl ?_
  refine g_aload_n (i := 0) (x := 200) dL_275 rfl rfl ?_
  refine g_iload_n (i := 3) (x := i) dL_276 rfl rfl ?_
  refine g_iconst (n := 1) dL_277 (by decide) ?_
  refine g_iadd dL_278 (by omega) ?_
  refine g_sld hxs dL_279 (by omega) (by omega) ?_
  refine g_aload_n (i := 0) (x := 200) dL_280 rfl rfl ?_
  refine g_iload_n (i := 3) (x := i) dL_281 rfl rfl ?_
  refine g_iconst (n := 2) dL_282 (by decide) ?_
  refine g_iadd dL_283 (by omega) ?_
  refine g_sld hxs dL_284 (by omega) (by omega) ?_
  refine g_callV (C := RX11) (ci := 11) (As := [aI (xs ((i : Int) + 1).toNat), aI (xs ((i : Int) + 2).toNat)]) (n := 2) dL_285 ⟨m_9_18, pdX11_pipe, ⟨Nat.le_of_ble_eq_true rfl, Nat.le_of_ble_eq_true rfl⟩, rfl, rfl, Nat.le_of_ble_eq_true rfl, Nat.le_of_ble_eq_true rfl⟩ m_9_15 m_9_16 m_9_17 m_1_5 rfl rfl (by decide) rfl rfl (Nat.le_of_ble_eq_true rfl) h1 (fun r0 I2 h2 => ?_)
  obtain ⟨r', rfl, rfl, h2⟩ := h2
  exact g_icmp_eq dL_288 (tgt := 1108) (by decide) (fun _ => k I2 h2) (fun q => absurd rfl q)
theorem L_note {n : Nat} {xs : Nat → Int} {i : Nat} {I : z_M} (hxs : ∀ j, inI (xs j)) (hi : i + 6 ≤ n) (hn : n ≤ 384) (h : RR I) (k : ∀ I', RR I' → z_R (muL n xs) finL 1108 [aR 200, aR 0, aR 60, aI i] [] I') : z_R (muL n xs) finL 293 [aR 200, aR 0, aR 60, aI i] [] I := by
  refine g_aload_n (i := 1) (x := 0) dL_293 rfl rfl ?_
  refine g_aload_n (i := 0) (x := 200) dL_294 rfl rfl ?_
  refine g_iload_n (i := 3) (x := i) dL_295 rfl rfl ?_
  refine g_iconst (n := 1) dL_296 (by decide) ?_
  refine g_iadd dL_297 (by omega) ?_
  refine g_sld hxs dL_298 (by omega) (by omega) ?_
  refine g_aload_n (i := 0) (x := 200) dL_299 rfl rfl ?_
  refine g_iload_n (i := 3) (x := i) dL_300 rfl rfl ?_
  refine g_iconst (n := 2) dL_301 (by decide) ?_
  refine g_iadd dL_302 (by omega) ?_
  refine g_sld hxs dL_303 (by omega) (by omega) ?_
  refine g_callV (C := RX10) (ci := 10) (As := [aI (xs ((i : Int) + 1).toNat), aI (xs ((i : Int) + 2).toNat)]) (n := 2) dL_304 ⟨m_10_3, pdX10_note, ⟨Nat.le_of_ble_eq_true rfl, Nat.le_of_ble_eq_true rfl⟩, rfl, rfl, Nat.le_of_ble_eq_true rfl, Nat.le_of_ble_eq_true rfl⟩ m_10_0 m_10_1 m_10_2 m_1_2 rfl rfl (by decide) rfl rfl (Nat.le_of_ble_eq_true rfl) (t_note (Q := fun r r' I2 => r' = r ∧ RR I2) h (fun r I' hr => ⟨rfl, hr⟩)) (fun r0 I1 h1 => ?_)
  obtain ⟨r, rfl, h1⟩ := h1
  refine g_aload_n (i := 2) (x := 60) dL_307 rfl rfl ?_
  refine g_aload_n (i := 0) (x := 200) dL_308 rfl rfl ?_
  refine g_iload_n (i := 3) (x := i) dL_309 rfl rfl ?_
  refine g_iconst (n := 1) dL_310 (by decide) ?_
  refine g_iadd dL_311 (by omega) ?_
  refine g_sld hxs dL_312 (by omega) (by omega) ?_
  refine g_aload_n (i := 0) (x := 200) dL_313 rfl rfl ?_
  refine g_iload_n (i := 3) (x := i) dL_314 rfl rfl ?_
  refine g_iconst (n := 2) dL_315 (by decide) ?_
  refine g_iadd dL_316 (by omega) ?_
  refine g_sld hxs dL_317 (by omega) (by omega) ?_
  refine g_callV (C := RX11) (ci := 11) (As := [aI (xs ((i : Int) + 1).toNat), aI (xs ((i : Int) + 2).toNat)]) (n := 2) dL_318 ⟨m_10_15, pdX11_note, ⟨Nat.le_of_ble_eq_true rfl, Nat.le_of_ble_eq_true rfl⟩, rfl, rfl, Nat.le_of_ble_eq_true rfl, Nat.le_of_ble_eq_true rfl⟩ m_10_12 m_10_13 m_10_14 m_1_5 rfl rfl (by decide) rfl rfl (Nat.le_of_ble_eq_true rfl) h1 (fun r0 I2 h2 => ?_)
  obtain ⟨r', rfl, rfl, h2⟩ := h2
  exact g_icmp_eq dL_321 (tgt := 1108) (by decide) (fun _ => k I2 h2) (fun q => absurd rfl q)
theorem L_hush {n : Nat} {xs : Nat → Int} {i : Nat} {I : z_M} (hxs : ∀ j, inI (xs j)) (hi : i + 6 ≤ n) (hn : n ≤ 384) (h : RR I) (k : ∀ I', RR I' → z_R (muL n xs) finL 1108 [aR 200, aR 0, aR 60, aI i] [] I') : z_R (muL n xs) finL 326 [aR 200, aR 0, aR 60, aI i] [] I := by
  refine g_aload_n (i := 1) (x := 0) dL_326 rfl rfl ?_
  refine g_aload_n (i := 0) (x := 200) dL_327 rfl rfl ?_
  refine g_iload_n (i := 3) (x := i) dL_328 rfl rfl ?_
  refine g_iconst (n := 1) dL_329 (by decide) ?_
  refine g_iadd dL_330 (by omega) ?_
  refine g_sld hxs dL_331 (by omega) (by omega) ?_
  refine g_callV (C := RX10) (ci := 10) (As := [aI (xs ((i : Int) + 1).toNat)]) (n := 1) dL_332 ⟨m_11_3, pdX10_hush, ⟨Nat.le_of_ble_eq_true rfl, Nat.le_of_ble_eq_true rfl⟩, rfl, rfl, Nat.le_of_ble_eq_true rfl, Nat.le_of_ble_eq_true rfl⟩ m_11_0 m_11_1 m_11_2 m_1_2 rfl rfl (by decide) rfl rfl (Nat.le_of_ble_eq_true rfl) (t_hush (Q := fun r r' I2 => r' = r ∧ RR I2) h (fun r I' hr => ⟨rfl, hr⟩)) (fun r0 I1 h1 => ?_)
  obtain ⟨r, rfl, h1⟩ := h1
  refine g_aload_n (i := 2) (x := 60) dL_335 rfl rfl ?_
  refine g_aload_n (i := 0) (x := 200) dL_336 rfl rfl ?_
  refine g_iload_n (i := 3) (x := i) dL_337 rfl rfl ?_
  refine g_iconst (n := 1) dL_338 (by decide) ?_
  refine g_iadd dL_339 (by omega) ?_
  refine g_sld hxs dL_340 (by omega) (by omega) ?_
  refine g_callV (C := RX11) (ci := 11) (As := [aI (xs ((i : Int) + 1).toNat)]) (n := 1) dL_341 ⟨m_11_8, pdX11_hush, ⟨Nat.le_of_ble_eq_true rfl, Nat.le_of_ble_eq_true rfl⟩, rfl, rfl, Nat.le_of_ble_eq_true rfl, Nat.le_of_ble_eq_true rfl⟩ m_11_5 m_11_6 m_11_7 m_1_5 rfl rfl (by decide) rfl rfl (Nat.le_of_ble_eq_true rfl) h1 (fun r0 I2 h2 => ?_)
  obtain ⟨r', rfl, rfl, h2⟩ := h2
  exact g_icmp_eq dL_344 (tgt := 1108) (by decide) (fun _ => k I2 h2) (fun q => absurd rfl q)
theorem L_type {n : Nat} {xs : Nat → Int} {i : Nat} {I : z_M} (hxs : ∀ j, inI (xs j)) (hi : i + 6 ≤ n) (hn : n ≤ 384) (h : RR I) (k : ∀ I', RR I' → z_R (muL n xs) finL 1108 [aR 200, aR 0, aR 60, aI i] [] I') : z_R (muL n xs) finL 349 [aR 200, aR 0, aR 60, aI i] [] I := by
  refine g_aload_n (i := 1) (x := 0) dL_349 rfl rfl ?_
  refine g_aload_n (i := 0) (x := 200) dL_350 rfl rfl ?_
  refine g_iload_n (i := 3) (x := i) dL_351 rfl rfl ?_
  refine g_iconst (n := 1) dL_352 (by decide) ?_
  refine g_iadd dL_353 (by omega) ?_
  refine g_sld hxs dL_354 (by omega) (by omega) ?_
  refine g_callV (C := RX10) (ci := 10) (As := [aI (xs ((i : Int) + 1).toNat)]) (n := 1) dL_355 ⟨m_11_12, pdX10_type, ⟨Nat.le_of_ble_eq_true rfl, Nat.le_of_ble_eq_true rfl⟩, rfl, rfl, Nat.le_of_ble_eq_true rfl, Nat.le_of_ble_eq_true rfl⟩ m_11_9 m_11_10 m_11_11 m_1_2 rfl rfl (by decide) rfl rfl (Nat.le_of_ble_eq_true rfl) (t_type (Q := fun r r' I2 => r' = r ∧ RR I2) h (fun r I' hr => ⟨rfl, hr⟩)) (fun r0 I1 h1 => ?_)
  obtain ⟨r, rfl, h1⟩ := h1
  refine g_aload_n (i := 2) (x := 60) dL_358 rfl rfl ?_
  refine g_aload_n (i := 0) (x := 200) dL_359 rfl rfl ?_
  refine g_iload_n (i := 3) (x := i) dL_360 rfl rfl ?_
  refine g_iconst (n := 1) dL_361 (by decide) ?_
  refine g_iadd dL_362 (by omega) ?_
  refine g_sld hxs dL_363 (by omega) (by omega) ?_
  refine g_callV (C := RX11) (ci := 11) (As := [aI (xs ((i : Int) + 1).toNat)]) (n := 1) dL_364 ⟨m_11_22, pdX11_type, ⟨Nat.le_of_ble_eq_true rfl, Nat.le_of_ble_eq_true rfl⟩, rfl, rfl, Nat.le_of_ble_eq_true rfl, Nat.le_of_ble_eq_true rfl⟩ m_11_19 m_11_20 m_11_21 m_1_5 rfl rfl (by decide) rfl rfl (Nat.le_of_ble_eq_true rfl) h1 (fun r0 I2 h2 => ?_)
  obtain ⟨r', rfl, rfl, h2⟩ := h2
  exact g_icmp_eq dL_367 (tgt := 1108) (by decide) (fun _ => k I2 h2) (fun q => absurd rfl q)
theorem L_clear {n : Nat} {xs : Nat → Int} {i : Nat} {I : z_M} (hxs : ∀ j, inI (xs j)) (hi : i + 6 ≤ n) (hn : n ≤ 384) (h : RR I) (k : ∀ I', RR I' → z_R (muL n xs) finL 1108 [aR 200, aR 0, aR 60, aI i] [] I') : z_R (muL n xs) finL 372 [aR 200, aR 0, aR 60, aI i] [] I := by
  refine g_aload_n (i := 1) (x := 0) dL_372 rfl rfl ?_
  refine g_callV (C := RX10) (ci := 10) (As := []) (n := 0) dL_373 ⟨m_12_4, pdX10_clear, ⟨Nat.le_of_ble_eq_true rfl, Nat.le_of_ble_eq_true rfl⟩, rfl, rfl, Nat.le_of_ble_eq_true rfl, Nat.le_of_ble_eq_true rfl⟩ m_12_1 m_12_2 m_12_3 m_1_2 rfl rfl (by decide) rfl rfl (Nat.le_of_ble_eq_true rfl) (t_clear (Q := fun r r' I2 => r' = r ∧ RR I2) h (fun r I' hr => ⟨rfl, hr⟩)) (fun r0 I1 h1 => ?_)
  obtain ⟨r, rfl, h1⟩ := h1
  refine g_aload_n (i := 2) (x := 60) dL_376 rfl rfl ?_
  refine g_callV (C := RX11) (ci := 11) (As := []) (n := 0) dL_377 ⟨m_12_8, pdX11_clear, ⟨Nat.le_of_ble_eq_true rfl, Nat.le_of_ble_eq_true rfl⟩, rfl, rfl, Nat.le_of_ble_eq_true rfl, Nat.le_of_ble_eq_true rfl⟩ m_12_5 m_12_6 m_12_7 m_1_5 rfl rfl (by decide) rfl rfl (Nat.le_of_ble_eq_true rfl) h1 (fun r0 I2 h2 => ?_)
  obtain ⟨r', rfl, rfl, h2⟩ := h2
  exact g_icmp_eq dL_380 (tgt := 1108) (by decide) (fun _ => k I2 h2) (fun q => absurd rfl q)
theorem L_read {n : Nat} {xs : Nat → Int} {i : Nat} {I : z_M} (hxs : ∀ j, inI (xs j)) (hi : i + 6 ≤ n) (hn : n ≤ 384) (h : RR I) (k : ∀ I', RR I' → z_R (muL n xs) finL 1108 [aR 200, aR 0, aR 60, aI i] [] I') : z_R (muL n xs) finL 385 [aR 200, aR 0, aR 60, aI i] [] I := by
  refine g_aload_n (i := 1) (x := 0) dL_385 rfl rfl ?_
  refine g_callV (C := RX10) (ci := 10) (As := []) (n := 0) dL_386 ⟨m_12_12, pdX10_read, ⟨Nat.le_of_ble_eq_true rfl, Nat.le_of_ble_eq_true rfl⟩, rfl, rfl, Nat.le_of_ble_eq_true rfl, Nat.le_of_ble_eq_true rfl⟩ m_12_9 m_12_10 m_12_11 m_1_2 rfl rfl (by decide) rfl rfl (Nat.le_of_ble_eq_true rfl) (t_read (Q := fun r r' I2 => r' = r ∧ RR I2) h (fun r I' hr => ⟨rfl, hr⟩)) (fun r0 I1 h1 => ?_)
  obtain ⟨r, rfl, h1⟩ := h1
  refine g_aload_n (i := 2) (x := 60) dL_389 rfl rfl ?_
  refine g_callV (C := RX11) (ci := 11) (As := []) (n := 0) dL_390 ⟨m_17_15, pdX11_read, ⟨Nat.le_of_ble_eq_true rfl, Nat.le_of_ble_eq_true rfl⟩, rfl, rfl, Nat.le_of_ble_eq_true rfl, Nat.le_of_ble_eq_true rfl⟩ m_17_12 m_17_13 m_17_14 m_1_5 rfl rfl (by decide) rfl rfl (Nat.le_of_ble_eq_true rfl) h1 (fun r0 I2 h2 => ?_)
  obtain ⟨r', rfl, rfl, h2⟩ := h2
  exact g_icmp_eq dL_393 (tgt := 1108) (by decide) (fun _ => k I2 h2) (fun q => absurd rfl q)
theorem L_pass {n : Nat} {xs : Nat → Int} {i : Nat} {I : z_M} (hxs : ∀ j, inI (xs j)) (hi : i + 6 ≤ n) (hn : n ≤ 384) (h : RR I) (k : ∀ I', RR I' → z_R (muL n xs) finL 1108 [aR 200, aR 0, aR 60, aI i] [] I') : z_R (muL n xs) finL 398 [aR 200, aR 0, aR 60, aI i] [] I := by
  refine g_aload_n (i := 1) (x := 0) dL_398 rfl rfl ?_
  refine g_aload_n (i := 0) (x := 200) dL_399 rfl rfl ?_
  refine g_iload_n (i := 3) (x := i) dL_400 rfl rfl ?_
  refine g_iconst (n := 1) dL_401 (by decide) ?_
  refine g_iadd dL_402 (by omega) ?_
  refine g_sld hxs dL_403 (by omega) (by omega) ?_
  refine g_callV (C := RX10) (ci := 10) (As := [aI (xs ((i : Int) + 1).toNat)]) (n := 1) dL_404 ⟨m_19_17, pdX10_pass, ⟨Nat.le_of_ble_eq_true rfl, Nat.le_of_ble_eq_true rfl⟩, rfl, rfl, Nat.le_of_ble_eq_true rfl, Nat.le_of_ble_eq_true rfl⟩ m_19_14 m_19_15 m_19_16 m_1_2 rfl rfl (by decide) rfl rfl (Nat.le_of_ble_eq_true rfl) (t_pass (Q := fun r r' I2 => r' = r ∧ RR I2) h (fun r I' hr => ⟨rfl, hr⟩)) (fun r0 I1 h1 => ?_)
  obtain ⟨r, rfl, h1⟩ := h1
  refine g_aload_n (i := 2) (x := 60) dL_407 rfl rfl ?_
  refine g_aload_n (i := 0) (x := 200) dL_408 rfl rfl ?_
  refine g_iload_n (i := 3) (x := i) dL_409 rfl rfl ?_
  refine g_iconst (n := 1) dL_410 (by decide) ?_
  refine g_iadd dL_411 (by omega) ?_
  refine g_sld hxs dL_412 (by omega) (by omega) ?_
  refine g_callV (C := RX11) (ci := 11) (As := [aI (xs ((i : Int) + 1).toNat)]) (n := 1) dL_413 ⟨m_23_16, pdX11_pass, ⟨Nat.le_of_ble_eq_true rfl, Nat.le_of_ble_eq_true rfl⟩, rfl, rfl, Nat.le_of_ble_eq_true rfl, Nat.le_of_ble_eq_true rfl⟩ m_23_13 m_23_14 m_23_15 m_1_5 rfl rfl (by decide) rfl rfl (Nat.le_of_ble_eq_true rfl) h1 (fun r0 I2 h2 => ?_)
  obtain ⟨r', rfl, rfl, h2⟩ := h2
  exact g_icmp_eq dL_416 (tgt := 1108) (by decide) (fun _ => k I2 h2) (fun q => absurd rfl q)
theorem L_fetch {n : Nat} {xs : Nat → Int} {i : Nat} {I : z_M} (hxs : ∀ j, inI (xs j)) (hi : i + 6 ≤ n) (hn : n ≤ 384) (h : RR I) (k : ∀ I', RR I' → z_R (muL n xs) finL 1108 [aR 200, aR 0, aR 60, aI i] [] I') : z_R (muL n xs) finL 421 [aR 200, aR 0, aR 60, aI i] [] I := by
  refine g_aload_n (i := 1) (x := 0) dL_421 rfl rfl ?_
  refine g_aload_n (i := 0) (x := 200) dL_422 rfl rfl ?_
  refine g_iload_n (i := 3) (x := i) dL_423 rfl rfl ?_
  refine g_iconst (n := 1) dL_424 (by decide) ?_
  refine g_iadd dL_425 (by omega) ?_
  refine g_sld hxs dL_426 (by omega) (by omega) ?_
  refine g_callV (C := RX10) (ci := 10) (As := [aI (xs ((i : Int) + 1).toNat)]) (n := 1) dL_427 ⟨m_26_8, pdX10_fetch, ⟨Nat.le_of_ble_eq_true rfl, Nat.le_of_ble_eq_true rfl⟩, rfl, rfl, Nat.le_of_ble_eq_true rfl, Nat.le_of_ble_eq_true rfl⟩ m_26_5 m_26_6 m_26_7 m_1_2 rfl rfl (by decide) rfl rfl (Nat.le_of_ble_eq_true rfl) (t_fetch (Q := fun r r' I2 => r' = r ∧ RR I2) h (fun r I' hr => ⟨rfl, hr⟩)) (fun r0 I1 h1 => ?_)
  obtain ⟨r, rfl, h1⟩ := h1
  refine g_aload_n (i := 2) (x := 60) dL_430 rfl rfl ?_
  refine g_aload_n (i := 0) (x := 200) dL_431 rfl rfl ?_
  refine g_iload_n (i := 3) (x := i) dL_432 rfl rfl ?_
  refine g_iconst (n := 1) dL_433 (by decide) ?_
  refine g_iadd dL_434 (by omega) ?_
  refine g_sld hxs dL_435 (by omega) (by omega) ?_
  refine g_callV (C := RX11) (ci := 11) (As := [aI (xs ((i : Int) + 1).toNat)]) (n := 1) dL_436 ⟨m_26_23, pdX11_fetch, ⟨Nat.le_of_ble_eq_true rfl, Nat.le_of_ble_eq_true rfl⟩, rfl, rfl, Nat.le_of_ble_eq_true rfl, Nat.le_of_ble_eq_true rfl⟩ m_26_20 m_26_21 m_26_22 m_1_5 rfl rfl (by decide) rfl rfl (Nat.le_of_ble_eq_true rfl) h1 (fun r0 I2 h2 => ?_)
  obtain ⟨r', rfl, rfl, h2⟩ := h2
  exact g_icmp_eq dL_439 (tgt := 1108) (by decide) (fun _ => k I2 h2) (fun q => absurd rfl q)
theorem L_undo {n : Nat} {xs : Nat → Int} {i : Nat} {I : z_M} (hxs : ∀ j, inI (xs j)) (hi : i + 6 ≤ n) (hn : n ≤ 384) (h : RR I) (k : ∀ I', RR I' → z_R (muL n xs) finL 1108 [aR 200, aR 0, aR 60, aI i] [] I') : z_R (muL n xs) finL 444 [aR 200, aR 0, aR 60, aI i] [] I := by
  refine g_aload_n (i := 1) (x := 0) dL_444 rfl rfl ?_
  refine g_callV (C := RX10) (ci := 10) (As := []) (n := 0) dL_445 ⟨m_27_11, pdX10_undo, ⟨Nat.le_of_ble_eq_true rfl, Nat.le_of_ble_eq_true rfl⟩, rfl, rfl, Nat.le_of_ble_eq_true rfl, Nat.le_of_ble_eq_true rfl⟩ m_27_8 m_27_9 m_27_10 m_1_2 rfl rfl (by decide) rfl rfl (Nat.le_of_ble_eq_true rfl) (t_undo (Q := fun r r' I2 => r' = r ∧ RR I2) h (fun r I' hr => ⟨rfl, hr⟩)) (fun r0 I1 h1 => ?_)
  obtain ⟨r, rfl, h1⟩ := h1
  refine g_aload_n (i := 2) (x := 60) dL_448 rfl rfl ?_
  refine g_callV (C := RX11) (ci := 11) (As := []) (n := 0) dL_449 ⟨m_27_20, pdX11_undo, ⟨Nat.le_of_ble_eq_true rfl, Nat.le_of_ble_eq_true rfl⟩, rfl, rfl, Nat.le_of_ble_eq_true rfl, Nat.le_of_ble_eq_true rfl⟩ m_27_17 m_27_18 m_27_19 m_1_5 rfl rfl (by decide) rfl rfl (Nat.le_of_ble_eq_true rfl) h1 (fun r0 I2 h2 => ?_)
  obtain ⟨r', rfl, rfl, h2⟩ := h2
  exact g_icmp_eq dL_452 (tgt := 1108) (by decide) (fun _ => k I2 h2) (fun q => absurd rfl q)
theorem L_of {n : Nat} {xs : Nat → Int} {i : Nat} {I : z_M} (hxs : ∀ j, inI (xs j)) (hi : i + 6 ≤ n) (hn : n ≤ 384) (h : RR I) (k : ∀ I', RR I' → z_R (muL n xs) finL 1108 [aR 200, aR 0, aR 60, aI i] [] I') : z_R (muL n xs) finL 457 [aR 200, aR 0, aR 60, aI i] [] I := by
  refine g_aload_n (i := 1) (x := 0) dL_457 rfl rfl ?_
  refine g_aload_n (i := 0) (x := 200) dL_458 rfl rfl ?_
  refine g_iload_n (i := 3) (x := i) dL_459 rfl rfl ?_
  refine g_iconst (n := 1) dL_460 (by decide) ?_
  refine g_iadd dL_461 (by omega) ?_
  refine g_sld hxs dL_462 (by omega) (by omega) ?_
  refine g_aload_n (i := 0) (x := 200) dL_463 rfl rfl ?_
  refine g_iload_n (i := 3) (x := i) dL_464 rfl rfl ?_
  refine g_iconst (n := 2) dL_465 (by decide) ?_
  refine g_iadd dL_466 (by omega) ?_
  refine g_sld hxs dL_467 (by omega) (by omega) ?_
  refine g_callV (C := RX10) (ci := 10) (As := [aI (xs ((i : Int) + 1).toNat), aI (xs ((i : Int) + 2).toNat)]) (n := 2) dL_468 ⟨m_28_0, pdX10_of, ⟨Nat.le_of_ble_eq_true rfl, Nat.le_of_ble_eq_true rfl⟩, rfl, rfl, Nat.le_of_ble_eq_true rfl, Nat.le_of_ble_eq_true rfl⟩ m_27_21 m_27_22 m_27_23 m_1_2 rfl rfl (by decide) rfl rfl (Nat.le_of_ble_eq_true rfl) (t_of (Q := fun r r' I2 => r' = r ∧ RR I2) h (fun r I' hr => ⟨rfl, hr⟩)) (fun r0 I1 h1 => ?_)
  obtain ⟨r, rfl, h1⟩ := h1
  refine g_aload_n (i := 2) (x := 60) dL_471 rfl rfl ?_
  refine g_aload_n (i := 0) (x := 200) dL_472 rfl rfl ?_
  refine g_iload_n (i := 3) (x := i) dL_473 rfl rfl ?_
  refine g_iconst (n := 1) dL_474 (by decide) ?_
  refine g_iadd dL_475 (by omega) ?_
  refine g_sld hxs dL_476 (by omega) (by omega) ?_
  refine g_aload_n (i := 0) (x := 200) dL_477 rfl rfl ?_
  refine g_iload_n (i := 3) (x := i) dL_478 rfl rfl ?_
  refine g_iconst (n := 2) dL_479 (by decide) ?_
  refine g_iadd dL_480 (by omega) ?_
  refine g_sld hxs dL_481 (by omega) (by omega) ?_
  refine g_callV (C := RX11) (ci := 11) (As := [aI (xs ((i : Int) + 1).toNat), aI (xs ((i : Int) + 2).toNat)]) (n := 2) dL_482 ⟨m_28_15, pdX11_of, ⟨Nat.le_of_ble_eq_true rfl, Nat.le_of_ble_eq_true rfl⟩, rfl, rfl, Nat.le_of_ble_eq_true rfl, Nat.le_of_ble_eq_true rfl⟩ m_28_12 m_28_13 m_28_14 m_1_5 rfl rfl (by decide) rfl rfl (Nat.le_of_ble_eq_true rfl) h1 (fun r0 I2 h2 => ?_)
  obtain ⟨r', rfl, rfl, h2⟩ := h2
  exact g_icmp_eq dL_485 (tgt := 1108) (by decide) (fun _ => k I2 h2) (fun q => absurd rfl q)
theorem L_at {n : Nat} {xs : Nat → Int} {i : Nat} {I : z_M} (hxs : ∀ j, inI (xs j)) (hi : i + 6 ≤ n) (hn : n ≤ 384) (h : RR I) (k : ∀ I', RR I' → z_R (muL n xs) finL 1108 [aR 200, aR 0, aR 60, aI i] [] I') : z_R (muL n xs) finL 490 [aR 200, aR 0, aR 60, aI i] [] I := by
  refine g_aload_n (i := 1) (x := 0) dL_490 rfl rfl ?_
  refine g_aload_n (i := 0) (x := 200) dL_491 rfl rfl ?_
  refine g_iload_n (i := 3) (x := i) dL_492 rfl rfl ?_
  refine g_iconst (n := 1) dL_493 (by decide) ?_
  refine g_iadd dL_494 (by omega) ?_
  refine g_sld hxs dL_495 (by omega) (by omega) ?_
  refine g_aload_n (i := 0) (x := 200) dL_496 rfl rfl ?_
  refine g_iload_n (i := 3) (x := i) dL_497 rfl rfl ?_
  refine g_iconst (n := 2) dL_498 (by decide) ?_
  refine g_iadd dL_499 (by omega) ?_
  refine g_sld hxs dL_500 (by omega) (by omega) ?_
  refine g_callV (C := RX10) (ci := 10) (As := [aI (xs ((i : Int) + 1).toNat), aI (xs ((i : Int) + 2).toNat)]) (n := 2) dL_501 ⟨m_28_20, pdX10_at, ⟨Nat.le_of_ble_eq_true rfl, Nat.le_of_ble_eq_true rfl⟩, rfl, rfl, Nat.le_of_ble_eq_true rfl, Nat.le_of_ble_eq_true rfl⟩ m_28_17 m_28_18 m_28_19 m_1_2 rfl rfl (by decide) rfl rfl (Nat.le_of_ble_eq_true rfl) (t_at (Q := fun r r' I2 => r' = r ∧ RR I2) h (fun r I' hr => ⟨rfl, hr⟩)) (fun r0 I1 h1 => ?_)
  obtain ⟨r, rfl, h1⟩ := h1
  refine g_aload_n (i := 2) (x := 60) dL_504 rfl rfl ?_
  refine g_aload_n (i := 0) (x := 200) dL_505 rfl rfl ?_
  refine g_iload_n (i := 3) (x := i) dL_506 rfl rfl ?_
  refine g_iconst (n := 1) dL_507 (by decide) ?_
  refine g_iadd dL_508 (by omega) ?_
  refine g_sld hxs dL_509 (by omega) (by omega) ?_
  refine g_aload_n (i := 0) (x := 200) dL_510 rfl rfl ?_
  refine g_iload_n (i := 3) (x := i) dL_511 rfl rfl ?_
  refine g_iconst (n := 2) dL_512 (by decide) ?_
  refine g_iadd dL_513 (by omega) ?_
  refine g_sld hxs dL_514 (by omega) (by omega) ?_
  refine g_callV (C := RX11) (ci := 11) (As := [aI (xs ((i : Int) + 1).toNat), aI (xs ((i : Int) + 2).toNat)]) (n := 2) dL_515 ⟨m_29_23, pdX11_at, ⟨Nat.le_of_ble_eq_true rfl, Nat.le_of_ble_eq_true rfl⟩, rfl, rfl, Nat.le_of_ble_eq_true rfl, Nat.le_of_ble_eq_true rfl⟩ m_29_20 m_29_21 m_29_22 m_1_5 rfl rfl (by decide) rfl rfl (Nat.le_of_ble_eq_true rfl) h1 (fun r0 I2 h2 => ?_)
  obtain ⟨r', rfl, rfl, h2⟩ := h2
  exact g_icmp_eq dL_518 (tgt := 1108) (by decide) (fun _ => k I2 h2) (fun q => absurd rfl q)
theorem L_then {n : Nat} {xs : Nat → Int} {i : Nat} {I : z_M} (hxs : ∀ j, inI (xs j)) (hi : i + 6 ≤ n) (hn : n ≤ 384) (h : RR I) (k : ∀ I', RR I' → z_R (muL n xs) finL 1108 [aR 200, aR 0, aR 60, aI i] [] I') : z_R (muL n xs) finL 523 [aR 200, aR 0, aR 60, aI i] [] I := by
  refine g_aload_n (i := 1) (x := 0) dL_523 rfl rfl ?_
  refine g_aload_n (i := 0) (x := 200) dL_524 rfl rfl ?_
  refine g_iload_n (i := 3) (x := i) dL_525 rfl rfl ?_
  refine g_iconst (n := 1) dL_526 (by decide) ?_
  refine g_iadd dL_527 (by omega) ?_
  refine g_sld hxs dL_528 (by omega) (by omega) ?_
  refine g_aload_n (i := 0) (x := 200) dL_529 rfl rfl ?_
  refine g_iload_n (i := 3) (x := i) dL_530 rfl rfl ?_
  refine g_iconst (n := 2) dL_531 (by decide) ?_
  refine g_iadd dL_532 (by omega) ?_
  refine g_sld hxs dL_533 (by omega) (by omega) ?_
  refine g_callV (C := RX10) (ci := 10) (As := [aI (xs ((i : Int) + 1).toNat), aI (xs ((i : Int) + 2).toNat)]) (n := 2) dL_534 ⟨m_30_12, pdX10_then, ⟨Nat.le_of_ble_eq_true rfl, Nat.le_of_ble_eq_true rfl⟩, rfl, rfl, Nat.le_of_ble_eq_true rfl, Nat.le_of_ble_eq_true rfl⟩ m_30_9 m_30_10 m_30_11 m_1_2 rfl rfl (by decide) rfl rfl (Nat.le_of_ble_eq_true rfl) (t_then (Q := fun r r' I2 => r' = r ∧ RR I2) h (fun r I' hr => ⟨rfl, hr⟩)) (fun r0 I1 h1 => ?_)
  obtain ⟨r, rfl, h1⟩ := h1
  refine g_aload_n (i := 2) (x := 60) dL_537 rfl rfl ?_
  refine g_aload_n (i := 0) (x := 200) dL_538 rfl rfl ?_
  refine g_iload_n (i := 3) (x := i) dL_539 rfl rfl ?_
  refine g_iconst (n := 1) dL_540 (by decide) ?_
  refine g_iadd dL_541 (by omega) ?_
  refine g_sld hxs dL_542 (by omega) (by omega) ?_
  refine g_aload_n (i := 0) (x := 200) dL_543 rfl rfl ?_
  refine g_iload_n (i := 3) (x := i) dL_544 rfl rfl ?_
  refine g_iconst (n := 2) dL_545 (by decide) ?_
  refine g_iadd dL_546 (by omega) ?_
  refine g_sld hxs dL_547 (by omega) (by omega) ?_
  refine g_callV (C := RX11) (ci := 11) (As := [aI (xs ((i : Int) + 1).toNat), aI (xs ((i : Int) + 2).toNat)]) (n := 2) dL_548 ⟨m_30_21, pdX11_then, ⟨Nat.le_of_ble_eq_true rfl, Nat.le_of_ble_eq_true rfl⟩, rfl, rfl, Nat.le_of_ble_eq_true rfl, Nat.le_of_ble_eq_true rfl⟩ m_30_18 m_30_19 m_30_20 m_1_5 rfl rfl (by decide) rfl rfl (Nat.le_of_ble_eq_true rfl) h1 (fun r0 I2 h2 => ?_)
  obtain ⟨r', rfl, rfl, h2⟩ := h2
  exact g_icmp_eq dL_551 (tgt := 1108) (by decide) (fun _ => k I2 h2) (fun q => absurd rfl q)
theorem L_left {n : Nat} {xs : Nat → Int} {i : Nat} {I : z_M} (hxs : ∀ j, inI (xs j)) (hi : i + 6 ≤ n) (hn : n ≤ 384) (h : RR I) (k : ∀ I', RR I' → z_R (muL n xs) finL 1108 [aR 200, aR 0, aR 60, aI i] [] I') : z_R (muL n xs) finL 556 [aR 200, aR 0, aR 60, aI i] [] I := by
  refine g_aload_n (i := 1) (x := 0) dL_556 rfl rfl ?_
  refine g_aload_n (i := 0) (x := 200) dL_557 rfl rfl ?_
  refine g_iload_n (i := 3) (x := i) dL_558 rfl rfl ?_
  refine g_iconst (n := 1) dL_559 (by decide) ?_
  refine g_iadd dL_560 (by omega) ?_
  refine g_sld hxs dL_561 (by omega) (by omega) ?_
  refine g_callV (C := RX10) (ci := 10) (As := [aI (xs ((i : Int) + 1).toNat)]) (n := 1) dL_562 ⟨m_31_9, pdX10_left, ⟨Nat.le_of_ble_eq_true rfl, Nat.le_of_ble_eq_true rfl⟩, rfl, rfl, Nat.le_of_ble_eq_true rfl, Nat.le_of_ble_eq_true rfl⟩ m_31_6 m_31_7 m_31_8 m_1_2 rfl rfl (by decide) rfl rfl (Nat.le_of_ble_eq_true rfl) (t_left (Q := fun r r' I2 => r' = r ∧ RR I2) h (fun r I' hr => ⟨rfl, hr⟩)) (fun r0 I1 h1 => ?_)
  obtain ⟨r, rfl, h1⟩ := h1
  refine g_aload_n (i := 2) (x := 60) dL_565 rfl rfl ?_
  refine g_aload_n (i := 0) (x := 200) dL_566 rfl rfl ?_
  refine g_iload_n (i := 3) (x := i) dL_567 rfl rfl ?_
  refine g_iconst (n := 1) dL_568 (by decide) ?_
  refine g_iadd dL_569 (by omega) ?_
  refine g_sld hxs dL_570 (by omega) (by omega) ?_
  refine g_callV (C := RX11) (ci := 11) (As := [aI (xs ((i : Int) + 1).toNat)]) (n := 1) dL_571 ⟨m_31_13, pdX11_left, ⟨Nat.le_of_ble_eq_true rfl, Nat.le_of_ble_eq_true rfl⟩, rfl, rfl, Nat.le_of_ble_eq_true rfl, Nat.le_of_ble_eq_true rfl⟩ m_31_10 m_31_11 m_31_12 m_1_5 rfl rfl (by decide) rfl rfl (Nat.le_of_ble_eq_true rfl) h1 (fun r0 I2 h2 => ?_)
  obtain ⟨r', rfl, rfl, h2⟩ := h2
  exact g_icmp_eq dL_574 (tgt := 1108) (by decide) (fun _ => k I2 h2) (fun q => absurd rfl q)
theorem L_plays {n : Nat} {xs : Nat → Int} {i : Nat} {I : z_M} (hxs : ∀ j, inI (xs j)) (hi : i + 6 ≤ n) (hn : n ≤ 384) (h : RR I) (k : ∀ I', RR I' → z_R (muL n xs) finL 1108 [aR 200, aR 0, aR 60, aI i] [] I') : z_R (muL n xs) finL 579 [aR 200, aR 0, aR 60, aI i] [] I := by
  refine g_aload_n (i := 1) (x := 0) dL_579 rfl rfl ?_
  refine g_aload_n (i := 0) (x := 200) dL_580 rfl rfl ?_
  refine g_iload_n (i := 3) (x := i) dL_581 rfl rfl ?_
  refine g_iconst (n := 1) dL_582 (by decide) ?_
  refine g_iadd dL_583 (by omega) ?_
  refine g_sld hxs dL_584 (by omega) (by omega) ?_
  refine g_aload_n (i := 0) (x := 200) dL_585 rfl rfl ?_
  refine g_iload_n (i := 3) (x := i) dL_586 rfl rfl ?_
  refine g_iconst (n := 2) dL_587 (by decide) ?_
  refine g_iadd dL_588 (by omega) ?_
  refine g_sld hxs dL_589 (by omega) (by omega) ?_
  refine g_callV (C := RX10) (ci := 10) (As := [aI (xs ((i : Int) + 1).toNat), aI (xs ((i : Int) + 2).toNat)]) (n := 2) dL_590 ⟨m_31_17, pdX10_plays, ⟨Nat.le_of_ble_eq_true rfl, Nat.le_of_ble_eq_true rfl⟩, rfl, rfl, Nat.le_of_ble_eq_true rfl, Nat.le_of_ble_eq_true rfl⟩ m_31_14 m_31_15 m_31_16 m_1_2 rfl rfl (by decide) rfl rfl (Nat.le_of_ble_eq_true rfl) (t_plays (Q := fun r r' I2 => r' = r ∧ RR I2) h (fun r I' hr => ⟨rfl, hr⟩)) (fun r0 I1 h1 => ?_)
  obtain ⟨r, rfl, h1⟩ := h1
  refine g_aload_n (i := 2) (x := 60) dL_593 rfl rfl ?_
  refine g_aload_n (i := 0) (x := 200) dL_594 rfl rfl ?_
  refine g_iload_n (i := 3) (x := i) dL_595 rfl rfl ?_
  refine g_iconst (n := 1) dL_596 (by decide) ?_
  refine g_iadd dL_597 (by omega) ?_
  refine g_sld hxs dL_598 (by omega) (by omega) ?_
  refine g_aload_n (i := 0) (x := 200) dL_599 rfl rfl ?_
  refine g_iload_n (i := 3) (x := i) dL_600 rfl rfl ?_
  refine g_iconst (n := 2) dL_601 (by decide) ?_
  refine g_iadd dL_602 (by omega) ?_
  refine g_sld hxs dL_603 (by omega) (by omega) ?_
  refine g_callV (C := RX11) (ci := 11) (As := [aI (xs ((i : Int) + 1).toNat), aI (xs ((i : Int) + 2).toNat)]) (n := 2) dL_604 ⟨m_32_14, pdX11_plays, ⟨Nat.le_of_ble_eq_true rfl, Nat.le_of_ble_eq_true rfl⟩, rfl, rfl, Nat.le_of_ble_eq_true rfl, Nat.le_of_ble_eq_true rfl⟩ m_32_11 m_32_12 m_32_13 m_1_5 rfl rfl (by decide) rfl rfl (Nat.le_of_ble_eq_true rfl) h1 (fun r0 I2 h2 => ?_)
  obtain ⟨r', rfl, rfl, h2⟩ := h2
  exact g_icmp_eq dL_607 (tgt := 1108) (by decide) (fun _ => k I2 h2) (fun q => absurd rfl q)
theorem L_best {n : Nat} {xs : Nat → Int} {i : Nat} {I : z_M} (hxs : ∀ j, inI (xs j)) (hi : i + 6 ≤ n) (hn : n ≤ 384) (h : RR I) (k : ∀ I', RR I' → z_R (muL n xs) finL 1108 [aR 200, aR 0, aR 60, aI i] [] I') : z_R (muL n xs) finL 612 [aR 200, aR 0, aR 60, aI i] [] I := by
  refine g_aload_n (i := 1) (x := 0) dL_612 rfl rfl ?_
  refine g_aload_n (i := 0) (x := 200) dL_613 rfl rfl ?_
  refine g_iload_n (i := 3) (x := i) dL_614 rfl rfl ?_
  refine g_iconst (n := 1) dL_615 (by decide) ?_
  refine g_iadd dL_616 (by omega) ?_
  refine g_sld hxs dL_617 (by omega) (by omega) ?_
  refine g_callV (C := RX10) (ci := 10) (As := [aI (xs ((i : Int) + 1).toNat)]) (n := 1) dL_618 ⟨m_33_15, pdX10_best, ⟨Nat.le_of_ble_eq_true rfl, Nat.le_of_ble_eq_true rfl⟩, rfl, rfl, Nat.le_of_ble_eq_true rfl, Nat.le_of_ble_eq_true rfl⟩ m_33_12 m_33_13 m_33_14 m_1_2 rfl rfl (by decide) rfl rfl (Nat.le_of_ble_eq_true rfl) (t_best (Q := fun r r' I2 => r' = r ∧ RR I2) h (fun r I' hr => ⟨rfl, hr⟩)) (fun r0 I1 h1 => ?_)
  obtain ⟨r, rfl, h1⟩ := h1
  refine g_aload_n (i := 2) (x := 60) dL_621 rfl rfl ?_
  refine g_aload_n (i := 0) (x := 200) dL_622 rfl rfl ?_
  refine g_iload_n (i := 3) (x := i) dL_623 rfl rfl ?_
  refine g_iconst (n := 1) dL_624 (by decide) ?_
  refine g_iadd dL_625 (by omega) ?_
  refine g_sld hxs dL_626 (by omega) (by omega) ?_
  refine g_callV (C := RX11) (ci := 11) (As := [aI (xs ((i : Int) + 1).toNat)]) (n := 1) dL_627 ⟨m_33_19, pdX11_best, ⟨Nat.le_of_ble_eq_true rfl, Nat.le_of_ble_eq_true rfl⟩, rfl, rfl, Nat.le_of_ble_eq_true rfl, Nat.le_of_ble_eq_true rfl⟩ m_33_16 m_33_17 m_33_18 m_1_5 rfl rfl (by decide) rfl rfl (Nat.le_of_ble_eq_true rfl) h1 (fun r0 I2 h2 => ?_)
  obtain ⟨r', rfl, rfl, h2⟩ := h2
  exact g_icmp_eq dL_630 (tgt := 1108) (by decide) (fun _ => k I2 h2) (fun q => absurd rfl q)
theorem L_missing {n : Nat} {xs : Nat → Int} {i : Nat} {I : z_M} (hxs : ∀ j, inI (xs j)) (hi : i + 6 ≤ n) (hn : n ≤ 384) (h : RR I) (k : ∀ I', RR I' → z_R (muL n xs) finL 1108 [aR 200, aR 0, aR 60, aI i] [] I') : z_R (muL n xs) finL 635 [aR 200, aR 0, aR 60, aI i] [] I := by
  refine g_aload_n (i := 1) (x := 0) dL_635 rfl rfl ?_
  refine g_aload_n (i := 0) (x := 200) dL_636 rfl rfl ?_
  refine g_iload_n (i := 3) (x := i) dL_637 rfl rfl ?_
  refine g_iconst (n := 1) dL_638 (by decide) ?_
  refine g_iadd dL_639 (by omega) ?_
  refine g_sld hxs dL_640 (by omega) (by omega) ?_
  refine g_aload_n (i := 0) (x := 200) dL_641 rfl rfl ?_
  refine g_iload_n (i := 3) (x := i) dL_642 rfl rfl ?_
  refine g_iconst (n := 2) dL_643 (by decide) ?_
  refine g_iadd dL_644 (by omega) ?_
  refine g_sld hxs dL_645 (by omega) (by omega) ?_
  refine g_callV (C := RX10) (ci := 10) (As := [aI (xs ((i : Int) + 1).toNat), aI (xs ((i : Int) + 2).toNat)]) (n := 2) dL_646 ⟨m_33_23, pdX10_missing, ⟨Nat.le_of_ble_eq_true rfl, Nat.le_of_ble_eq_true rfl⟩, rfl, rfl, Nat.le_of_ble_eq_true rfl, Nat.le_of_ble_eq_true rfl⟩ m_33_20 m_33_21 m_33_22 m_1_2 rfl rfl (by decide) rfl rfl (Nat.le_of_ble_eq_true rfl) (t_missing (Q := fun r r' I2 => r' = r ∧ RR I2) h (fun r I' hr => ⟨rfl, hr⟩)) (fun r0 I1 h1 => ?_)
  obtain ⟨r, rfl, h1⟩ := h1
  refine g_aload_n (i := 2) (x := 60) dL_649 rfl rfl ?_
  refine g_aload_n (i := 0) (x := 200) dL_650 rfl rfl ?_
  refine g_iload_n (i := 3) (x := i) dL_651 rfl rfl ?_
  refine g_iconst (n := 1) dL_652 (by decide) ?_
  refine g_iadd dL_653 (by omega) ?_
  refine g_sld hxs dL_654 (by omega) (by omega) ?_
  refine g_aload_n (i := 0) (x := 200) dL_655 rfl rfl ?_
  refine g_iload_n (i := 3) (x := i) dL_656 rfl rfl ?_
  refine g_iconst (n := 2) dL_657 (by decide) ?_
  refine g_iadd dL_658 (by omega) ?_
  refine g_sld hxs dL_659 (by omega) (by omega) ?_
  refine g_callV (C := RX11) (ci := 11) (As := [aI (xs ((i : Int) + 1).toNat), aI (xs ((i : Int) + 2).toNat)]) (n := 2) dL_660 ⟨m_34_5, pdX11_missing, ⟨Nat.le_of_ble_eq_true rfl, Nat.le_of_ble_eq_true rfl⟩, rfl, rfl, Nat.le_of_ble_eq_true rfl, Nat.le_of_ble_eq_true rfl⟩ m_34_2 m_34_3 m_34_4 m_1_5 rfl rfl (by decide) rfl rfl (Nat.le_of_ble_eq_true rfl) h1 (fun r0 I2 h2 => ?_)
  obtain ⟨r', rfl, rfl, h2⟩ := h2
  exact g_icmp_eq dL_663 (tgt := 1108) (by decide) (fun _ => k I2 h2) (fun q => absurd rfl q)
theorem L_fetchAll {n : Nat} {xs : Nat → Int} {i : Nat} {I : z_M} (hxs : ∀ j, inI (xs j)) (hi : i + 6 ≤ n) (hn : n ≤ 384) (h : RR I) (k : ∀ I', RR I' → z_R (muL n xs) finL 1108 [aR 200, aR 0, aR 60, aI i] [] I') : z_R (muL n xs) finL 668 [aR 200, aR 0, aR 60, aI i] [] I := by
  refine g_aload_n (i := 1) (x := 0) dL_668 rfl rfl ?_
  refine g_aload_n (i := 0) (x := 200) dL_669 rfl rfl ?_
  refine g_iload_n (i := 3) (x := i) dL_670 rfl rfl ?_
  refine g_iconst (n := 1) dL_671 (by decide) ?_
  refine g_iadd dL_672 (by omega) ?_
  refine g_sld hxs dL_673 (by omega) (by omega) ?_
  refine g_callV (C := RX10) (ci := 10) (As := [aI (xs ((i : Int) + 1).toNat)]) (n := 1) dL_674 ⟨m_34_9, pdX10_fetchAll, ⟨Nat.le_of_ble_eq_true rfl, Nat.le_of_ble_eq_true rfl⟩, rfl, rfl, Nat.le_of_ble_eq_true rfl, Nat.le_of_ble_eq_true rfl⟩ m_34_6 m_34_7 m_34_8 m_1_2 rfl rfl (by decide) rfl rfl (Nat.le_of_ble_eq_true rfl) (t_fetchAll (Q := fun r r' I2 => r' = r ∧ RR I2) h (fun r I' hr => ⟨rfl, hr⟩)) (fun r0 I1 h1 => ?_)
  obtain ⟨r, rfl, h1⟩ := h1
  refine g_aload_n (i := 2) (x := 60) dL_677 rfl rfl ?_
  refine g_aload_n (i := 0) (x := 200) dL_678 rfl rfl ?_
  refine g_iload_n (i := 3) (x := i) dL_679 rfl rfl ?_
  refine g_iconst (n := 1) dL_680 (by decide) ?_
  refine g_iadd dL_681 (by omega) ?_
  refine g_sld hxs dL_682 (by omega) (by omega) ?_
  refine g_callV (C := RX11) (ci := 11) (As := [aI (xs ((i : Int) + 1).toNat)]) (n := 1) dL_683 ⟨m_35_7, pdX11_fetchAll, ⟨Nat.le_of_ble_eq_true rfl, Nat.le_of_ble_eq_true rfl⟩, rfl, rfl, Nat.le_of_ble_eq_true rfl, Nat.le_of_ble_eq_true rfl⟩ m_35_4 m_35_5 m_35_6 m_1_5 rfl rfl (by decide) rfl rfl (Nat.le_of_ble_eq_true rfl) h1 (fun r0 I2 h2 => ?_)
  obtain ⟨r', rfl, rfl, h2⟩ := h2
  exact g_icmp_eq dL_686 (tgt := 1108) (by decide) (fun _ => k I2 h2) (fun q => absurd rfl q)
theorem L_falls {n : Nat} {xs : Nat → Int} {i : Nat} {I : z_M} (hxs : ∀ j, inI (xs j)) (hi : i + 6 ≤ n) (hn : n ≤ 384) (h : RR I) (k : ∀ I', RR I' → z_R (muL n xs) finL 1108 [aR 200, aR 0, aR 60, aI i] [] I') : z_R (muL n xs) finL 691 [aR 200, aR 0, aR 60, aI i] [] I := by
  refine g_aload_n (i := 1) (x := 0) dL_691 rfl rfl ?_
  refine g_aload_n (i := 0) (x := 200) dL_692 rfl rfl ?_
  refine g_iload_n (i := 3) (x := i) dL_693 rfl rfl ?_
  refine g_iconst (n := 1) dL_694 (by decide) ?_
  refine g_iadd dL_695 (by omega) ?_
  refine g_sld hxs dL_696 (by omega) (by omega) ?_
  refine g_callV (C := RX10) (ci := 10) (As := [aI (xs ((i : Int) + 1).toNat)]) (n := 1) dL_697 ⟨m_35_15, pdX10_falls, ⟨Nat.le_of_ble_eq_true rfl, Nat.le_of_ble_eq_true rfl⟩, rfl, rfl, Nat.le_of_ble_eq_true rfl, Nat.le_of_ble_eq_true rfl⟩ m_35_12 m_35_13 m_35_14 m_1_2 rfl rfl (by decide) rfl rfl (Nat.le_of_ble_eq_true rfl) (t_falls (Q := fun r r' I2 => r' = r ∧ RR I2) h (fun r I' hr => ⟨rfl, hr⟩)) (fun r0 I1 h1 => ?_)
  obtain ⟨r, rfl, h1⟩ := h1
  refine g_aload_n (i := 2) (x := 60) dL_700 rfl rfl ?_
  refine g_aload_n (i := 0) (x := 200) dL_701 rfl rfl ?_
  refine g_iload_n (i := 3) (x := i) dL_702 rfl rfl ?_
  refine g_iconst (n := 1) dL_703 (by decide) ?_
  refine g_iadd dL_704 (by omega) ?_
  refine g_sld hxs dL_705 (by omega) (by omega) ?_
  refine g_callV (C := RX11) (ci := 11) (As := [aI (xs ((i : Int) + 1).toNat)]) (n := 1) dL_706 ⟨m_36_0, pdX11_falls, ⟨Nat.le_of_ble_eq_true rfl, Nat.le_of_ble_eq_true rfl⟩, rfl, rfl, Nat.le_of_ble_eq_true rfl, Nat.le_of_ble_eq_true rfl⟩ m_35_21 m_35_22 m_35_23 m_1_5 rfl rfl (by decide) rfl rfl (Nat.le_of_ble_eq_true rfl) h1 (fun r0 I2 h2 => ?_)
  obtain ⟨r', rfl, rfl, h2⟩ := h2
  exact g_icmp_eq dL_709 (tgt := 1108) (by decide) (fun _ => k I2 h2) (fun q => absurd rfl q)
theorem L_walk {n : Nat} {xs : Nat → Int} {i : Nat} {I : z_M} (hxs : ∀ j, inI (xs j)) (hi : i + 6 ≤ n) (hn : n ≤ 384) (h : RR I) (k : ∀ I', RR I' → z_R (muL n xs) finL 1108 [aR 200, aR 0, aR 60, aI i] [] I') : z_R (muL n xs) finL 714 [aR 200, aR 0, aR 60, aI i] [] I := by
  refine g_aload_n (i := 1) (x := 0) dL_714 rfl rfl ?_
  refine g_aload_n (i := 0) (x := 200) dL_715 rfl rfl ?_
  refine g_iload_n (i := 3) (x := i) dL_716 rfl rfl ?_
  refine g_iconst (n := 1) dL_717 (by decide) ?_
  refine g_iadd dL_718 (by omega) ?_
  refine g_sld hxs dL_719 (by omega) (by omega) ?_
  refine g_aload_n (i := 0) (x := 200) dL_720 rfl rfl ?_
  refine g_iload_n (i := 3) (x := i) dL_721 rfl rfl ?_
  refine g_iconst (n := 2) dL_722 (by decide) ?_
  refine g_iadd dL_723 (by omega) ?_
  refine g_sld hxs dL_724 (by omega) (by omega) ?_
  refine g_callV (C := RX10) (ci := 10) (As := [aI (xs ((i : Int) + 1).toNat), aI (xs ((i : Int) + 2).toNat)]) (n := 2) dL_725 ⟨m_36_4, pdX10_walk, ⟨Nat.le_of_ble_eq_true rfl, Nat.le_of_ble_eq_true rfl⟩, rfl, rfl, Nat.le_of_ble_eq_true rfl, Nat.le_of_ble_eq_true rfl⟩ m_36_1 m_36_2 m_36_3 m_1_2 rfl rfl (by decide) rfl rfl (Nat.le_of_ble_eq_true rfl) (t_walk (Q := fun r r' I2 => r' = r ∧ RR I2) h (fun r I' hr => ⟨rfl, hr⟩)) (fun r0 I1 h1 => ?_)
  obtain ⟨r, rfl, h1⟩ := h1
  refine g_aload_n (i := 2) (x := 60) dL_728 rfl rfl ?_
  refine g_aload_n (i := 0) (x := 200) dL_729 rfl rfl ?_
  refine g_iload_n (i := 3) (x := i) dL_730 rfl rfl ?_
  refine g_iconst (n := 1) dL_731 (by decide) ?_
  refine g_iadd dL_732 (by omega) ?_
  refine g_sld hxs dL_733 (by omega) (by omega) ?_
  refine g_aload_n (i := 0) (x := 200) dL_734 rfl rfl ?_
  refine g_iload_n (i := 3) (x := i) dL_735 rfl rfl ?_
  refine g_iconst (n := 2) dL_736 (by decide) ?_
  refine g_iadd dL_737 (by omega) ?_
  refine g_sld hxs dL_738 (by omega) (by omega) ?_
  refine g_callV (C := RX11) (ci := 11) (As := [aI (xs ((i : Int) + 1).toNat), aI (xs ((i : Int) + 2).toNat)]) (n := 2) dL_739 ⟨m_37_10, pdX11_walk, ⟨Nat.le_of_ble_eq_true rfl, Nat.le_of_ble_eq_true rfl⟩, rfl, rfl, Nat.le_of_ble_eq_true rfl, Nat.le_of_ble_eq_true rfl⟩ m_37_7 m_37_8 m_37_9 m_1_5 rfl rfl (by decide) rfl rfl (Nat.le_of_ble_eq_true rfl) h1 (fun r0 I2 h2 => ?_)
  obtain ⟨r', rfl, rfl, h2⟩ := h2
  exact g_icmp_eq dL_742 (tgt := 1108) (by decide) (fun _ => k I2 h2) (fun q => absurd rfl q)
theorem L_reading {n : Nat} {xs : Nat → Int} {i : Nat} {I : z_M} (hxs : ∀ j, inI (xs j)) (hi : i + 6 ≤ n) (hn : n ≤ 384) (h : RR I) (k : ∀ I', RR I' → z_R (muL n xs) finL 1108 [aR 200, aR 0, aR 60, aI i] [] I') : z_R (muL n xs) finL 747 [aR 200, aR 0, aR 60, aI i] [] I := by
  refine g_aload_n (i := 1) (x := 0) dL_747 rfl rfl ?_
  refine g_aload_n (i := 0) (x := 200) dL_748 rfl rfl ?_
  refine g_iload_n (i := 3) (x := i) dL_749 rfl rfl ?_
  refine g_iconst (n := 1) dL_750 (by decide) ?_
  refine g_iadd dL_751 (by omega) ?_
  refine g_sld hxs dL_752 (by omega) (by omega) ?_
  refine g_aload_n (i := 0) (x := 200) dL_753 rfl rfl ?_
  refine g_iload_n (i := 3) (x := i) dL_754 rfl rfl ?_
  refine g_iconst (n := 2) dL_755 (by decide) ?_
  refine g_iadd dL_756 (by omega) ?_
  refine g_sld hxs dL_757 (by omega) (by omega) ?_
  refine g_aload_n (i := 0) (x := 200) dL_758 rfl rfl ?_
  refine g_iload_n (i := 3) (x := i) dL_759 rfl rfl ?_
  refine g_iconst (n := 3) dL_760 (by decide) ?_
  refine g_iadd dL_761 (by omega) ?_
  refine g_sld hxs dL_762 (by omega) (by omega) ?_
  refine g_aload_n (i := 0) (x := 200) dL_763 rfl rfl ?_
  refine g_iload_n (i := 3) (x := i) dL_764 rfl rfl ?_
  refine g_iconst (n := 4) dL_765 (by decide) ?_
  refine g_iadd dL_766 (by omega) ?_
  refine g_sld hxs dL_767 (by omega) (by omega) ?_
  refine g_callV (C := RX10) (ci := 10) (As := [aI (xs ((i : Int) + 1).toNat), aI (xs ((i : Int) + 2).toNat), aI (xs ((i : Int) + 3).toNat), aI (xs ((i : Int) + 4).toNat)]) (n := 4) dL_768 ⟨m_38_12, pdX10_reading, ⟨Nat.le_of_ble_eq_true rfl, Nat.le_of_ble_eq_true rfl⟩, rfl, rfl, Nat.le_of_ble_eq_true rfl, Nat.le_of_ble_eq_true rfl⟩ m_38_9 m_38_10 m_38_11 m_1_2 rfl rfl (by decide) rfl rfl (Nat.le_of_ble_eq_true rfl) (t_reading (Q := fun r r' I2 => r' = r ∧ RR I2) h (fun r I' hr => ⟨rfl, hr⟩)) (fun r0 I1 h1 => ?_)
  obtain ⟨r, rfl, h1⟩ := h1
  refine g_aload_n (i := 2) (x := 60) dL_771 rfl rfl ?_
  refine g_aload_n (i := 0) (x := 200) dL_772 rfl rfl ?_
  refine g_iload_n (i := 3) (x := i) dL_773 rfl rfl ?_
  refine g_iconst (n := 1) dL_774 (by decide) ?_
  refine g_iadd dL_775 (by omega) ?_
  refine g_sld hxs dL_776 (by omega) (by omega) ?_
  refine g_aload_n (i := 0) (x := 200) dL_777 rfl rfl ?_
  refine g_iload_n (i := 3) (x := i) dL_778 rfl rfl ?_
  refine g_iconst (n := 2) dL_779 (by decide) ?_
  refine g_iadd dL_780 (by omega) ?_
  refine g_sld hxs dL_781 (by omega) (by omega) ?_
  refine g_aload_n (i := 0) (x := 200) dL_782 rfl rfl ?_
  refine g_iload_n (i := 3) (x := i) dL_783 rfl rfl ?_
  refine g_iconst (n := 3) dL_784 (by decide) ?_
  refine g_iadd dL_785 (by omega) ?_
  refine g_sld hxs dL_786 (by omega) (by omega) ?_
  refine g_aload_n (i := 0) (x := 200) dL_787 rfl rfl ?_
  refine g_iload_n (i := 3) (x := i) dL_788 rfl rfl ?_
  refine g_iconst (n := 4) dL_789 (by decide) ?_
  refine g_iadd dL_790 (by omega) ?_
  refine g_sld hxs dL_791 (by omega) (by omega) ?_
  refine g_callV (C := RX11) (ci := 11) (As := [aI (xs ((i : Int) + 1).toNat), aI (xs ((i : Int) + 2).toNat), aI (xs ((i : Int) + 3).toNat), aI (xs ((i : Int) + 4).toNat)]) (n := 4) dL_792 ⟨m_38_21, pdX11_reading, ⟨Nat.le_of_ble_eq_true rfl, Nat.le_of_ble_eq_true rfl⟩, rfl, rfl, Nat.le_of_ble_eq_true rfl, Nat.le_of_ble_eq_true rfl⟩ m_38_18 m_38_19 m_38_20 m_1_5 rfl rfl (by decide) rfl rfl (Nat.le_of_ble_eq_true rfl) h1 (fun r0 I2 h2 => ?_)
  obtain ⟨r', rfl, rfl, h2⟩ := h2
  exact g_icmp_eq dL_795 (tgt := 1108) (by decide) (fun _ => k I2 h2) (fun q => absurd rfl q)
theorem L_forget {n : Nat} {xs : Nat → Int} {i : Nat} {I : z_M} (hxs : ∀ j, inI (xs j)) (hi : i + 6 ≤ n) (hn : n ≤ 384) (h : RR I) (k : ∀ I', RR I' → z_R (muL n xs) finL 1108 [aR 200, aR 0, aR 60, aI i] [] I') : z_R (muL n xs) finL 800 [aR 200, aR 0, aR 60, aI i] [] I := by
  refine g_aload_n (i := 1) (x := 0) dL_800 rfl rfl ?_
  refine g_callV (C := RX10) (ci := 10) (As := []) (n := 0) dL_801 ⟨m_39_1, pdX10_forget, ⟨Nat.le_of_ble_eq_true rfl, Nat.le_of_ble_eq_true rfl⟩, rfl, rfl, Nat.le_of_ble_eq_true rfl, Nat.le_of_ble_eq_true rfl⟩ m_38_22 m_38_23 m_39_0 m_1_2 rfl rfl (by decide) rfl rfl (Nat.le_of_ble_eq_true rfl) (t_forget (Q := fun r r' I2 => r' = r ∧ RR I2) h (fun r I' hr => ⟨rfl, hr⟩)) (fun r0 I1 h1 => ?_)
  obtain ⟨r, rfl, h1⟩ := h1
  refine g_aload_n (i := 2) (x := 60) dL_804 rfl rfl ?_
  refine g_callV (C := RX11) (ci := 11) (As := []) (n := 0) dL_805 ⟨m_39_5, pdX11_forget, ⟨Nat.le_of_ble_eq_true rfl, Nat.le_of_ble_eq_true rfl⟩, rfl, rfl, Nat.le_of_ble_eq_true rfl, Nat.le_of_ble_eq_true rfl⟩ m_39_2 m_39_3 m_39_4 m_1_5 rfl rfl (by decide) rfl rfl (Nat.le_of_ble_eq_true rfl) h1 (fun r0 I2 h2 => ?_)
  obtain ⟨r', rfl, rfl, h2⟩ := h2
  exact g_icmp_eq dL_808 (tgt := 1108) (by decide) (fun _ => k I2 h2) (fun q => absurd rfl q)
theorem L_may {n : Nat} {xs : Nat → Int} {i : Nat} {I : z_M} (hxs : ∀ j, inI (xs j)) (hi : i + 6 ≤ n) (hn : n ≤ 384) (h : RR I) (k : ∀ I', RR I' → z_R (muL n xs) finL 1108 [aR 200, aR 0, aR 60, aI i] [] I') : z_R (muL n xs) finL 813 [aR 200, aR 0, aR 60, aI i] [] I := by
  refine g_aload_n (i := 1) (x := 0) dL_813 rfl rfl ?_
  refine g_aload_n (i := 0) (x := 200) dL_814 rfl rfl ?_
  refine g_iload_n (i := 3) (x := i) dL_815 rfl rfl ?_
  refine g_iconst (n := 1) dL_816 (by decide) ?_
  refine g_iadd dL_817 (by omega) ?_
  refine g_sld hxs dL_818 (by omega) (by omega) ?_
  refine g_callV (C := RX10) (ci := 10) (As := [aI (xs ((i : Int) + 1).toNat)]) (n := 1) dL_819 ⟨m_39_9, pdX10_may, ⟨Nat.le_of_ble_eq_true rfl, Nat.le_of_ble_eq_true rfl⟩, rfl, rfl, Nat.le_of_ble_eq_true rfl, Nat.le_of_ble_eq_true rfl⟩ m_39_6 m_39_7 m_39_8 m_1_2 rfl rfl (by decide) rfl rfl (Nat.le_of_ble_eq_true rfl) (t_may (Q := fun r r' I2 => r' = r ∧ RR I2) h (fun r I' hr => ⟨rfl, hr⟩)) (fun r0 I1 h1 => ?_)
  obtain ⟨r, rfl, h1⟩ := h1
  refine g_aload_n (i := 2) (x := 60) dL_822 rfl rfl ?_
  refine g_aload_n (i := 0) (x := 200) dL_823 rfl rfl ?_
  refine g_iload_n (i := 3) (x := i) dL_824 rfl rfl ?_
  refine g_iconst (n := 1) dL_825 (by decide) ?_
  refine g_iadd dL_826 (by omega) ?_
  refine g_sld hxs dL_827 (by omega) (by omega) ?_
  refine g_callV (C := RX11) (ci := 11) (As := [aI (xs ((i : Int) + 1).toNat)]) (n := 1) dL_828 ⟨m_40_12, pdX11_may, ⟨Nat.le_of_ble_eq_true rfl, Nat.le_of_ble_eq_true rfl⟩, rfl, rfl, Nat.le_of_ble_eq_true rfl, Nat.le_of_ble_eq_true rfl⟩ m_40_9 m_40_10 m_40_11 m_1_5 rfl rfl (by decide) rfl rfl (Nat.le_of_ble_eq_true rfl) h1 (fun r0 I2 h2 => ?_)
  obtain ⟨r', rfl, rfl, h2⟩ := h2
  exact g_icmp_eq dL_831 (tgt := 1108) (by decide) (fun _ => k I2 h2) (fun q => absurd rfl q)
theorem L_listen {n : Nat} {xs : Nat → Int} {i : Nat} {I : z_M} (hxs : ∀ j, inI (xs j)) (hi : i + 6 ≤ n) (hn : n ≤ 384) (h : RR I) (k : ∀ I', RR I' → z_R (muL n xs) finL 1108 [aR 200, aR 0, aR 60, aI i] [] I') : z_R (muL n xs) finL 836 [aR 200, aR 0, aR 60, aI i] [] I := by
  refine g_aload_n (i := 1) (x := 0) dL_836 rfl rfl ?_
  refine g_aload_n (i := 0) (x := 200) dL_837 rfl rfl ?_
  refine g_iload_n (i := 3) (x := i) dL_838 rfl rfl ?_
  refine g_iconst (n := 1) dL_839 (by decide) ?_
  refine g_iadd dL_840 (by omega) ?_
  refine g_sld hxs dL_841 (by omega) (by omega) ?_
  refine g_aload_n (i := 0) (x := 200) dL_842 rfl rfl ?_
  refine g_iload_n (i := 3) (x := i) dL_843 rfl rfl ?_
  refine g_iconst (n := 2) dL_844 (by decide) ?_
  refine g_iadd dL_845 (by omega) ?_
  refine g_sld hxs dL_846 (by omega) (by omega) ?_
  refine g_callV (C := RX10) (ci := 10) (As := [aI (xs ((i : Int) + 1).toNat), aI (xs ((i : Int) + 2).toNat)]) (n := 2) dL_847 ⟨m_41_4, pdX10_listen, ⟨Nat.le_of_ble_eq_true rfl, Nat.le_of_ble_eq_true rfl⟩, rfl, rfl, Nat.le_of_ble_eq_true rfl, Nat.le_of_ble_eq_true rfl⟩ m_41_1 m_41_2 m_41_3 m_1_2 rfl rfl (by decide) rfl rfl (Nat.le_of_ble_eq_true rfl) (t_listen (Q := fun r r' I2 => r' = r ∧ RR I2) h (fun r I' hr => ⟨rfl, hr⟩)) (fun r0 I1 h1 => ?_)
  obtain ⟨r, rfl, h1⟩ := h1
  refine g_aload_n (i := 2) (x := 60) dL_850 rfl rfl ?_
  refine g_aload_n (i := 0) (x := 200) dL_851 rfl rfl ?_
  refine g_iload_n (i := 3) (x := i) dL_852 rfl rfl ?_
  refine g_iconst (n := 1) dL_853 (by decide) ?_
  refine g_iadd dL_854 (by omega) ?_
  refine g_sld hxs dL_855 (by omega) (by omega) ?_
  refine g_aload_n (i := 0) (x := 200) dL_856 rfl rfl ?_
  refine g_iload_n (i := 3) (x := i) dL_857 rfl rfl ?_
  refine g_iconst (n := 2) dL_858 (by decide) ?_
  refine g_iadd dL_859 (by omega) ?_
  refine g_sld hxs dL_860 (by omega) (by omega) ?_
  refine g_callV (C := RX11) (ci := 11) (As := [aI (xs ((i : Int) + 1).toNat), aI (xs ((i : Int) + 2).toNat)]) (n := 2) dL_861 ⟨m_41_17, pdX11_listen, ⟨Nat.le_of_ble_eq_true rfl, Nat.le_of_ble_eq_true rfl⟩, rfl, rfl, Nat.le_of_ble_eq_true rfl, Nat.le_of_ble_eq_true rfl⟩ m_41_14 m_41_15 m_41_16 m_1_5 rfl rfl (by decide) rfl rfl (Nat.le_of_ble_eq_true rfl) h1 (fun r0 I2 h2 => ?_)
  obtain ⟨r', rfl, rfl, h2⟩ := h2
  exact g_icmp_eq dL_864 (tgt := 1108) (by decide) (fun _ => k I2 h2) (fun q => absurd rfl q)
theorem L_wish {n : Nat} {xs : Nat → Int} {i : Nat} {I : z_M} (hxs : ∀ j, inI (xs j)) (hi : i + 6 ≤ n) (hn : n ≤ 384) (h : RR I) (k : ∀ I', RR I' → z_R (muL n xs) finL 1108 [aR 200, aR 0, aR 60, aI i] [] I') : z_R (muL n xs) finL 869 [aR 200, aR 0, aR 60, aI i] [] I := by
  refine g_aload_n (i := 1) (x := 0) dL_869 rfl rfl ?_
  refine g_aload_n (i := 0) (x := 200) dL_870 rfl rfl ?_
  refine g_iload_n (i := 3) (x := i) dL_871 rfl rfl ?_
  refine g_iconst (n := 1) dL_872 (by decide) ?_
  refine g_iadd dL_873 (by omega) ?_
  refine g_sld hxs dL_874 (by omega) (by omega) ?_
  refine g_aload_n (i := 0) (x := 200) dL_875 rfl rfl ?_
  refine g_iload_n (i := 3) (x := i) dL_876 rfl rfl ?_
  refine g_iconst (n := 2) dL_877 (by decide) ?_
  refine g_iadd dL_878 (by omega) ?_
  refine g_sld hxs dL_879 (by omega) (by omega) ?_
  refine g_callV (C := RX10) (ci := 10) (As := [aI (xs ((i : Int) + 1).toNat), aI (xs ((i : Int) + 2).toNat)]) (n := 2) dL_880 ⟨m_41_21, pdX10_wish, ⟨Nat.le_of_ble_eq_true rfl, Nat.le_of_ble_eq_true rfl⟩, rfl, rfl, Nat.le_of_ble_eq_true rfl, Nat.le_of_ble_eq_true rfl⟩ m_41_18 m_41_19 m_41_20 m_1_2 rfl rfl (by decide) rfl rfl (Nat.le_of_ble_eq_true rfl) (t_wish (Q := fun r r' I2 => r' = r ∧ RR I2) h (fun r I' hr => ⟨rfl, hr⟩)) (fun r0 I1 h1 => ?_)
  obtain ⟨r, rfl, h1⟩ := h1
  refine g_aload_n (i := 2) (x := 60) dL_883 rfl rfl ?_
  refine g_aload_n (i := 0) (x := 200) dL_884 rfl rfl ?_
  refine g_iload_n (i := 3) (x := i) dL_885 rfl rfl ?_
  refine g_iconst (n := 1) dL_886 (by decide) ?_
  refine g_iadd dL_887 (by omega) ?_
  refine g_sld hxs dL_888 (by omega) (by omega) ?_
  refine g_aload_n (i := 0) (x := 200) dL_889 rfl rfl ?_
  refine g_iload_n (i := 3) (x := i) dL_890 rfl rfl ?_
  refine g_iconst (n := 2) dL_891 (by decide) ?_
  refine g_iadd dL_892 (by omega) ?_
  refine g_sld hxs dL_893 (by omega) (by omega) ?_
  refine g_callV (C := RX11) (ci := 11) (As := [aI (xs ((i : Int) + 1).toNat), aI (xs ((i : Int) + 2).toNat)]) (n := 2) dL_894 ⟨m_42_5, pdX11_wish, ⟨Nat.le_of_ble_eq_true rfl, Nat.le_of_ble_eq_true rfl⟩, rfl, rfl, Nat.le_of_ble_eq_true rfl, Nat.le_of_ble_eq_true rfl⟩ m_42_2 m_42_3 m_42_4 m_1_5 rfl rfl (by decide) rfl rfl (Nat.le_of_ble_eq_true rfl) h1 (fun r0 I2 h2 => ?_)
  obtain ⟨r', rfl, rfl, h2⟩ := h2
  exact g_icmp_eq dL_897 (tgt := 1108) (by decide) (fun _ => k I2 h2) (fun q => absurd rfl q)
theorem L_feast {n : Nat} {xs : Nat → Int} {i : Nat} {I : z_M} (hxs : ∀ j, inI (xs j)) (hi : i + 6 ≤ n) (hn : n ≤ 384) (h : RR I) (k : ∀ I', RR I' → z_R (muL n xs) finL 1108 [aR 200, aR 0, aR 60, aI i] [] I') : z_R (muL n xs) finL 902 [aR 200, aR 0, aR 60, aI i] [] I := by
  refine g_aload_n (i := 1) (x := 0) dL_902 rfl rfl ?_
  refine g_aload_n (i := 0) (x := 200) dL_903 rfl rfl ?_
  refine g_iload_n (i := 3) (x := i) dL_904 rfl rfl ?_
  refine g_iconst (n := 1) dL_905 (by decide) ?_
  refine g_iadd dL_906 (by omega) ?_
  refine g_sld hxs dL_907 (by omega) (by omega) ?_
  refine g_aload_n (i := 0) (x := 200) dL_908 rfl rfl ?_
  refine g_iload_n (i := 3) (x := i) dL_909 rfl rfl ?_
  refine g_iconst (n := 2) dL_910 (by decide) ?_
  refine g_iadd dL_911 (by omega) ?_
  refine g_sld hxs dL_912 (by omega) (by omega) ?_
  refine g_aload_n (i := 0) (x := 200) dL_913 rfl rfl ?_
  refine g_iload_n (i := 3) (x := i) dL_914 rfl rfl ?_
  refine g_iconst (n := 3) dL_915 (by decide) ?_
  refine g_iadd dL_916 (by omega) ?_
  refine g_sld hxs dL_917 (by omega) (by omega) ?_
  refine g_callV (C := RX10) (ci := 10) (As := [aI (xs ((i : Int) + 1).toNat), aI (xs ((i : Int) + 2).toNat), aI (xs ((i : Int) + 3).toNat)]) (n := 3) dL_918 ⟨m_42_9, pdX10_feast, ⟨Nat.le_of_ble_eq_true rfl, Nat.le_of_ble_eq_true rfl⟩, rfl, rfl, Nat.le_of_ble_eq_true rfl, Nat.le_of_ble_eq_true rfl⟩ m_42_6 m_42_7 m_42_8 m_1_2 rfl rfl (by decide) rfl rfl (Nat.le_of_ble_eq_true rfl) (t_feast (Q := fun r r' I2 => r' = r ∧ RR I2) h (fun r I' hr => ⟨rfl, hr⟩)) (fun r0 I1 h1 => ?_)
  obtain ⟨r, rfl, h1⟩ := h1
  refine g_aload_n (i := 2) (x := 60) dL_921 rfl rfl ?_
  refine g_aload_n (i := 0) (x := 200) dL_922 rfl rfl ?_
  refine g_iload_n (i := 3) (x := i) dL_923 rfl rfl ?_
  refine g_iconst (n := 1) dL_924 (by decide) ?_
  refine g_iadd dL_925 (by omega) ?_
  refine g_sld hxs dL_926 (by omega) (by omega) ?_
  refine g_aload_n (i := 0) (x := 200) dL_927 rfl rfl ?_
  refine g_iload_n (i := 3) (x := i) dL_928 rfl rfl ?_
  refine g_iconst (n := 2) dL_929 (by decide) ?_
  refine g_iadd dL_930 (by omega) ?_
  refine g_sld hxs dL_931 (by omega) (by omega) ?_
  refine g_aload_n (i := 0) (x := 200) dL_932 rfl rfl ?_
  refine g_iload_n (i := 3) (x := i) dL_933 rfl rfl ?_
  refine g_iconst (n := 3) dL_934 (by decide) ?_
  refine g_iadd dL_935 (by omega) ?_
  refine g_sld hxs dL_936 (by omega) (by omega) ?_
  refine g_callV (C := RX11) (ci := 11) (As := [aI (xs ((i : Int) + 1).toNat), aI (xs ((i : Int) + 2).toNat), aI (xs ((i : Int) + 3).toNat)]) (n := 3) dL_937 ⟨m_43_8, pdX11_feast, ⟨Nat.le_of_ble_eq_true rfl, Nat.le_of_ble_eq_true rfl⟩, rfl, rfl, Nat.le_of_ble_eq_true rfl, Nat.le_of_ble_eq_true rfl⟩ m_43_5 m_43_6 m_43_7 m_1_5 rfl rfl (by decide) rfl rfl (Nat.le_of_ble_eq_true rfl) h1 (fun r0 I2 h2 => ?_)
  obtain ⟨r', rfl, rfl, h2⟩ := h2
  exact g_icmp_eq dL_940 (tgt := 1108) (by decide) (fun _ => k I2 h2) (fun q => absurd rfl q)
theorem L_hours {n : Nat} {xs : Nat → Int} {i : Nat} {I : z_M} (hxs : ∀ j, inI (xs j)) (hi : i + 6 ≤ n) (hn : n ≤ 384) (h : RR I) (k : ∀ I', RR I' → z_R (muL n xs) finL 1108 [aR 200, aR 0, aR 60, aI i] [] I') : z_R (muL n xs) finL 945 [aR 200, aR 0, aR 60, aI i] [] I := by
  refine g_aload_n (i := 1) (x := 0) dL_945 rfl rfl ?_
  refine g_aload_n (i := 0) (x := 200) dL_946 rfl rfl ?_
  refine g_iload_n (i := 3) (x := i) dL_947 rfl rfl ?_
  refine g_iconst (n := 1) dL_948 (by decide) ?_
  refine g_iadd dL_949 (by omega) ?_
  refine g_sld hxs dL_950 (by omega) (by omega) ?_
  refine g_aload_n (i := 0) (x := 200) dL_951 rfl rfl ?_
  refine g_iload_n (i := 3) (x := i) dL_952 rfl rfl ?_
  refine g_iconst (n := 2) dL_953 (by decide) ?_
  refine g_iadd dL_954 (by omega) ?_
  refine g_sld hxs dL_955 (by omega) (by omega) ?_
  refine g_callV (C := RX10) (ci := 10) (As := [aI (xs ((i : Int) + 1).toNat), aI (xs ((i : Int) + 2).toNat)]) (n := 2) dL_956 ⟨m_43_18, pdX10_hours, ⟨Nat.le_of_ble_eq_true rfl, Nat.le_of_ble_eq_true rfl⟩, rfl, rfl, Nat.le_of_ble_eq_true rfl, Nat.le_of_ble_eq_true rfl⟩ m_43_15 m_43_16 m_43_17 m_1_2 rfl rfl (by decide) rfl rfl (Nat.le_of_ble_eq_true rfl) (t_hours (Q := fun r r' I2 => r' = r ∧ RR I2) h (fun r I' hr => ⟨rfl, hr⟩)) (fun r0 I1 h1 => ?_)
  obtain ⟨r, rfl, h1⟩ := h1
  refine g_aload_n (i := 2) (x := 60) dL_959 rfl rfl ?_
  refine g_aload_n (i := 0) (x := 200) dL_960 rfl rfl ?_
  refine g_iload_n (i := 3) (x := i) dL_961 rfl rfl ?_
  refine g_iconst (n := 1) dL_962 (by decide) ?_
  refine g_iadd dL_963 (by omega) ?_
  refine g_sld hxs dL_964 (by omega) (by omega) ?_
  refine g_aload_n (i := 0) (x := 200) dL_965 rfl rfl ?_
  refine g_iload_n (i := 3) (x := i) dL_966 rfl rfl ?_
  refine g_iconst (n := 2) dL_967 (by decide) ?_
  refine g_iadd dL_968 (by omega) ?_
  refine g_sld hxs dL_969 (by omega) (by omega) ?_
  refine g_callV (C := RX11) (ci := 11) (As := [aI (xs ((i : Int) + 1).toNat), aI (xs ((i : Int) + 2).toNat)]) (n := 2) dL_970 ⟨m_44_3, pdX11_hours, ⟨Nat.le_of_ble_eq_true rfl, Nat.le_of_ble_eq_true rfl⟩, rfl, rfl, Nat.le_of_ble_eq_true rfl, Nat.le_of_ble_eq_true rfl⟩ m_44_0 m_44_1 m_44_2 m_1_5 rfl rfl (by decide) rfl rfl (Nat.le_of_ble_eq_true rfl) h1 (fun r0 I2 h2 => ?_)
  obtain ⟨r', rfl, rfl, h2⟩ := h2
  exact g_icmp_eq dL_973 (tgt := 1108) (by decide) (fun _ => k I2 h2) (fun q => absurd rfl q)
theorem L_part {n : Nat} {xs : Nat → Int} {i : Nat} {I : z_M} (hxs : ∀ j, inI (xs j)) (hi : i + 6 ≤ n) (hn : n ≤ 384) (h : RR I) (k : ∀ I', RR I' → z_R (muL n xs) finL 1108 [aR 200, aR 0, aR 60, aI i] [] I') : z_R (muL n xs) finL 978 [aR 200, aR 0, aR 60, aI i] [] I := by
  refine g_aload_n (i := 1) (x := 0) dL_978 rfl rfl ?_
  refine g_aload_n (i := 0) (x := 200) dL_979 rfl rfl ?_
  refine g_iload_n (i := 3) (x := i) dL_980 rfl rfl ?_
  refine g_iconst (n := 1) dL_981 (by decide) ?_
  refine g_iadd dL_982 (by omega) ?_
  refine g_sld hxs dL_983 (by omega) (by omega) ?_
  refine g_callV (C := RX10) (ci := 10) (As := [aI (xs ((i : Int) + 1).toNat)]) (n := 1) dL_984 ⟨m_44_13, pdX10_part, ⟨Nat.le_of_ble_eq_true rfl, Nat.le_of_ble_eq_true rfl⟩, rfl, rfl, Nat.le_of_ble_eq_true rfl, Nat.le_of_ble_eq_true rfl⟩ m_44_10 m_44_11 m_44_12 m_1_2 rfl rfl (by decide) rfl rfl (Nat.le_of_ble_eq_true rfl) (t_part (Q := fun r r' I2 => r' = r ∧ RR I2) h (fun r I' hr => ⟨rfl, hr⟩)) (fun r0 I1 h1 => ?_)
  obtain ⟨r, rfl, h1⟩ := h1
  refine g_aload_n (i := 2) (x := 60) dL_987 rfl rfl ?_
  refine g_aload_n (i := 0) (x := 200) dL_988 rfl rfl ?_
  refine g_iload_n (i := 3) (x := i) dL_989 rfl rfl ?_
  refine g_iconst (n := 1) dL_990 (by decide) ?_
  refine g_iadd dL_991 (by omega) ?_
  refine g_sld hxs dL_992 (by omega) (by omega) ?_
  refine g_callV (C := RX11) (ci := 11) (As := [aI (xs ((i : Int) + 1).toNat)]) (n := 1) dL_993 ⟨m_44_17, pdX11_part, ⟨Nat.le_of_ble_eq_true rfl, Nat.le_of_ble_eq_true rfl⟩, rfl, rfl, Nat.le_of_ble_eq_true rfl, Nat.le_of_ble_eq_true rfl⟩ m_44_14 m_44_15 m_44_16 m_1_5 rfl rfl (by decide) rfl rfl (Nat.le_of_ble_eq_true rfl) h1 (fun r0 I2 h2 => ?_)
  obtain ⟨r', rfl, rfl, h2⟩ := h2
  refine g_lcmp dL_996 ?_
  exact g_if_eq dL_997 (tgt := 1108) (by decide) (fun _ => k I2 h2) (fun q => absurd (by rw [if_neg (Int.lt_irrefl _), if_pos rfl]) q)
theorem L_image {n : Nat} {xs : Nat → Int} {i : Nat} {I : z_M} (hxs : ∀ j, inI (xs j)) (hi : i + 6 ≤ n) (hn : n ≤ 384) (h : RR I) (k : ∀ I', RR I' → z_R (muL n xs) finL 1108 [aR 200, aR 0, aR 60, aI i] [] I') : z_R (muL n xs) finL 1002 [aR 200, aR 0, aR 60, aI i] [] I := by
  refine g_aload_n (i := 1) (x := 0) dL_1002 rfl rfl ?_
  refine g_aload_n (i := 0) (x := 200) dL_1003 rfl rfl ?_
  refine g_iload_n (i := 3) (x := i) dL_1004 rfl rfl ?_
  refine g_iconst (n := 1) dL_1005 (by decide) ?_
  refine g_iadd dL_1006 (by omega) ?_
  refine g_sld hxs dL_1007 (by omega) (by omega) ?_
  refine g_callV (C := RX10) (ci := 10) (As := [aI (xs ((i : Int) + 1).toNat)]) (n := 1) dL_1008 ⟨m_44_21, pdX10_image, ⟨Nat.le_of_ble_eq_true rfl, Nat.le_of_ble_eq_true rfl⟩, rfl, rfl, Nat.le_of_ble_eq_true rfl, Nat.le_of_ble_eq_true rfl⟩ m_44_18 m_44_19 m_44_20 m_1_2 rfl rfl (by decide) rfl rfl (Nat.le_of_ble_eq_true rfl) (t_image (Q := fun r r' I2 => r' = r ∧ RR I2) h (fun r I' hr => ⟨rfl, hr⟩)) (fun r0 I1 h1 => ?_)
  obtain ⟨r, rfl, h1⟩ := h1
  refine g_aload_n (i := 2) (x := 60) dL_1011 rfl rfl ?_
  refine g_aload_n (i := 0) (x := 200) dL_1012 rfl rfl ?_
  refine g_iload_n (i := 3) (x := i) dL_1013 rfl rfl ?_
  refine g_iconst (n := 1) dL_1014 (by decide) ?_
  refine g_iadd dL_1015 (by omega) ?_
  refine g_sld hxs dL_1016 (by omega) (by omega) ?_
  refine g_callV (C := RX11) (ci := 11) (As := [aI (xs ((i : Int) + 1).toNat)]) (n := 1) dL_1017 ⟨m_45_1, pdX11_image, ⟨Nat.le_of_ble_eq_true rfl, Nat.le_of_ble_eq_true rfl⟩, rfl, rfl, Nat.le_of_ble_eq_true rfl, Nat.le_of_ble_eq_true rfl⟩ m_44_22 m_44_23 m_45_0 m_1_5 rfl rfl (by decide) rfl rfl (Nat.le_of_ble_eq_true rfl) h1 (fun r0 I2 h2 => ?_)
  obtain ⟨r', rfl, rfl, h2⟩ := h2
  exact g_icmp_eq dL_1020 (tgt := 1108) (by decide) (fun _ => k I2 h2) (fun q => absurd rfl q)
theorem L_from {n : Nat} {xs : Nat → Int} {i : Nat} {I : z_M} (hxs : ∀ j, inI (xs j)) (hi : i + 6 ≤ n) (hn : n ≤ 384) (h : RR I) (k : ∀ I', RR I' → z_R (muL n xs) finL 1108 [aR 200, aR 0, aR 60, aI i] [] I') : z_R (muL n xs) finL 1025 [aR 200, aR 0, aR 60, aI i] [] I := by
  refine g_aload_n (i := 1) (x := 0) dL_1025 rfl rfl ?_
  refine g_aload_n (i := 0) (x := 200) dL_1026 rfl rfl ?_
  refine g_iload_n (i := 3) (x := i) dL_1027 rfl rfl ?_
  refine g_iconst (n := 1) dL_1028 (by decide) ?_
  refine g_iadd dL_1029 (by omega) ?_
  refine g_sld hxs dL_1030 (by omega) (by omega) ?_
  refine g_callV (C := RX10) (ci := 10) (As := [aI (xs ((i : Int) + 1).toNat)]) (n := 1) dL_1031 ⟨m_45_5, pdX10_from, ⟨Nat.le_of_ble_eq_true rfl, Nat.le_of_ble_eq_true rfl⟩, rfl, rfl, Nat.le_of_ble_eq_true rfl, Nat.le_of_ble_eq_true rfl⟩ m_45_2 m_45_3 m_45_4 m_1_2 rfl rfl (by decide) rfl rfl (Nat.le_of_ble_eq_true rfl) (t_from (Q := fun r r' I2 => r' = r ∧ RR I2) h (fun r I' hr => ⟨rfl, hr⟩)) (fun r0 I1 h1 => ?_)
  obtain ⟨r, rfl, h1⟩ := h1
  refine g_aload_n (i := 2) (x := 60) dL_1034 rfl rfl ?_
  refine g_aload_n (i := 0) (x := 200) dL_1035 rfl rfl ?_
  refine g_iload_n (i := 3) (x := i) dL_1036 rfl rfl ?_
  refine g_iconst (n := 1) dL_1037 (by decide) ?_
  refine g_iadd dL_1038 (by omega) ?_
  refine g_sld hxs dL_1039 (by omega) (by omega) ?_
  refine g_callV (C := RX11) (ci := 11) (As := [aI (xs ((i : Int) + 1).toNat)]) (n := 1) dL_1040 ⟨m_45_9, pdX11_from, ⟨Nat.le_of_ble_eq_true rfl, Nat.le_of_ble_eq_true rfl⟩, rfl, rfl, Nat.le_of_ble_eq_true rfl, Nat.le_of_ble_eq_true rfl⟩ m_45_6 m_45_7 m_45_8 m_1_5 rfl rfl (by decide) rfl rfl (Nat.le_of_ble_eq_true rfl) h1 (fun r0 I2 h2 => ?_)
  obtain ⟨r', rfl, rfl, h2⟩ := h2
  exact g_icmp_eq dL_1043 (tgt := 1108) (by decide) (fun _ => k I2 h2) (fun q => absurd rfl q)
theorem L_status {n : Nat} {xs : Nat → Int} {i : Nat} {I : z_M} (hxs : ∀ j, inI (xs j)) (hi : i + 6 ≤ n) (hn : n ≤ 384) (h : RR I) (k : ∀ I', RR I' → z_R (muL n xs) finL 1108 [aR 200, aR 0, aR 60, aI i] [] I') : z_R (muL n xs) finL 1048 [aR 200, aR 0, aR 60, aI i] [] I := by
  refine g_aload_n (i := 1) (x := 0) dL_1048 rfl rfl ?_
  refine g_aload_n (i := 0) (x := 200) dL_1049 rfl rfl ?_
  refine g_iload_n (i := 3) (x := i) dL_1050 rfl rfl ?_
  refine g_iconst (n := 1) dL_1051 (by decide) ?_
  refine g_iadd dL_1052 (by omega) ?_
  refine g_sld hxs dL_1053 (by omega) (by omega) ?_
  refine g_callV (C := RX10) (ci := 10) (As := [aI (xs ((i : Int) + 1).toNat)]) (n := 1) dL_1054 ⟨m_45_13, pdX10_status, ⟨Nat.le_of_ble_eq_true rfl, Nat.le_of_ble_eq_true rfl⟩, rfl, rfl, Nat.le_of_ble_eq_true rfl, Nat.le_of_ble_eq_true rfl⟩ m_45_10 m_45_11 m_45_12 m_1_2 rfl rfl (by decide) rfl rfl (Nat.le_of_ble_eq_true rfl) (t_status (Q := fun r r' I2 => r' = r ∧ RR I2) h (fun r I' hr => ⟨rfl, hr⟩)) (fun r0 I1 h1 => ?_)
  obtain ⟨r, rfl, h1⟩ := h1
  refine g_aload_n (i := 2) (x := 60) dL_1057 rfl rfl ?_
  refine g_aload_n (i := 0) (x := 200) dL_1058 rfl rfl ?_
  refine g_iload_n (i := 3) (x := i) dL_1059 rfl rfl ?_
  refine g_iconst (n := 1) dL_1060 (by decide) ?_
  refine g_iadd dL_1061 (by omega) ?_
  refine g_sld hxs dL_1062 (by omega) (by omega) ?_
  refine g_callV (C := RX11) (ci := 11) (As := [aI (xs ((i : Int) + 1).toNat)]) (n := 1) dL_1063 ⟨m_45_17, pdX11_status, ⟨Nat.le_of_ble_eq_true rfl, Nat.le_of_ble_eq_true rfl⟩, rfl, rfl, Nat.le_of_ble_eq_true rfl, Nat.le_of_ble_eq_true rfl⟩ m_45_14 m_45_15 m_45_16 m_1_5 rfl rfl (by decide) rfl rfl (Nat.le_of_ble_eq_true rfl) h1 (fun r0 I2 h2 => ?_)
  obtain ⟨r', rfl, rfl, h2⟩ := h2
  exact g_icmp_eq dL_1066 (tgt := 1108) (by decide) (fun _ => k I2 h2) (fun q => absurd rfl q)
theorem L_count {n : Nat} {xs : Nat → Int} {i : Nat} {I : z_M} (hxs : ∀ j, inI (xs j)) (hi : i + 6 ≤ n) (hn : n ≤ 384) (h : RR I) (k : ∀ I', RR I' → z_R (muL n xs) finL 1108 [aR 200, aR 0, aR 60, aI i] [] I') : z_R (muL n xs) finL 1071 [aR 200, aR 0, aR 60, aI i] [] I := by
  refine g_aload_n (i := 1) (x := 0) dL_1071 rfl rfl ?_
  refine g_aload_n (i := 0) (x := 200) dL_1072 rfl rfl ?_
  refine g_iload_n (i := 3) (x := i) dL_1073 rfl rfl ?_
  refine g_iconst (n := 1) dL_1074 (by decide) ?_
  refine g_iadd dL_1075 (by omega) ?_
  refine g_sld hxs dL_1076 (by omega) (by omega) ?_
  refine g_callV (C := RX10) (ci := 10) (As := [aI (xs ((i : Int) + 1).toNat)]) (n := 1) dL_1077 ⟨m_45_21, pdX10_count, ⟨Nat.le_of_ble_eq_true rfl, Nat.le_of_ble_eq_true rfl⟩, rfl, rfl, Nat.le_of_ble_eq_true rfl, Nat.le_of_ble_eq_true rfl⟩ m_45_18 m_45_19 m_45_20 m_1_2 rfl rfl (by decide) rfl rfl (Nat.le_of_ble_eq_true rfl) (t_count (Q := fun r r' I2 => r' = r ∧ RR I2) h (fun r I' hr => ⟨rfl, hr⟩)) (fun r0 I1 h1 => ?_)
  obtain ⟨r, rfl, h1⟩ := h1
  refine g_aload_n (i := 2) (x := 60) dL_1080 rfl rfl ?_
  refine g_aload_n (i := 0) (x := 200) dL_1081 rfl rfl ?_
  refine g_iload_n (i := 3) (x := i) dL_1082 rfl rfl ?_
  refine g_iconst (n := 1) dL_1083 (by decide) ?_
  refine g_iadd dL_1084 (by omega) ?_
  refine g_sld hxs dL_1085 (by omega) (by omega) ?_
  refine g_callV (C := RX11) (ci := 11) (As := [aI (xs ((i : Int) + 1).toNat)]) (n := 1) dL_1086 ⟨m_46_6, pdX11_count, ⟨Nat.le_of_ble_eq_true rfl, Nat.le_of_ble_eq_true rfl⟩, rfl, rfl, Nat.le_of_ble_eq_true rfl, Nat.le_of_ble_eq_true rfl⟩ m_46_3 m_46_4 m_46_5 m_1_5 rfl rfl (by decide) rfl rfl (Nat.le_of_ble_eq_true rfl) h1 (fun r0 I2 h2 => ?_)
  obtain ⟨r', rfl, rfl, h2⟩ := h2
  exact g_icmp_eq dL_1089 (tgt := 1108) (by decide) (fun _ => k I2 h2) (fun q => absurd rfl q)
theorem L_digest {n : Nat} {xs : Nat → Int} {i : Nat} {I : z_M} (hxs : ∀ j, inI (xs j)) (hi : i + 6 ≤ n) (hn : n ≤ 384) (h : RR I) (k : ∀ I', RR I' → z_R (muL n xs) finL 1108 [aR 200, aR 0, aR 60, aI i] [] I') : z_R (muL n xs) finL 1094 [aR 200, aR 0, aR 60, aI i] [] I := by
  refine g_aload_n (i := 1) (x := 0) dL_1094 rfl rfl ?_
  refine g_callV (C := RX10) (ci := 10) (As := []) (n := 0) dL_1095 ⟨m_46_14, pdX10_digest, ⟨Nat.le_of_ble_eq_true rfl, Nat.le_of_ble_eq_true rfl⟩, rfl, rfl, Nat.le_of_ble_eq_true rfl, Nat.le_of_ble_eq_true rfl⟩ m_46_11 m_46_12 m_46_13 m_1_2 rfl rfl (by decide) rfl rfl (Nat.le_of_ble_eq_true rfl) (t_digest (Q := fun r r' I2 => r' = r ∧ RR I2) h (fun r I' hr => ⟨rfl, hr⟩)) (fun r0 I1 h1 => ?_)
  obtain ⟨r, rfl, h1⟩ := h1
  refine g_aload_n (i := 2) (x := 60) dL_1098 rfl rfl ?_
  refine g_callV (C := RX11) (ci := 11) (As := []) (n := 0) dL_1099 ⟨m_47_4, pdX11_digest, ⟨Nat.le_of_ble_eq_true rfl, Nat.le_of_ble_eq_true rfl⟩, rfl, rfl, Nat.le_of_ble_eq_true rfl, Nat.le_of_ble_eq_true rfl⟩ m_47_1 m_47_2 m_47_3 m_1_5 rfl rfl (by decide) rfl rfl (Nat.le_of_ble_eq_true rfl) h1 (fun r0 I2 h2 => ?_)
  obtain ⟨r', rfl, rfl, h2⟩ := h2
  refine g_lcmp dL_1102 ?_
  exact g_if_eq dL_1103 (tgt := 1108) (by decide) (fun _ => k I2 h2) (fun q => absurd (by rw [if_neg (Int.lt_irrefl _), if_pos rfl]) q)
