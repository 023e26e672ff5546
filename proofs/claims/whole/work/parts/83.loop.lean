/-! the law's loop -/
def sp_Sc (X : sp_X) (a : sp_Ac) (L : Nat) (xs : Nat → Int32) : Prop := va_X (sp_ad X 1000) L xs a.s a.s.heap ∧ sp_ad X 1000 < a.s.heap.size ∧ ¬ sp_A X (sp_ad X 1000) ∧ L ≤ 384
theorem sr_sld {X : sp_X} {N d : Nat} {Rt : sp_Rt} {a : sp_Ac} {pc : Nat} {ls st : List Value} {g : sp_G} (hA : sp_Act X N d Rt a) {L i : Nat} {xs : Nat → Int32} (hSc : sp_Sc X a L xs) (hiL : i < L) (hi : decode (sp_b N) pc = .ok (.iaload, 1)) (k : sp_Ev X a N (pc + 1) ls (.int (xs i) :: st) g) : sp_Ev X a N pc ls (.int (nI i) :: .ref 1000 :: st) g := fun H locs sl hw hl => by
  obtain ⟨h1, h2, h3, h4⟩ := hSc
  exact va_sld hA.1 hA.2.1 h1 h2 h3 hw.2.2 (i := nI i) (vp_in_nI hiL (by omega)) hi (by rw [nI_clamp (by omega)]; exact k H locs sl hw hl)
theorem sr_slen {X : sp_X} {N d : Nat} {Rt : sp_Rt} {a : sp_Ac} {pc : Nat} {ls st : List Value} {g : sp_G} (hA : sp_Act X N d Rt a) {L : Nat} {xs : Nat → Int32} (hSc : sp_Sc X a L xs) (hi : decode (sp_b N) pc = .ok (.arraylength, 1)) (k : sp_Ev X a N (pc + 1) ls (.int (nI L) :: st) g) : sp_Ev X a N pc ls (.ref 1000 :: st) g := fun H locs sl hw hl => va_slen hA.1 hA.2.1 hSc.1 hSc.2.1 hSc.2.2.1 hw.2.2 hi (k H locs sl hw hl)
theorem sp_l6 : ∀ L, L < 6 → nI L - nI 6 < 0 := by decide +kernel
set_option maxRecDepth 20000 in
theorem lc_0 {X : sp_X} {ac : sp_Ac} {L i : Nat} {xs : Nat → Int32} {Rt : sp_Rt} {g : sp_G} (hSc : sp_Sc X ac L xs) (hA : sp_Act X 227 60 Rt ac) (hi : i + 6 ≤ L) (hR : sp_Rel g) (kk : ∀ g', sp_Rel g' → sp_Ev X ac 227 1335 [.ref 1000, .ref 0, .ref 64, .int (nI i)] [] g') : sp_Ev X ac 227 216 [.ref 1000, .ref 0, .ref 64, .int (nI i)] [] g := by
  have hL384 := hSc.2.2.2
  refine sr_aload_n hA si_227_216 rfl ?_
  refine sr_aload_n hA si_227_217 rfl ?_
  refine sr_iload_n hA si_227_218 rfl ?_
  refine sr_iconst (v := nI 1) hA si_227_219 (by decide) ?_
  refine sr_iaddN hA si_227_220 ?_
  refine sr_sld hA hSc (by omega) si_227_221 ?_
  refine sr_aload_n hA si_227_222 rfl ?_
  refine sr_iload_n hA si_227_223 rfl ?_
  refine sr_iconst (v := nI 2) hA si_227_224 (by decide) ?_
  refine sr_iaddN hA si_227_225 ?_
  refine sr_sld hA hSc (by omega) si_227_226 ?_
  obtain ⟨d1, Q1, hd1, hC1, hk1⟩ := pr_row (X := X) hR (xs (i + 1)) (xs (i + 2))
  refine sr_VRi (c := 0) (ci := 7) (as := [.int (xs (i + 1)), .int (xs (i + 2))]) (st := []) hA si_227_227 sv_10 sk_227_13 hC1 (by omega) rfl (by decide) (by decide) rfl sq_c_10 rfl (Nat.le_of_ble_eq_true rfl) (fun v1 g1 q1 => ?_)
  obtain ⟨d2, Q2, hd2, hC2, hk2⟩ := hk1 v1 g1 q1
  refine sr_aload_n hA si_227_230 rfl ?_
  refine sr_aload_n hA si_227_231 rfl ?_
  refine sr_iload_n hA si_227_232 rfl ?_
  refine sr_iconst (v := nI 1) hA si_227_233 (by decide) ?_
  refine sr_iaddN hA si_227_234 ?_
  refine sr_sld hA hSc (by omega) si_227_235 ?_
  refine sr_aload_n hA si_227_236 rfl ?_
  refine sr_iload_n hA si_227_237 rfl ?_
  refine sr_iconst (v := nI 2) hA si_227_238 (by decide) ?_
  refine sr_iaddN hA si_227_239 ?_
  refine sr_sld hA hSc (by omega) si_227_240 ?_
  refine sr_VRi (c := 64) (ci := 8) (as := [.int (xs (i + 1)), .int (xs (i + 2))]) (st := [.int v1]) hA si_227_241 sv_139 sk_227_17 hC2 (by omega) rfl (by decide) (by decide) rfl sq_c_139 rfl (Nat.le_of_ble_eq_true rfl) (fun v2 g2 q2 => ?_)
  obtain ⟨ev, hR2⟩ := hk2 v2 g2 q2
  rw [ev]
  refine sr_icmp_eq (tgt := 1335) hA si_227_244 (by decide) (fun c1 => ?_) (fun c1 => absurd rfl c1)
  exact kk g2 hR2
set_option maxRecDepth 20000 in
theorem lc_1 {X : sp_X} {ac : sp_Ac} {L i : Nat} {xs : Nat → Int32} {Rt : sp_Rt} {g : sp_G} (hSc : sp_Sc X ac L xs) (hA : sp_Act X 227 60 Rt ac) (hi : i + 6 ≤ L) (hR : sp_Rel g) (kk : ∀ g', sp_Rel g' → sp_Ev X ac 227 1335 [.ref 1000, .ref 0, .ref 64, .int (nI i)] [] g') : sp_Ev X ac 227 249 [.ref 1000, .ref 0, .ref 64, .int (nI i)] [] g := by
  have hL384 := hSc.2.2.2
  refine sr_aload_n hA si_227_249 rfl ?_
  refine sr_aload_n hA si_227_250 rfl ?_
  refine sr_iload_n hA si_227_251 rfl ?_
  refine sr_iconst (v := nI 1) hA si_227_252 (by decide) ?_
  refine sr_iaddN hA si_227_253 ?_
  refine sr_sld hA hSc (by omega) si_227_254 ?_
  refine sr_aload_n hA si_227_255 rfl ?_
  refine sr_iload_n hA si_227_256 rfl ?_
  refine sr_iconst (v := nI 2) hA si_227_257 (by decide) ?_
  refine sr_iaddN hA si_227_258 ?_
  refine sr_sld hA hSc (by omega) si_227_259 ?_
  refine sr_aload_n hA si_227_260 rfl ?_
  refine sr_iload_n hA si_227_261 rfl ?_
  refine sr_iconst (v := nI 3) hA si_227_262 (by decide) ?_
  refine sr_iaddN hA si_227_263 ?_
  refine sr_sld hA hSc (by omega) si_227_264 ?_
  obtain ⟨d1, Q1, hd1, hC1, hk1⟩ := pr_lay (X := X) hR (xs (i + 1)) (xs (i + 2)) (xs (i + 3))
  refine sr_VRi (c := 0) (ci := 7) (as := [.int (xs (i + 1)), .int (xs (i + 2)), .int (xs (i + 3))]) (st := []) hA si_227_265 sv_14 sk_227_18 hC1 (by omega) rfl (by decide) (by decide) rfl sq_c_14 rfl (Nat.le_of_ble_eq_true rfl) (fun v1 g1 q1 => ?_)
  obtain ⟨d2, Q2, hd2, hC2, hk2⟩ := hk1 v1 g1 q1
  refine sr_aload_n hA si_227_268 rfl ?_
  refine sr_aload_n hA si_227_269 rfl ?_
  refine sr_iload_n hA si_227_270 rfl ?_
  refine sr_iconst (v := nI 1) hA si_227_271 (by decide) ?_
  refine sr_iaddN hA si_227_272 ?_
  refine sr_sld hA hSc (by omega) si_227_273 ?_
  refine sr_aload_n hA si_227_274 rfl ?_
  refine sr_iload_n hA si_227_275 rfl ?_
  refine sr_iconst (v := nI 2) hA si_227_276 (by decide) ?_
  refine sr_iaddN hA si_227_277 ?_
  refine sr_sld hA hSc (by omega) si_227_278 ?_
  refine sr_aload_n hA si_227_279 rfl ?_
  refine sr_iload_n hA si_227_280 rfl ?_
  refine sr_iconst (v := nI 3) hA si_227_281 (by decide) ?_
  refine sr_iaddN hA si_227_282 ?_
  refine sr_sld hA hSc (by omega) si_227_283 ?_
  refine sr_VRi (c := 64) (ci := 8) (as := [.int (xs (i + 1)), .int (xs (i + 2)), .int (xs (i + 3))]) (st := [.int v1]) hA si_227_284 sv_142 sk_227_22 hC2 (by omega) rfl (by decide) (by decide) rfl sq_c_142 rfl (Nat.le_of_ble_eq_true rfl) (fun v2 g2 q2 => ?_)
  obtain ⟨ev, hR2⟩ := hk2 v2 g2 q2
  rw [ev]
  refine sr_icmp_eq (tgt := 1335) hA si_227_287 (by decide) (fun c1 => ?_) (fun c1 => absurd rfl c1)
  exact kk g2 hR2
set_option maxRecDepth 20000 in
theorem lc_2 {X : sp_X} {ac : sp_Ac} {L i : Nat} {xs : Nat → Int32} {Rt : sp_Rt} {g : sp_G} (hSc : sp_Sc X ac L xs) (hA : sp_Act X 227 60 Rt ac) (hi : i + 6 ≤ L) (hR : sp_Rel g) (kk : ∀ g', sp_Rel g' → sp_Ev X ac 227 1335 [.ref 1000, .ref 0, .ref 64, .int (nI i)] [] g') : sp_Ev X ac 227 292 [.ref 1000, .ref 0, .ref 64, .int (nI i)] [] g := by
  have hL384 := hSc.2.2.2
  refine sr_aload_n hA si_227_292 rfl ?_
  refine sr_aload_n hA si_227_293 rfl ?_
  refine sr_iload_n hA si_227_294 rfl ?_
  refine sr_iconst (v := nI 1) hA si_227_295 (by decide) ?_
  refine sr_iaddN hA si_227_296 ?_
  refine sr_sld hA hSc (by omega) si_227_297 ?_
  refine sr_aload_n hA si_227_298 rfl ?_
  refine sr_iload_n hA si_227_299 rfl ?_
  refine sr_iconst (v := nI 2) hA si_227_300 (by decide) ?_
  refine sr_iaddN hA si_227_301 ?_
  refine sr_sld hA hSc (by omega) si_227_302 ?_
  obtain ⟨d1, Q1, hd1, hC1, hk1⟩ := pr_at (X := X) hR (xs (i + 1)) (xs (i + 2))
  refine sr_VRi (c := 0) (ci := 7) (as := [.int (xs (i + 1)), .int (xs (i + 2))]) (st := []) hA si_227_303 sv_20 sk_227_23 hC1 (by omega) rfl (by decide) (by decide) rfl sq_c_20 rfl (Nat.le_of_ble_eq_true rfl) (fun v1 g1 q1 => ?_)
  obtain ⟨d2, Q2, hd2, hC2, hk2⟩ := hk1 v1 g1 q1
  refine sr_aload_n hA si_227_306 rfl ?_
  refine sr_aload_n hA si_227_307 rfl ?_
  refine sr_iload_n hA si_227_308 rfl ?_
  refine sr_iconst (v := nI 1) hA si_227_309 (by decide) ?_
  refine sr_iaddN hA si_227_310 ?_
  refine sr_sld hA hSc (by omega) si_227_311 ?_
  refine sr_aload_n hA si_227_312 rfl ?_
  refine sr_iload_n hA si_227_313 rfl ?_
  refine sr_iconst (v := nI 2) hA si_227_314 (by decide) ?_
  refine sr_iaddN hA si_227_315 ?_
  refine sr_sld hA hSc (by omega) si_227_316 ?_
  refine sr_VRi (c := 64) (ci := 8) (as := [.int (xs (i + 1)), .int (xs (i + 2))]) (st := [.int v1]) hA si_227_317 sv_145 sk_227_26 hC2 (by omega) rfl (by decide) (by decide) rfl sq_c_145 rfl (Nat.le_of_ble_eq_true rfl) (fun v2 g2 q2 => ?_)
  obtain ⟨ev, hR2⟩ := hk2 v2 g2 q2
  rw [ev]
  refine sr_icmp_eq (tgt := 1335) hA si_227_320 (by decide) (fun c1 => ?_) (fun c1 => absurd rfl c1)
  exact kk g2 hR2
set_option maxRecDepth 20000 in
theorem lc_3 {X : sp_X} {ac : sp_Ac} {L i : Nat} {xs : Nat → Int32} {Rt : sp_Rt} {g : sp_G} (hSc : sp_Sc X ac L xs) (hA : sp_Act X 227 60 Rt ac) (hi : i + 6 ≤ L) (hR : sp_Rel g) (kk : ∀ g', sp_Rel g' → sp_Ev X ac 227 1335 [.ref 1000, .ref 0, .ref 64, .int (nI i)] [] g') : sp_Ev X ac 227 325 [.ref 1000, .ref 0, .ref 64, .int (nI i)] [] g := by
  have hL384 := hSc.2.2.2
  refine sr_aload_n hA si_227_325 rfl ?_
  refine sr_aload_n hA si_227_326 rfl ?_
  refine sr_iload_n hA si_227_327 rfl ?_
  refine sr_iconst (v := nI 1) hA si_227_328 (by decide) ?_
  refine sr_iaddN hA si_227_329 ?_
  refine sr_sld hA hSc (by omega) si_227_330 ?_
  obtain ⟨d1, Q1, hd1, hC1, hk1⟩ := pr_tear (X := X) hR (xs (i + 1))
  refine sr_VRi (c := 0) (ci := 7) (as := [.int (xs (i + 1))]) (st := []) hA si_227_331 sv_21 sk_227_27 hC1 (by omega) rfl (by decide) (by decide) rfl sq_c_21 rfl (Nat.le_of_ble_eq_true rfl) (fun v1 g1 q1 => ?_)
  obtain ⟨d2, Q2, hd2, hC2, hk2⟩ := hk1 v1 g1 q1
  refine sr_aload_n hA si_227_334 rfl ?_
  refine sr_aload_n hA si_227_335 rfl ?_
  refine sr_iload_n hA si_227_336 rfl ?_
  refine sr_iconst (v := nI 1) hA si_227_337 (by decide) ?_
  refine sr_iaddN hA si_227_338 ?_
  refine sr_sld hA hSc (by omega) si_227_339 ?_
  refine sr_VRi (c := 64) (ci := 8) (as := [.int (xs (i + 1))]) (st := [.int v1]) hA si_227_340 sv_146 sk_227_31 hC2 (by omega) rfl (by decide) (by decide) rfl sq_c_146 rfl (Nat.le_of_ble_eq_true rfl) (fun v2 g2 q2 => ?_)
  obtain ⟨ev, hR2⟩ := hk2 v2 g2 q2
  rw [ev]
  refine sr_icmp_eq (tgt := 1335) hA si_227_343 (by decide) (fun c1 => ?_) (fun c1 => absurd rfl c1)
  exact kk g2 hR2
set_option maxRecDepth 20000 in
theorem lc_4 {X : sp_X} {ac : sp_Ac} {L i : Nat} {xs : Nat → Int32} {Rt : sp_Rt} {g : sp_G} (hSc : sp_Sc X ac L xs) (hA : sp_Act X 227 60 Rt ac) (hi : i + 6 ≤ L) (hR : sp_Rel g) (kk : ∀ g', sp_Rel g' → sp_Ev X ac 227 1335 [.ref 1000, .ref 0, .ref 64, .int (nI i)] [] g') : sp_Ev X ac 227 348 [.ref 1000, .ref 0, .ref 64, .int (nI i)] [] g := by
  have hL384 := hSc.2.2.2
  refine sr_aload_n hA si_227_348 rfl ?_
  refine sr_aload_n hA si_227_349 rfl ?_
  refine sr_iload_n hA si_227_350 rfl ?_
  refine sr_iconst (v := nI 1) hA si_227_351 (by decide) ?_
  refine sr_iaddN hA si_227_352 ?_
  refine sr_sld hA hSc (by omega) si_227_353 ?_
  refine sr_aload_n hA si_227_354 rfl ?_
  refine sr_iload_n hA si_227_355 rfl ?_
  refine sr_iconst (v := nI 2) hA si_227_356 (by decide) ?_
  refine sr_iaddN hA si_227_357 ?_
  refine sr_sld hA hSc (by omega) si_227_358 ?_
  refine sr_aload_n hA si_227_359 rfl ?_
  refine sr_iload_n hA si_227_360 rfl ?_
  refine sr_iconst (v := nI 3) hA si_227_361 (by decide) ?_
  refine sr_iaddN hA si_227_362 ?_
  refine sr_sld hA hSc (by omega) si_227_363 ?_
  refine sr_aload_n hA si_227_364 rfl ?_
  refine sr_iload_n hA si_227_365 rfl ?_
  refine sr_iconst (v := nI 4) hA si_227_366 (by decide) ?_
  refine sr_iaddN hA si_227_367 ?_
  refine sr_sld hA hSc (by omega) si_227_368 ?_
  refine sr_aload_n hA si_227_369 rfl ?_
  refine sr_iload_n hA si_227_370 rfl ?_
  refine sr_iconst (v := nI 5) hA si_227_371 (by decide) ?_
  refine sr_iaddN hA si_227_372 ?_
  refine sr_sld hA hSc (by omega) si_227_373 ?_
  obtain ⟨d1, Q1, hd1, hC1, hk1⟩ := pr_copy (X := X) hR (xs (i + 1)) (xs (i + 2)) (xs (i + 3)) (xs (i + 4)) (xs (i + 5))
  refine sr_VRi (c := 0) (ci := 7) (as := [.int (xs (i + 1)), .int (xs (i + 2)), .int (xs (i + 3)), .int (xs (i + 4)), .int (xs (i + 5))]) (st := []) hA si_227_374 sv_23 sk_227_32 hC1 (by omega) rfl (by decide) (by decide) rfl sq_c_23 rfl (Nat.le_of_ble_eq_true rfl) (fun v1 g1 q1 => ?_)
  obtain ⟨d2, Q2, hd2, hC2, hk2⟩ := hk1 v1 g1 q1
  refine sr_aload_n hA si_227_377 rfl ?_
  refine sr_aload_n hA si_227_378 rfl ?_
  refine sr_iload_n hA si_227_379 rfl ?_
  refine sr_iconst (v := nI 1) hA si_227_380 (by decide) ?_
  refine sr_iaddN hA si_227_381 ?_
  refine sr_sld hA hSc (by omega) si_227_382 ?_
  refine sr_aload_n hA si_227_383 rfl ?_
  refine sr_iload_n hA si_227_384 rfl ?_
  refine sr_iconst (v := nI 2) hA si_227_385 (by decide) ?_
  refine sr_iaddN hA si_227_386 ?_
  refine sr_sld hA hSc (by omega) si_227_387 ?_
  refine sr_aload_n hA si_227_388 rfl ?_
  refine sr_iload_n hA si_227_389 rfl ?_
  refine sr_iconst (v := nI 3) hA si_227_390 (by decide) ?_
  refine sr_iaddN hA si_227_391 ?_
  refine sr_sld hA hSc (by omega) si_227_392 ?_
  refine sr_aload_n hA si_227_393 rfl ?_
  refine sr_iload_n hA si_227_394 rfl ?_
  refine sr_iconst (v := nI 4) hA si_227_395 (by decide) ?_
  refine sr_iaddN hA si_227_396 ?_
  refine sr_sld hA hSc (by omega) si_227_397 ?_
  refine sr_aload_n hA si_227_398 rfl ?_
  refine sr_iload_n hA si_227_399 rfl ?_
  refine sr_iconst (v := nI 5) hA si_227_400 (by decide) ?_
  refine sr_iaddN hA si_227_401 ?_
  refine sr_sld hA hSc (by omega) si_227_402 ?_
  refine sr_VRi (c := 64) (ci := 8) (as := [.int (xs (i + 1)), .int (xs (i + 2)), .int (xs (i + 3)), .int (xs (i + 4)), .int (xs (i + 5))]) (st := [.int v1]) hA si_227_403 sv_147 sk_227_36 hC2 (by omega) rfl (by decide) (by decide) rfl sq_c_147 rfl (Nat.le_of_ble_eq_true rfl) (fun v2 g2 q2 => ?_)
  obtain ⟨ev, hR2⟩ := hk2 v2 g2 q2
  rw [ev]
  refine sr_icmp_eq (tgt := 1335) hA si_227_406 (by decide) (fun c1 => ?_) (fun c1 => absurd rfl c1)
  exact kk g2 hR2
set_option maxRecDepth 20000 in
theorem lc_5 {X : sp_X} {ac : sp_Ac} {L i : Nat} {xs : Nat → Int32} {Rt : sp_Rt} {g : sp_G} (hSc : sp_Sc X ac L xs) (hA : sp_Act X 227 60 Rt ac) (hi : i + 6 ≤ L) (hR : sp_Rel g) (kk : ∀ g', sp_Rel g' → sp_Ev X ac 227 1335 [.ref 1000, .ref 0, .ref 64, .int (nI i)] [] g') : sp_Ev X ac 227 411 [.ref 1000, .ref 0, .ref 64, .int (nI i)] [] g := by
  have hL384 := hSc.2.2.2
  refine sr_aload_n hA si_227_411 rfl ?_
  refine sr_aload_n hA si_227_412 rfl ?_
  refine sr_iload_n hA si_227_413 rfl ?_
  refine sr_iconst (v := nI 1) hA si_227_414 (by decide) ?_
  refine sr_iaddN hA si_227_415 ?_
  refine sr_sld hA hSc (by omega) si_227_416 ?_
  obtain ⟨d1, Q1, hd1, hC1, hk1⟩ := pr_mean (X := X) hR (xs (i + 1))
  refine sr_VRi (c := 0) (ci := 7) (as := [.int (xs (i + 1))]) (st := []) hA si_227_417 sv_25 sk_227_37 hC1 (by omega) rfl (by decide) (by decide) rfl sq_c_25 rfl (Nat.le_of_ble_eq_true rfl) (fun v1 g1 q1 => ?_)
  obtain ⟨d2, Q2, hd2, hC2, hk2⟩ := hk1 v1 g1 q1
  refine sr_aload_n hA si_227_420 rfl ?_
  refine sr_aload_n hA si_227_421 rfl ?_
  refine sr_iload_n hA si_227_422 rfl ?_
  refine sr_iconst (v := nI 1) hA si_227_423 (by decide) ?_
  refine sr_iaddN hA si_227_424 ?_
  refine sr_sld hA hSc (by omega) si_227_425 ?_
  refine sr_VRi (c := 64) (ci := 8) (as := [.int (xs (i + 1))]) (st := [.int v1]) hA si_227_426 sv_148 sk_227_40 hC2 (by omega) rfl (by decide) (by decide) rfl sq_c_148 rfl (Nat.le_of_ble_eq_true rfl) (fun v2 g2 q2 => ?_)
  obtain ⟨ev, hR2⟩ := hk2 v2 g2 q2
  rw [ev]
  refine sr_icmp_eq (tgt := 1335) hA si_227_429 (by decide) (fun c1 => ?_) (fun c1 => absurd rfl c1)
  exact kk g2 hR2
set_option maxRecDepth 20000 in
theorem lc_6 {X : sp_X} {ac : sp_Ac} {L i : Nat} {xs : Nat → Int32} {Rt : sp_Rt} {g : sp_G} (hSc : sp_Sc X ac L xs) (hA : sp_Act X 227 60 Rt ac) (hi : i + 6 ≤ L) (hR : sp_Rel g) (kk : ∀ g', sp_Rel g' → sp_Ev X ac 227 1335 [.ref 1000, .ref 0, .ref 64, .int (nI i)] [] g') : sp_Ev X ac 227 434 [.ref 1000, .ref 0, .ref 64, .int (nI i)] [] g := by
  have hL384 := hSc.2.2.2
  refine sr_aload_n hA si_227_434 rfl ?_
  refine sr_aload_n hA si_227_435 rfl ?_
  refine sr_iload_n hA si_227_436 rfl ?_
  refine sr_iconst (v := nI 1) hA si_227_437 (by decide) ?_
  refine sr_iaddN hA si_227_438 ?_
  refine sr_sld hA hSc (by omega) si_227_439 ?_
  refine sr_aload_n hA si_227_440 rfl ?_
  refine sr_iload_n hA si_227_441 rfl ?_
  refine sr_iconst (v := nI 2) hA si_227_442 (by decide) ?_
  refine sr_iaddN hA si_227_443 ?_
  refine sr_sld hA hSc (by omega) si_227_444 ?_
  obtain ⟨d1, Q1, hd1, hC1, hk1⟩ := pr_text (X := X) hR (xs (i + 1)) (xs (i + 2))
  refine sr_VRi (c := 0) (ci := 7) (as := [.int (xs (i + 1)), .int (xs (i + 2))]) (st := []) hA si_227_445 sv_27 sk_227_41 hC1 (by omega) rfl (by decide) (by decide) rfl sq_c_27 rfl (Nat.le_of_ble_eq_true rfl) (fun v1 g1 q1 => ?_)
  obtain ⟨d2, Q2, hd2, hC2, hk2⟩ := hk1 v1 g1 q1
  refine sr_aload_n hA si_227_448 rfl ?_
  refine sr_aload_n hA si_227_449 rfl ?_
  refine sr_iload_n hA si_227_450 rfl ?_
  refine sr_iconst (v := nI 1) hA si_227_451 (by decide) ?_
  refine sr_iaddN hA si_227_452 ?_
  refine sr_sld hA hSc (by omega) si_227_453 ?_
  refine sr_aload_n hA si_227_454 rfl ?_
  refine sr_iload_n hA si_227_455 rfl ?_
  refine sr_iconst (v := nI 2) hA si_227_456 (by decide) ?_
  refine sr_iaddN hA si_227_457 ?_
  refine sr_sld hA hSc (by omega) si_227_458 ?_
  refine sr_VRi (c := 64) (ci := 8) (as := [.int (xs (i + 1)), .int (xs (i + 2))]) (st := [.int v1]) hA si_227_459 sv_149 sk_227_44 hC2 (by omega) rfl (by decide) (by decide) rfl sq_c_149 rfl (Nat.le_of_ble_eq_true rfl) (fun v2 g2 q2 => ?_)
  obtain ⟨ev, hR2⟩ := hk2 v2 g2 q2
  rw [ev]
  refine sr_icmp_eq (tgt := 1335) hA si_227_462 (by decide) (fun c1 => ?_) (fun c1 => absurd rfl c1)
  exact kk g2 hR2
set_option maxRecDepth 20000 in
theorem lc_7 {X : sp_X} {ac : sp_Ac} {L i : Nat} {xs : Nat → Int32} {Rt : sp_Rt} {g : sp_G} (hSc : sp_Sc X ac L xs) (hA : sp_Act X 227 60 Rt ac) (hi : i + 6 ≤ L) (hR : sp_Rel g) (kk : ∀ g', sp_Rel g' → sp_Ev X ac 227 1335 [.ref 1000, .ref 0, .ref 64, .int (nI i)] [] g') : sp_Ev X ac 227 467 [.ref 1000, .ref 0, .ref 64, .int (nI i)] [] g := by
  have hL384 := hSc.2.2.2
  refine sr_aload_n hA si_227_467 rfl ?_
  refine sr_aload_n hA si_227_468 rfl ?_
  refine sr_iload_n hA si_227_469 rfl ?_
  refine sr_iconst (v := nI 1) hA si_227_470 (by decide) ?_
  refine sr_iaddN hA si_227_471 ?_
  refine sr_sld hA hSc (by omega) si_227_472 ?_
  refine sr_aload_n hA si_227_473 rfl ?_
  refine sr_iload_n hA si_227_474 rfl ?_
  refine sr_iconst (v := nI 2) hA si_227_475 (by decide) ?_
  refine sr_iaddN hA si_227_476 ?_
  refine sr_sld hA hSc (by omega) si_227_477 ?_
  refine sr_aload_n hA si_227_478 rfl ?_
  refine sr_iload_n hA si_227_479 rfl ?_
  refine sr_iconst (v := nI 3) hA si_227_480 (by decide) ?_
  refine sr_iaddN hA si_227_481 ?_
  refine sr_sld hA hSc (by omega) si_227_482 ?_
  obtain ⟨d1, Q1, hd1, hC1, hk1⟩ := pr_put (X := X) hR (xs (i + 1)) (xs (i + 2)) (xs (i + 3))
  refine sr_VRi (c := 0) (ci := 7) (as := [.int (xs (i + 1)), .int (xs (i + 2)), .int (xs (i + 3))]) (st := []) hA si_227_483 sv_28 sk_227_45 hC1 (by omega) rfl (by decide) (by decide) rfl sq_c_28 rfl (Nat.le_of_ble_eq_true rfl) (fun v1 g1 q1 => ?_)
  obtain ⟨d2, Q2, hd2, hC2, hk2⟩ := hk1 v1 g1 q1
  refine sr_aload_n hA si_227_486 rfl ?_
  refine sr_aload_n hA si_227_487 rfl ?_
  refine sr_iload_n hA si_227_488 rfl ?_
  refine sr_iconst (v := nI 1) hA si_227_489 (by decide) ?_
  refine sr_iaddN hA si_227_490 ?_
  refine sr_sld hA hSc (by omega) si_227_491 ?_
  refine sr_aload_n hA si_227_492 rfl ?_
  refine sr_iload_n hA si_227_493 rfl ?_
  refine sr_iconst (v := nI 2) hA si_227_494 (by decide) ?_
  refine sr_iaddN hA si_227_495 ?_
  refine sr_sld hA hSc (by omega) si_227_496 ?_
  refine sr_aload_n hA si_227_497 rfl ?_
  refine sr_iload_n hA si_227_498 rfl ?_
  refine sr_iconst (v := nI 3) hA si_227_499 (by decide) ?_
  refine sr_iaddN hA si_227_500 ?_
  refine sr_sld hA hSc (by omega) si_227_501 ?_
  refine sr_VRi (c := 64) (ci := 8) (as := [.int (xs (i + 1)), .int (xs (i + 2)), .int (xs (i + 3))]) (st := [.int v1]) hA si_227_502 sv_151 sk_227_48 hC2 (by omega) rfl (by decide) (by decide) rfl sq_c_151 rfl (Nat.le_of_ble_eq_true rfl) (fun v2 g2 q2 => ?_)
  obtain ⟨ev, hR2⟩ := hk2 v2 g2 q2
  rw [ev]
  refine sr_icmp_eq (tgt := 1335) hA si_227_505 (by decide) (fun c1 => ?_) (fun c1 => absurd rfl c1)
  exact kk g2 hR2
set_option maxRecDepth 20000 in
theorem lc_8 {X : sp_X} {ac : sp_Ac} {L i : Nat} {xs : Nat → Int32} {Rt : sp_Rt} {g : sp_G} (hSc : sp_Sc X ac L xs) (hA : sp_Act X 227 60 Rt ac) (hi : i + 6 ≤ L) (hR : sp_Rel g) (kk : ∀ g', sp_Rel g' → sp_Ev X ac 227 1335 [.ref 1000, .ref 0, .ref 64, .int (nI i)] [] g') : sp_Ev X ac 227 510 [.ref 1000, .ref 0, .ref 64, .int (nI i)] [] g := by
  have hL384 := hSc.2.2.2
  refine sr_aload_n hA si_227_510 rfl ?_
  refine sr_aload_n hA si_227_511 rfl ?_
  refine sr_iload_n hA si_227_512 rfl ?_
  refine sr_iconst (v := nI 1) hA si_227_513 (by decide) ?_
  refine sr_iaddN hA si_227_514 ?_
  refine sr_sld hA hSc (by omega) si_227_515 ?_
  obtain ⟨d1, Q1, hd1, hC1, hk1⟩ := pr_fault (X := X) hR (xs (i + 1))
  refine sr_VRi (c := 0) (ci := 7) (as := [.int (xs (i + 1))]) (st := []) hA si_227_516 sv_29 sk_227_49 hC1 (by omega) rfl (by decide) (by decide) rfl sq_c_29 rfl (Nat.le_of_ble_eq_true rfl) (fun v1 g1 q1 => ?_)
  obtain ⟨d2, Q2, hd2, hC2, hk2⟩ := hk1 v1 g1 q1
  refine sr_aload_n hA si_227_519 rfl ?_
  refine sr_aload_n hA si_227_520 rfl ?_
  refine sr_iload_n hA si_227_521 rfl ?_
  refine sr_iconst (v := nI 1) hA si_227_522 (by decide) ?_
  refine sr_iaddN hA si_227_523 ?_
  refine sr_sld hA hSc (by omega) si_227_524 ?_
  refine sr_VRi (c := 64) (ci := 8) (as := [.int (xs (i + 1))]) (st := [.int v1]) hA si_227_525 sv_152 sk_227_52 hC2 (by omega) rfl (by decide) (by decide) rfl sq_c_152 rfl (Nat.le_of_ble_eq_true rfl) (fun v2 g2 q2 => ?_)
  obtain ⟨ev, hR2⟩ := hk2 v2 g2 q2
  rw [ev]
  refine sr_icmp_eq (tgt := 1335) hA si_227_528 (by decide) (fun c1 => ?_) (fun c1 => absurd rfl c1)
  exact kk g2 hR2
set_option maxRecDepth 20000 in
theorem lc_9 {X : sp_X} {ac : sp_Ac} {L i : Nat} {xs : Nat → Int32} {Rt : sp_Rt} {g : sp_G} (hSc : sp_Sc X ac L xs) (hA : sp_Act X 227 60 Rt ac) (hi : i + 6 ≤ L) (hR : sp_Rel g) (kk : ∀ g', sp_Rel g' → sp_Ev X ac 227 1335 [.ref 1000, .ref 0, .ref 64, .int (nI i)] [] g') : sp_Ev X ac 227 533 [.ref 1000, .ref 0, .ref 64, .int (nI i)] [] g := by
  have hL384 := hSc.2.2.2
  refine sr_aload_n hA si_227_533 rfl ?_
  refine sr_aload_n hA si_227_534 rfl ?_
  refine sr_iload_n hA si_227_535 rfl ?_
  refine sr_iconst (v := nI 1) hA si_227_536 (by decide) ?_
  refine sr_iaddN hA si_227_537 ?_
  refine sr_sld hA hSc (by omega) si_227_538 ?_
  obtain ⟨d1, Q1, hd1, hC1, hk1⟩ := pr_piano (X := X) hR (xs (i + 1))
  refine sr_VRi (c := 0) (ci := 7) (as := [.int (xs (i + 1))]) (st := []) hA si_227_539 sv_37 sk_227_53 hC1 (by omega) rfl (by decide) (by decide) rfl sq_c_37 rfl (Nat.le_of_ble_eq_true rfl) (fun v1 g1 q1 => ?_)
  obtain ⟨d2, Q2, hd2, hC2, hk2⟩ := hk1 v1 g1 q1
  refine sr_aload_n hA si_227_542 rfl ?_
  refine sr_aload_n hA si_227_543 rfl ?_
  refine sr_iload_n hA si_227_544 rfl ?_
  refine sr_iconst (v := nI 1) hA si_227_545 (by decide) ?_
  refine sr_iaddN hA si_227_546 ?_
  refine sr_sld hA hSc (by omega) si_227_547 ?_
  refine sr_VRi (c := 64) (ci := 8) (as := [.int (xs (i + 1))]) (st := [.int v1]) hA si_227_548 sv_159 sk_227_56 hC2 (by omega) rfl (by decide) (by decide) rfl sq_c_159 rfl (Nat.le_of_ble_eq_true rfl) (fun v2 g2 q2 => ?_)
  obtain ⟨ev, hR2⟩ := hk2 v2 g2 q2
  rw [ev]
  refine sr_icmp_eq (tgt := 1335) hA si_227_551 (by decide) (fun c1 => ?_) (fun c1 => absurd rfl c1)
  exact kk g2 hR2
set_option maxRecDepth 20000 in
theorem lc_10 {X : sp_X} {ac : sp_Ac} {L i : Nat} {xs : Nat → Int32} {Rt : sp_Rt} {g : sp_G} (hSc : sp_Sc X ac L xs) (hA : sp_Act X 227 60 Rt ac) (hi : i + 6 ≤ L) (hR : sp_Rel g) (kk : ∀ g', sp_Rel g' → sp_Ev X ac 227 1335 [.ref 1000, .ref 0, .ref 64, .int (nI i)] [] g') : sp_Ev X ac 227 556 [.ref 1000, .ref 0, .ref 64, .int (nI i)] [] g := by
  have hL384 := hSc.2.2.2
  refine sr_aload_n hA si_227_556 rfl ?_
  refine sr_aload_n hA si_227_557 rfl ?_
  refine sr_iload_n hA si_227_558 rfl ?_
  refine sr_iconst (v := nI 1) hA si_227_559 (by decide) ?_
  refine sr_iaddN hA si_227_560 ?_
  refine sr_sld hA hSc (by omega) si_227_561 ?_
  refine sr_aload_n hA si_227_562 rfl ?_
  refine sr_iload_n hA si_227_563 rfl ?_
  refine sr_iconst (v := nI 2) hA si_227_564 (by decide) ?_
  refine sr_iaddN hA si_227_565 ?_
  refine sr_sld hA hSc (by omega) si_227_566 ?_
  obtain ⟨d1, Q1, hd1, hC1, hk1⟩ := pr_key (X := X) hR (xs (i + 1)) (xs (i + 2))
  refine sr_VRi (c := 0) (ci := 7) (as := [.int (xs (i + 1)), .int (xs (i + 2))]) (st := []) hA si_227_567 sv_42 sk_227_57 hC1 (by omega) rfl (by decide) (by decide) rfl sq_c_42 rfl (Nat.le_of_ble_eq_true rfl) (fun v1 g1 q1 => ?_)
  obtain ⟨d2, Q2, hd2, hC2, hk2⟩ := hk1 v1 g1 q1
  refine sr_aload_n hA si_227_570 rfl ?_
  refine sr_aload_n hA si_227_571 rfl ?_
  refine sr_iload_n hA si_227_572 rfl ?_
  refine sr_iconst (v := nI 1) hA si_227_573 (by decide) ?_
  refine sr_iaddN hA si_227_574 ?_
  refine sr_sld hA hSc (by omega) si_227_575 ?_
  refine sr_aload_n hA si_227_576 rfl ?_
  refine sr_iload_n hA si_227_577 rfl ?_
  refine sr_iconst (v := nI 2) hA si_227_578 (by decide) ?_
  refine sr_iaddN hA si_227_579 ?_
  refine sr_sld hA hSc (by omega) si_227_580 ?_
  refine sr_VRi (c := 64) (ci := 8) (as := [.int (xs (i + 1)), .int (xs (i + 2))]) (st := [.int v1]) hA si_227_581 sv_161 sk_227_60 hC2 (by omega) rfl (by decide) (by decide) rfl sq_c_161 rfl (Nat.le_of_ble_eq_true rfl) (fun v2 g2 q2 => ?_)
  obtain ⟨ev, hR2⟩ := hk2 v2 g2 q2
  rw [ev]
  refine sr_icmp_eq (tgt := 1335) hA si_227_584 (by decide) (fun c1 => ?_) (fun c1 => absurd rfl c1)
  exact kk g2 hR2
set_option maxRecDepth 20000 in
theorem lc_11 {X : sp_X} {ac : sp_Ac} {L i : Nat} {xs : Nat → Int32} {Rt : sp_Rt} {g : sp_G} (hSc : sp_Sc X ac L xs) (hA : sp_Act X 227 60 Rt ac) (hi : i + 6 ≤ L) (hR : sp_Rel g) (kk : ∀ g', sp_Rel g' → sp_Ev X ac 227 1335 [.ref 1000, .ref 0, .ref 64, .int (nI i)] [] g') : sp_Ev X ac 227 589 [.ref 1000, .ref 0, .ref 64, .int (nI i)] [] g := by
  have hL384 := hSc.2.2.2
  refine sr_aload_n hA si_227_589 rfl ?_
  refine sr_aload_n hA si_227_590 rfl ?_
  refine sr_iload_n hA si_227_591 rfl ?_
  refine sr_iconst (v := nI 1) hA si_227_592 (by decide) ?_
  refine sr_iaddN hA si_227_593 ?_
  refine sr_sld hA hSc (by omega) si_227_594 ?_
  refine sr_aload_n hA si_227_595 rfl ?_
  refine sr_iload_n hA si_227_596 rfl ?_
  refine sr_iconst (v := nI 2) hA si_227_597 (by decide) ?_
  refine sr_iaddN hA si_227_598 ?_
  refine sr_sld hA hSc (by omega) si_227_599 ?_
  obtain ⟨d1, Q1, hd1, hC1, hk1⟩ := pr_mark (X := X) hR (xs (i + 1)) (xs (i + 2))
  refine sr_VRi (c := 0) (ci := 7) (as := [.int (xs (i + 1)), .int (xs (i + 2))]) (st := []) hA si_227_600 sv_46 sk_227_61 hC1 (by omega) rfl (by decide) (by decide) rfl sq_c_46 rfl (Nat.le_of_ble_eq_true rfl) (fun v1 g1 q1 => ?_)
  obtain ⟨d2, Q2, hd2, hC2, hk2⟩ := hk1 v1 g1 q1
  refine sr_aload_n hA si_227_603 rfl ?_
  refine sr_aload_n hA si_227_604 rfl ?_
  refine sr_iload_n hA si_227_605 rfl ?_
  refine sr_iconst (v := nI 1) hA si_227_606 (by decide) ?_
  refine sr_iaddN hA si_227_607 ?_
  refine sr_sld hA hSc (by omega) si_227_608 ?_
  refine sr_aload_n hA si_227_609 rfl ?_
  refine sr_iload_n hA si_227_610 rfl ?_
  refine sr_iconst (v := nI 2) hA si_227_611 (by decide) ?_
  refine sr_iaddN hA si_227_612 ?_
  refine sr_sld hA hSc (by omega) si_227_613 ?_
  refine sr_VRi (c := 64) (ci := 8) (as := [.int (xs (i + 1)), .int (xs (i + 2))]) (st := [.int v1]) hA si_227_614 sv_166 sk_227_64 hC2 (by omega) rfl (by decide) (by decide) rfl sq_c_166 rfl (Nat.le_of_ble_eq_true rfl) (fun v2 g2 q2 => ?_)
  obtain ⟨ev, hR2⟩ := hk2 v2 g2 q2
  rw [ev]
  refine sr_icmp_eq (tgt := 1335) hA si_227_617 (by decide) (fun c1 => ?_) (fun c1 => absurd rfl c1)
  exact kk g2 hR2
set_option maxRecDepth 20000 in
theorem lc_12 {X : sp_X} {ac : sp_Ac} {L i : Nat} {xs : Nat → Int32} {Rt : sp_Rt} {g : sp_G} (hSc : sp_Sc X ac L xs) (hA : sp_Act X 227 60 Rt ac) (hi : i + 6 ≤ L) (hR : sp_Rel g) (kk : ∀ g', sp_Rel g' → sp_Ev X ac 227 1335 [.ref 1000, .ref 0, .ref 64, .int (nI i)] [] g') : sp_Ev X ac 227 622 [.ref 1000, .ref 0, .ref 64, .int (nI i)] [] g := by
  have hL384 := hSc.2.2.2
  refine sr_aload_n hA si_227_622 rfl ?_
  refine sr_aload_n hA si_227_623 rfl ?_
  refine sr_iload_n hA si_227_624 rfl ?_
  refine sr_iconst (v := nI 1) hA si_227_625 (by decide) ?_
  refine sr_iaddN hA si_227_626 ?_
  refine sr_sld hA hSc (by omega) si_227_627 ?_
  obtain ⟨d1, Q1, hd1, hC1, hk1⟩ := pr_spade (X := X) hR (xs (i + 1))
  refine sr_VRi (c := 0) (ci := 7) (as := [.int (xs (i + 1))]) (st := []) hA si_227_628 sv_52 sk_227_65 hC1 (by omega) rfl (by decide) (by decide) rfl sq_c_52 rfl (Nat.le_of_ble_eq_true rfl) (fun v1 g1 q1 => ?_)
  obtain ⟨d2, Q2, hd2, hC2, hk2⟩ := hk1 v1 g1 q1
  refine sr_aload_n hA si_227_631 rfl ?_
  refine sr_aload_n hA si_227_632 rfl ?_
  refine sr_iload_n hA si_227_633 rfl ?_
  refine sr_iconst (v := nI 1) hA si_227_634 (by decide) ?_
  refine sr_iaddN hA si_227_635 ?_
  refine sr_sld hA hSc (by omega) si_227_636 ?_
  refine sr_VRi (c := 64) (ci := 8) (as := [.int (xs (i + 1))]) (st := [.int v1]) hA si_227_637 sv_172 sk_227_68 hC2 (by omega) rfl (by decide) (by decide) rfl sq_c_172 rfl (Nat.le_of_ble_eq_true rfl) (fun v2 g2 q2 => ?_)
  obtain ⟨ev, hR2⟩ := hk2 v2 g2 q2
  rw [ev]
  refine sr_icmp_eq (tgt := 1335) hA si_227_640 (by decide) (fun c1 => ?_) (fun c1 => absurd rfl c1)
  exact kk g2 hR2
set_option maxRecDepth 20000 in
theorem lc_13 {X : sp_X} {ac : sp_Ac} {L i : Nat} {xs : Nat → Int32} {Rt : sp_Rt} {g : sp_G} (hSc : sp_Sc X ac L xs) (hA : sp_Act X 227 60 Rt ac) (hi : i + 6 ≤ L) (hR : sp_Rel g) (kk : ∀ g', sp_Rel g' → sp_Ev X ac 227 1335 [.ref 1000, .ref 0, .ref 64, .int (nI i)] [] g') : sp_Ev X ac 227 645 [.ref 1000, .ref 0, .ref 64, .int (nI i)] [] g := by
  have hL384 := hSc.2.2.2
  refine sr_aload_n hA si_227_645 rfl ?_
  refine sr_aload_n hA si_227_646 rfl ?_
  refine sr_iload_n hA si_227_647 rfl ?_
  refine sr_iconst (v := nI 1) hA si_227_648 (by decide) ?_
  refine sr_iaddN hA si_227_649 ?_
  refine sr_sld hA hSc (by omega) si_227_650 ?_
  obtain ⟨d1, Q1, hd1, hC1, hk1⟩ := pr_play (X := X) hR (xs (i + 1))
  refine sr_VRi (c := 0) (ci := 7) (as := [.int (xs (i + 1))]) (st := []) hA si_227_651 sv_53 sk_227_69 hC1 (by omega) rfl (by decide) (by decide) rfl sq_c_53 rfl (Nat.le_of_ble_eq_true rfl) (fun v1 g1 q1 => ?_)
  obtain ⟨d2, Q2, hd2, hC2, hk2⟩ := hk1 v1 g1 q1
  refine sr_aload_n hA si_227_654 rfl ?_
  refine sr_aload_n hA si_227_655 rfl ?_
  refine sr_iload_n hA si_227_656 rfl ?_
  refine sr_iconst (v := nI 1) hA si_227_657 (by decide) ?_
  refine sr_iaddN hA si_227_658 ?_
  refine sr_sld hA hSc (by omega) si_227_659 ?_
  refine sr_VRi (c := 64) (ci := 8) (as := [.int (xs (i + 1))]) (st := [.int v1]) hA si_227_660 sv_173 sk_227_72 hC2 (by omega) rfl (by decide) (by decide) rfl sq_c_173 rfl (Nat.le_of_ble_eq_true rfl) (fun v2 g2 q2 => ?_)
  obtain ⟨ev, hR2⟩ := hk2 v2 g2 q2
  rw [ev]
  refine sr_icmp_eq (tgt := 1335) hA si_227_663 (by decide) (fun c1 => ?_) (fun c1 => absurd rfl c1)
  exact kk g2 hR2
set_option maxRecDepth 20000 in
theorem lc_14 {X : sp_X} {ac : sp_Ac} {L i : Nat} {xs : Nat → Int32} {Rt : sp_Rt} {g : sp_G} (hSc : sp_Sc X ac L xs) (hA : sp_Act X 227 60 Rt ac) (hi : i + 6 ≤ L) (hR : sp_Rel g) (kk : ∀ g', sp_Rel g' → sp_Ev X ac 227 1335 [.ref 1000, .ref 0, .ref 64, .int (nI i)] [] g') : sp_Ev X ac 227 668 [.ref 1000, .ref 0, .ref 64, .int (nI i)] [] g := by
  have hL384 := hSc.2.2.2
  refine sr_aload_n hA si_227_668 rfl ?_
  refine sr_aload_n hA si_227_669 rfl ?_
  refine sr_iload_n hA si_227_670 rfl ?_
  refine sr_iconst (v := nI 1) hA si_227_671 (by decide) ?_
  refine sr_iaddN hA si_227_672 ?_
  refine sr_sld hA hSc (by omega) si_227_673 ?_
  obtain ⟨d1, Q1, hd1, hC1, hk1⟩ := pr_tide (X := X) hR (xs (i + 1))
  refine sr_VRi (c := 0) (ci := 7) (as := [.int (xs (i + 1))]) (st := []) hA si_227_674 sv_59 sk_227_73 hC1 (by omega) rfl (by decide) (by decide) rfl sq_c_59 rfl (Nat.le_of_ble_eq_true rfl) (fun v1 g1 q1 => ?_)
  obtain ⟨d2, Q2, hd2, hC2, hk2⟩ := hk1 v1 g1 q1
  refine sr_aload_n hA si_227_677 rfl ?_
  refine sr_aload_n hA si_227_678 rfl ?_
  refine sr_iload_n hA si_227_679 rfl ?_
  refine sr_iconst (v := nI 1) hA si_227_680 (by decide) ?_
  refine sr_iaddN hA si_227_681 ?_
  refine sr_sld hA hSc (by omega) si_227_682 ?_
  refine sr_VRi (c := 64) (ci := 8) (as := [.int (xs (i + 1))]) (st := [.int v1]) hA si_227_683 sv_179 sk_227_76 hC2 (by omega) rfl (by decide) (by decide) rfl sq_c_179 rfl (Nat.le_of_ble_eq_true rfl) (fun v2 g2 q2 => ?_)
  obtain ⟨ev, hR2⟩ := hk2 v2 g2 q2
  rw [ev]
  refine sr_icmp_eq (tgt := 1335) hA si_227_686 (by decide) (fun c1 => ?_) (fun c1 => absurd rfl c1)
  exact kk g2 hR2
set_option maxRecDepth 20000 in
theorem lc_15 {X : sp_X} {ac : sp_Ac} {L i : Nat} {xs : Nat → Int32} {Rt : sp_Rt} {g : sp_G} (hSc : sp_Sc X ac L xs) (hA : sp_Act X 227 60 Rt ac) (hi : i + 6 ≤ L) (hR : sp_Rel g) (kk : ∀ g', sp_Rel g' → sp_Ev X ac 227 1335 [.ref 1000, .ref 0, .ref 64, .int (nI i)] [] g') : sp_Ev X ac 227 691 [.ref 1000, .ref 0, .ref 64, .int (nI i)] [] g := by
  have hL384 := hSc.2.2.2
  refine sr_aload_n hA si_227_691 rfl ?_
  refine sr_aload_n hA si_227_692 rfl ?_
  refine sr_iload_n hA si_227_693 rfl ?_
  refine sr_iconst (v := nI 1) hA si_227_694 (by decide) ?_
  refine sr_iaddN hA si_227_695 ?_
  refine sr_sld hA hSc (by omega) si_227_696 ?_
  obtain ⟨d1, Q1, hd1, hC1, hk1⟩ := pr_storm (X := X) hR (xs (i + 1))
  refine sr_VRi (c := 0) (ci := 7) (as := [.int (xs (i + 1))]) (st := []) hA si_227_697 sv_61 sk_227_77 hC1 (by omega) rfl (by decide) (by decide) rfl sq_c_61 rfl (Nat.le_of_ble_eq_true rfl) (fun v1 g1 q1 => ?_)
  obtain ⟨d2, Q2, hd2, hC2, hk2⟩ := hk1 v1 g1 q1
  refine sr_aload_n hA si_227_700 rfl ?_
  refine sr_aload_n hA si_227_701 rfl ?_
  refine sr_iload_n hA si_227_702 rfl ?_
  refine sr_iconst (v := nI 1) hA si_227_703 (by decide) ?_
  refine sr_iaddN hA si_227_704 ?_
  refine sr_sld hA hSc (by omega) si_227_705 ?_
  refine sr_VRi (c := 64) (ci := 8) (as := [.int (xs (i + 1))]) (st := [.int v1]) hA si_227_706 sv_182 sk_227_80 hC2 (by omega) rfl (by decide) (by decide) rfl sq_c_182 rfl (Nat.le_of_ble_eq_true rfl) (fun v2 g2 q2 => ?_)
  obtain ⟨ev, hR2⟩ := hk2 v2 g2 q2
  rw [ev]
  refine sr_icmp_eq (tgt := 1335) hA si_227_709 (by decide) (fun c1 => ?_) (fun c1 => absurd rfl c1)
  exact kk g2 hR2
set_option maxRecDepth 20000 in
theorem lc_16 {X : sp_X} {ac : sp_Ac} {L i : Nat} {xs : Nat → Int32} {Rt : sp_Rt} {g : sp_G} (hSc : sp_Sc X ac L xs) (hA : sp_Act X 227 60 Rt ac) (hi : i + 6 ≤ L) (hR : sp_Rel g) (kk : ∀ g', sp_Rel g' → sp_Ev X ac 227 1335 [.ref 1000, .ref 0, .ref 64, .int (nI i)] [] g') : sp_Ev X ac 227 714 [.ref 1000, .ref 0, .ref 64, .int (nI i)] [] g := by
  have hL384 := hSc.2.2.2
  refine sr_aload_n hA si_227_714 rfl ?_
  refine sr_aload_n hA si_227_715 rfl ?_
  refine sr_iload_n hA si_227_716 rfl ?_
  refine sr_iconst (v := nI 1) hA si_227_717 (by decide) ?_
  refine sr_iaddN hA si_227_718 ?_
  refine sr_sld hA hSc (by omega) si_227_719 ?_
  obtain ⟨d1, Q1, hd1, hC1, hk1⟩ := pr_dig (X := X) hR (xs (i + 1))
  refine sr_VRi (c := 0) (ci := 7) (as := [.int (xs (i + 1))]) (st := []) hA si_227_720 sv_64 sk_227_81 hC1 (by omega) rfl (by decide) (by decide) rfl sq_c_64 rfl (Nat.le_of_ble_eq_true rfl) (fun v1 g1 q1 => ?_)
  obtain ⟨d2, Q2, hd2, hC2, hk2⟩ := hk1 v1 g1 q1
  refine sr_aload_n hA si_227_723 rfl ?_
  refine sr_aload_n hA si_227_724 rfl ?_
  refine sr_iload_n hA si_227_725 rfl ?_
  refine sr_iconst (v := nI 1) hA si_227_726 (by decide) ?_
  refine sr_iaddN hA si_227_727 ?_
  refine sr_sld hA hSc (by omega) si_227_728 ?_
  refine sr_VRi (c := 64) (ci := 8) (as := [.int (xs (i + 1))]) (st := [.int v1]) hA si_227_729 sv_184 sk_227_84 hC2 (by omega) rfl (by decide) (by decide) rfl sq_c_184 rfl (Nat.le_of_ble_eq_true rfl) (fun v2 g2 q2 => ?_)
  obtain ⟨ev, hR2⟩ := hk2 v2 g2 q2
  rw [ev]
  refine sr_icmp_eq (tgt := 1335) hA si_227_732 (by decide) (fun c1 => ?_) (fun c1 => absurd rfl c1)
  exact kk g2 hR2
set_option maxRecDepth 20000 in
theorem lc_17 {X : sp_X} {ac : sp_Ac} {L i : Nat} {xs : Nat → Int32} {Rt : sp_Rt} {g : sp_G} (hSc : sp_Sc X ac L xs) (hA : sp_Act X 227 60 Rt ac) (hi : i + 6 ≤ L) (hR : sp_Rel g) (kk : ∀ g', sp_Rel g' → sp_Ev X ac 227 1335 [.ref 1000, .ref 0, .ref 64, .int (nI i)] [] g') : sp_Ev X ac 227 737 [.ref 1000, .ref 0, .ref 64, .int (nI i)] [] g := by
  have hL384 := hSc.2.2.2
  refine sr_aload_n hA si_227_737 rfl ?_
  refine sr_aload_n hA si_227_738 rfl ?_
  refine sr_iload_n hA si_227_739 rfl ?_
  refine sr_iconst (v := nI 1) hA si_227_740 (by decide) ?_
  refine sr_iaddN hA si_227_741 ?_
  refine sr_sld hA hSc (by omega) si_227_742 ?_
  obtain ⟨d1, Q1, hd1, hC1, hk1⟩ := pr_undo (X := X) hR (xs (i + 1))
  refine sr_VRi (c := 0) (ci := 7) (as := [.int (xs (i + 1))]) (st := []) hA si_227_743 sv_66 sk_227_85 hC1 (by omega) rfl (by decide) (by decide) rfl sq_c_66 rfl (Nat.le_of_ble_eq_true rfl) (fun v1 g1 q1 => ?_)
  obtain ⟨d2, Q2, hd2, hC2, hk2⟩ := hk1 v1 g1 q1
  refine sr_aload_n hA si_227_746 rfl ?_
  refine sr_aload_n hA si_227_747 rfl ?_
  refine sr_iload_n hA si_227_748 rfl ?_
  refine sr_iconst (v := nI 1) hA si_227_749 (by decide) ?_
  refine sr_iaddN hA si_227_750 ?_
  refine sr_sld hA hSc (by omega) si_227_751 ?_
  refine sr_VRi (c := 64) (ci := 8) (as := [.int (xs (i + 1))]) (st := [.int v1]) hA si_227_752 sv_185 sk_227_88 hC2 (by omega) rfl (by decide) (by decide) rfl sq_c_185 rfl (Nat.le_of_ble_eq_true rfl) (fun v2 g2 q2 => ?_)
  obtain ⟨ev, hR2⟩ := hk2 v2 g2 q2
  rw [ev]
  refine sr_icmp_eq (tgt := 1335) hA si_227_755 (by decide) (fun c1 => ?_) (fun c1 => absurd rfl c1)
  exact kk g2 hR2
set_option maxRecDepth 20000 in
theorem lc_18 {X : sp_X} {ac : sp_Ac} {L i : Nat} {xs : Nat → Int32} {Rt : sp_Rt} {g : sp_G} (hSc : sp_Sc X ac L xs) (hA : sp_Act X 227 60 Rt ac) (hi : i + 6 ≤ L) (hR : sp_Rel g) (kk : ∀ g', sp_Rel g' → sp_Ev X ac 227 1335 [.ref 1000, .ref 0, .ref 64, .int (nI i)] [] g') : sp_Ev X ac 227 760 [.ref 1000, .ref 0, .ref 64, .int (nI i)] [] g := by
  have hL384 := hSc.2.2.2
  refine sr_aload_n hA si_227_760 rfl ?_
  obtain ⟨d1, Q1, hd1, hC1, hk1⟩ := pr_can (X := X) hR
  refine sr_VRi (c := 0) (ci := 7) (as := []) (st := []) hA si_227_761 sv_68 sk_227_89 hC1 (by omega) rfl (by decide) (by decide) rfl sq_c_68 rfl (Nat.le_of_ble_eq_true rfl) (fun v1 g1 q1 => ?_)
  obtain ⟨d2, Q2, hd2, hC2, hk2⟩ := hk1 v1 g1 q1
  refine sr_aload_n hA si_227_764 rfl ?_
  refine sr_VRi (c := 64) (ci := 8) (as := []) (st := [.int v1]) hA si_227_765 sv_186 sk_227_93 hC2 (by omega) rfl (by decide) (by decide) rfl sq_c_186 rfl (Nat.le_of_ble_eq_true rfl) (fun v2 g2 q2 => ?_)
  obtain ⟨ev, hR2⟩ := hk2 v2 g2 q2
  rw [ev]
  refine sr_icmp_eq (tgt := 1335) hA si_227_768 (by decide) (fun c1 => ?_) (fun c1 => absurd rfl c1)
  exact kk g2 hR2
set_option maxRecDepth 20000 in
theorem lc_19 {X : sp_X} {ac : sp_Ac} {L i : Nat} {xs : Nat → Int32} {Rt : sp_Rt} {g : sp_G} (hSc : sp_Sc X ac L xs) (hA : sp_Act X 227 60 Rt ac) (hi : i + 6 ≤ L) (hR : sp_Rel g) (kk : ∀ g', sp_Rel g' → sp_Ev X ac 227 1335 [.ref 1000, .ref 0, .ref 64, .int (nI i)] [] g') : sp_Ev X ac 227 773 [.ref 1000, .ref 0, .ref 64, .int (nI i)] [] g := by
  have hL384 := hSc.2.2.2
  refine sr_aload_n hA si_227_773 rfl ?_
  refine sr_aload_n hA si_227_774 rfl ?_
  refine sr_iload_n hA si_227_775 rfl ?_
  refine sr_iconst (v := nI 1) hA si_227_776 (by decide) ?_
  refine sr_iaddN hA si_227_777 ?_
  refine sr_sld hA hSc (by omega) si_227_778 ?_
  obtain ⟨d1, Q1, hd1, hC1, hk1⟩ := pr_keep (X := X) hR (xs (i + 1))
  refine sr_VRi (c := 0) (ci := 7) (as := [.int (xs (i + 1))]) (st := []) hA si_227_779 sv_69 sk_227_94 hC1 (by omega) rfl (by decide) (by decide) rfl sq_c_69 rfl (Nat.le_of_ble_eq_true rfl) (fun v1 g1 q1 => ?_)
  obtain ⟨d2, Q2, hd2, hC2, hk2⟩ := hk1 v1 g1 q1
  refine sr_aload_n hA si_227_782 rfl ?_
  refine sr_aload_n hA si_227_783 rfl ?_
  refine sr_iload_n hA si_227_784 rfl ?_
  refine sr_iconst (v := nI 1) hA si_227_785 (by decide) ?_
  refine sr_iaddN hA si_227_786 ?_
  refine sr_sld hA hSc (by omega) si_227_787 ?_
  refine sr_VRi (c := 64) (ci := 8) (as := [.int (xs (i + 1))]) (st := [.int v1]) hA si_227_788 sv_187 sk_227_97 hC2 (by omega) rfl (by decide) (by decide) rfl sq_c_187 rfl (Nat.le_of_ble_eq_true rfl) (fun v2 g2 q2 => ?_)
  obtain ⟨ev, hR2⟩ := hk2 v2 g2 q2
  rw [ev]
  refine sr_icmp_eq (tgt := 1335) hA si_227_791 (by decide) (fun c1 => ?_) (fun c1 => absurd rfl c1)
  exact kk g2 hR2
set_option maxRecDepth 20000 in
theorem lc_20 {X : sp_X} {ac : sp_Ac} {L i : Nat} {xs : Nat → Int32} {Rt : sp_Rt} {g : sp_G} (hSc : sp_Sc X ac L xs) (hA : sp_Act X 227 60 Rt ac) (hi : i + 6 ≤ L) (hR : sp_Rel g) (kk : ∀ g', sp_Rel g' → sp_Ev X ac 227 1335 [.ref 1000, .ref 0, .ref 64, .int (nI i)] [] g') : sp_Ev X ac 227 796 [.ref 1000, .ref 0, .ref 64, .int (nI i)] [] g := by
  have hL384 := hSc.2.2.2
  refine sr_aload_n hA si_227_796 rfl ?_
  refine sr_aload_n hA si_227_797 rfl ?_
  refine sr_iload_n hA si_227_798 rfl ?_
  refine sr_iconst (v := nI 1) hA si_227_799 (by decide) ?_
  refine sr_iaddN hA si_227_800 ?_
  refine sr_sld hA hSc (by omega) si_227_801 ?_
  obtain ⟨d1, Q1, hd1, hC1, hk1⟩ := pr_on (X := X) hR (xs (i + 1))
  refine sr_VRi (c := 0) (ci := 7) (as := [.int (xs (i + 1))]) (st := []) hA si_227_802 sv_71 sk_227_98 hC1 (by omega) rfl (by decide) (by decide) rfl sq_c_71 rfl (Nat.le_of_ble_eq_true rfl) (fun v1 g1 q1 => ?_)
  obtain ⟨d2, Q2, hd2, hC2, hk2⟩ := hk1 v1 g1 q1
  refine sr_aload_n hA si_227_805 rfl ?_
  refine sr_aload_n hA si_227_806 rfl ?_
  refine sr_iload_n hA si_227_807 rfl ?_
  refine sr_iconst (v := nI 1) hA si_227_808 (by decide) ?_
  refine sr_iaddN hA si_227_809 ?_
  refine sr_sld hA hSc (by omega) si_227_810 ?_
  refine sr_VRi (c := 64) (ci := 8) (as := [.int (xs (i + 1))]) (st := [.int v1]) hA si_227_811 sv_188 sk_227_101 hC2 (by omega) rfl (by decide) (by decide) rfl sq_c_188 rfl (Nat.le_of_ble_eq_true rfl) (fun v2 g2 q2 => ?_)
  obtain ⟨ev, hR2⟩ := hk2 v2 g2 q2
  rw [ev]
  refine sr_icmp_eq (tgt := 1335) hA si_227_814 (by decide) (fun c1 => ?_) (fun c1 => absurd rfl c1)
  exact kk g2 hR2
set_option maxRecDepth 20000 in
theorem lc_21 {X : sp_X} {ac : sp_Ac} {L i : Nat} {xs : Nat → Int32} {Rt : sp_Rt} {g : sp_G} (hSc : sp_Sc X ac L xs) (hA : sp_Act X 227 60 Rt ac) (hi : i + 6 ≤ L) (hR : sp_Rel g) (kk : ∀ g', sp_Rel g' → sp_Ev X ac 227 1335 [.ref 1000, .ref 0, .ref 64, .int (nI i)] [] g') : sp_Ev X ac 227 819 [.ref 1000, .ref 0, .ref 64, .int (nI i)] [] g := by
  have hL384 := hSc.2.2.2
  refine sr_aload_n hA si_227_819 rfl ?_
  refine sr_aload_n hA si_227_820 rfl ?_
  refine sr_iload_n hA si_227_821 rfl ?_
  refine sr_iconst (v := nI 1) hA si_227_822 (by decide) ?_
  refine sr_iaddN hA si_227_823 ?_
  refine sr_sld hA hSc (by omega) si_227_824 ?_
  obtain ⟨d1, Q1, hd1, hC1, hk1⟩ := pr_judge (X := X) hR (xs (i + 1))
  refine sr_VRi (c := 0) (ci := 7) (as := [.int (xs (i + 1))]) (st := []) hA si_227_825 sv_72 sk_227_102 hC1 (by omega) rfl (by decide) (by decide) rfl sq_c_72 rfl (Nat.le_of_ble_eq_true rfl) (fun v1 g1 q1 => ?_)
  obtain ⟨d2, Q2, hd2, hC2, hk2⟩ := hk1 v1 g1 q1
  refine sr_aload_n hA si_227_828 rfl ?_
  refine sr_aload_n hA si_227_829 rfl ?_
  refine sr_iload_n hA si_227_830 rfl ?_
  refine sr_iconst (v := nI 1) hA si_227_831 (by decide) ?_
  refine sr_iaddN hA si_227_832 ?_
  refine sr_sld hA hSc (by omega) si_227_833 ?_
  refine sr_VRi (c := 64) (ci := 8) (as := [.int (xs (i + 1))]) (st := [.int v1]) hA si_227_834 sv_189 sk_227_105 hC2 (by omega) rfl (by decide) (by decide) rfl sq_c_189 rfl (Nat.le_of_ble_eq_true rfl) (fun v2 g2 q2 => ?_)
  obtain ⟨ev, hR2⟩ := hk2 v2 g2 q2
  rw [ev]
  refine sr_icmp_eq (tgt := 1335) hA si_227_837 (by decide) (fun c1 => ?_) (fun c1 => absurd rfl c1)
  exact kk g2 hR2
set_option maxRecDepth 20000 in
theorem lc_22 {X : sp_X} {ac : sp_Ac} {L i : Nat} {xs : Nat → Int32} {Rt : sp_Rt} {g : sp_G} (hSc : sp_Sc X ac L xs) (hA : sp_Act X 227 60 Rt ac) (hi : i + 6 ≤ L) (hR : sp_Rel g) (kk : ∀ g', sp_Rel g' → sp_Ev X ac 227 1335 [.ref 1000, .ref 0, .ref 64, .int (nI i)] [] g') : sp_Ev X ac 227 842 [.ref 1000, .ref 0, .ref 64, .int (nI i)] [] g := by
  have hL384 := hSc.2.2.2
  refine sr_aload_n hA si_227_842 rfl ?_
  refine sr_aload_n hA si_227_843 rfl ?_
  refine sr_iload_n hA si_227_844 rfl ?_
  refine sr_iconst (v := nI 1) hA si_227_845 (by decide) ?_
  refine sr_iaddN hA si_227_846 ?_
  refine sr_sld hA hSc (by omega) si_227_847 ?_
  obtain ⟨d1, Q1, hd1, hC1, hk1⟩ := pr_earns (X := X) hR (xs (i + 1))
  refine sr_VRi (c := 0) (ci := 7) (as := [.int (xs (i + 1))]) (st := []) hA si_227_848 sv_75 sk_227_106 hC1 (by omega) rfl (by decide) (by decide) rfl sq_c_75 rfl (Nat.le_of_ble_eq_true rfl) (fun v1 g1 q1 => ?_)
  obtain ⟨d2, Q2, hd2, hC2, hk2⟩ := hk1 v1 g1 q1
  refine sr_aload_n hA si_227_851 rfl ?_
  refine sr_aload_n hA si_227_852 rfl ?_
  refine sr_iload_n hA si_227_853 rfl ?_
  refine sr_iconst (v := nI 1) hA si_227_854 (by decide) ?_
  refine sr_iaddN hA si_227_855 ?_
  refine sr_sld hA hSc (by omega) si_227_856 ?_
  refine sr_VRi (c := 64) (ci := 8) (as := [.int (xs (i + 1))]) (st := [.int v1]) hA si_227_857 sv_194 sk_227_109 hC2 (by omega) rfl (by decide) (by decide) rfl sq_c_194 rfl (Nat.le_of_ble_eq_true rfl) (fun v2 g2 q2 => ?_)
  obtain ⟨ev, hR2⟩ := hk2 v2 g2 q2
  rw [ev]
  refine sr_icmp_eq (tgt := 1335) hA si_227_860 (by decide) (fun c1 => ?_) (fun c1 => absurd rfl c1)
  exact kk g2 hR2
set_option maxRecDepth 20000 in
theorem lc_23 {X : sp_X} {ac : sp_Ac} {L i : Nat} {xs : Nat → Int32} {Rt : sp_Rt} {g : sp_G} (hSc : sp_Sc X ac L xs) (hA : sp_Act X 227 60 Rt ac) (hi : i + 6 ≤ L) (hR : sp_Rel g) (kk : ∀ g', sp_Rel g' → sp_Ev X ac 227 1335 [.ref 1000, .ref 0, .ref 64, .int (nI i)] [] g') : sp_Ev X ac 227 865 [.ref 1000, .ref 0, .ref 64, .int (nI i)] [] g := by
  have hL384 := hSc.2.2.2
  refine sr_aload_n hA si_227_865 rfl ?_
  refine sr_aload_n hA si_227_866 rfl ?_
  refine sr_iload_n hA si_227_867 rfl ?_
  refine sr_iconst (v := nI 1) hA si_227_868 (by decide) ?_
  refine sr_iaddN hA si_227_869 ?_
  refine sr_sld hA hSc (by omega) si_227_870 ?_
  refine sr_aload_n hA si_227_871 rfl ?_
  refine sr_iload_n hA si_227_872 rfl ?_
  refine sr_iconst (v := nI 2) hA si_227_873 (by decide) ?_
  refine sr_iaddN hA si_227_874 ?_
  refine sr_sld hA hSc (by omega) si_227_875 ?_
  obtain ⟨d1, Q1, hd1, hC1, hk1⟩ := pr_digs (X := X) hR (xs (i + 1)) (xs (i + 2))
  refine sr_VRi (c := 0) (ci := 7) (as := [.int (xs (i + 1)), .int (xs (i + 2))]) (st := []) hA si_227_876 sv_76 sk_227_110 hC1 (by omega) rfl (by decide) (by decide) rfl sq_c_76 rfl (Nat.le_of_ble_eq_true rfl) (fun v1 g1 q1 => ?_)
  obtain ⟨d2, Q2, hd2, hC2, hk2⟩ := hk1 v1 g1 q1
  refine sr_aload_n hA si_227_879 rfl ?_
  refine sr_aload_n hA si_227_880 rfl ?_
  refine sr_iload_n hA si_227_881 rfl ?_
  refine sr_iconst (v := nI 1) hA si_227_882 (by decide) ?_
  refine sr_iaddN hA si_227_883 ?_
  refine sr_sld hA hSc (by omega) si_227_884 ?_
  refine sr_aload_n hA si_227_885 rfl ?_
  refine sr_iload_n hA si_227_886 rfl ?_
  refine sr_iconst (v := nI 2) hA si_227_887 (by decide) ?_
  refine sr_iaddN hA si_227_888 ?_
  refine sr_sld hA hSc (by omega) si_227_889 ?_
  refine sr_VRi (c := 64) (ci := 8) (as := [.int (xs (i + 1)), .int (xs (i + 2))]) (st := [.int v1]) hA si_227_890 sv_195 sk_227_113 hC2 (by omega) rfl (by decide) (by decide) rfl sq_c_195 rfl (Nat.le_of_ble_eq_true rfl) (fun v2 g2 q2 => ?_)
  obtain ⟨ev, hR2⟩ := hk2 v2 g2 q2
  rw [ev]
  refine sr_icmp_eq (tgt := 1335) hA si_227_893 (by decide) (fun c1 => ?_) (fun c1 => absurd rfl c1)
  exact kk g2 hR2
set_option maxRecDepth 20000 in
theorem lc_24 {X : sp_X} {ac : sp_Ac} {L i : Nat} {xs : Nat → Int32} {Rt : sp_Rt} {g : sp_G} (hSc : sp_Sc X ac L xs) (hA : sp_Act X 227 60 Rt ac) (hi : i + 6 ≤ L) (hR : sp_Rel g) (kk : ∀ g', sp_Rel g' → sp_Ev X ac 227 1335 [.ref 1000, .ref 0, .ref 64, .int (nI i)] [] g') : sp_Ev X ac 227 898 [.ref 1000, .ref 0, .ref 64, .int (nI i)] [] g := by
  have hL384 := hSc.2.2.2
  refine sr_aload_n hA si_227_898 rfl ?_
  refine sr_aload_n hA si_227_899 rfl ?_
  refine sr_iload_n hA si_227_900 rfl ?_
  refine sr_iconst (v := nI 1) hA si_227_901 (by decide) ?_
  refine sr_iaddN hA si_227_902 ?_
  refine sr_sld hA hSc (by omega) si_227_903 ?_
  refine sr_aload_n hA si_227_904 rfl ?_
  refine sr_iload_n hA si_227_905 rfl ?_
  refine sr_iconst (v := nI 2) hA si_227_906 (by decide) ?_
  refine sr_iaddN hA si_227_907 ?_
  refine sr_sld hA hSc (by omega) si_227_908 ?_
  obtain ⟨d1, Q1, hd1, hC1, hk1⟩ := pr_lasts (X := X) hR (xs (i + 1)) (xs (i + 2))
  refine sr_VRi (c := 0) (ci := 7) (as := [.int (xs (i + 1)), .int (xs (i + 2))]) (st := []) hA si_227_909 sv_83 sk_227_114 hC1 (by omega) rfl (by decide) (by decide) rfl sq_c_83 rfl (Nat.le_of_ble_eq_true rfl) (fun v1 g1 q1 => ?_)
  obtain ⟨d2, Q2, hd2, hC2, hk2⟩ := hk1 v1 g1 q1
  refine sr_aload_n hA si_227_912 rfl ?_
  refine sr_aload_n hA si_227_913 rfl ?_
  refine sr_iload_n hA si_227_914 rfl ?_
  refine sr_iconst (v := nI 1) hA si_227_915 (by decide) ?_
  refine sr_iaddN hA si_227_916 ?_
  refine sr_sld hA hSc (by omega) si_227_917 ?_
  refine sr_aload_n hA si_227_918 rfl ?_
  refine sr_iload_n hA si_227_919 rfl ?_
  refine sr_iconst (v := nI 2) hA si_227_920 (by decide) ?_
  refine sr_iaddN hA si_227_921 ?_
  refine sr_sld hA hSc (by omega) si_227_922 ?_
  refine sr_VRi (c := 64) (ci := 8) (as := [.int (xs (i + 1)), .int (xs (i + 2))]) (st := [.int v1]) hA si_227_923 sv_198 sk_227_117 hC2 (by omega) rfl (by decide) (by decide) rfl sq_c_198 rfl (Nat.le_of_ble_eq_true rfl) (fun v2 g2 q2 => ?_)
  obtain ⟨ev, hR2⟩ := hk2 v2 g2 q2
  rw [ev]
  refine sr_icmp_eq (tgt := 1335) hA si_227_926 (by decide) (fun c1 => ?_) (fun c1 => absurd rfl c1)
  exact kk g2 hR2
set_option maxRecDepth 20000 in
theorem lc_25 {X : sp_X} {ac : sp_Ac} {L i : Nat} {xs : Nat → Int32} {Rt : sp_Rt} {g : sp_G} (hSc : sp_Sc X ac L xs) (hA : sp_Act X 227 60 Rt ac) (hi : i + 6 ≤ L) (hR : sp_Rel g) (kk : ∀ g', sp_Rel g' → sp_Ev X ac 227 1335 [.ref 1000, .ref 0, .ref 64, .int (nI i)] [] g') : sp_Ev X ac 227 931 [.ref 1000, .ref 0, .ref 64, .int (nI i)] [] g := by
  have hL384 := hSc.2.2.2
  refine sr_aload_n hA si_227_931 rfl ?_
  refine sr_aload_n hA si_227_932 rfl ?_
  refine sr_iload_n hA si_227_933 rfl ?_
  refine sr_iconst (v := nI 1) hA si_227_934 (by decide) ?_
  refine sr_iaddN hA si_227_935 ?_
  refine sr_sld hA hSc (by omega) si_227_936 ?_
  refine sr_aload_n hA si_227_937 rfl ?_
  refine sr_iload_n hA si_227_938 rfl ?_
  refine sr_iconst (v := nI 2) hA si_227_939 (by decide) ?_
  refine sr_iaddN hA si_227_940 ?_
  refine sr_sld hA hSc (by omega) si_227_941 ?_
  obtain ⟨d1, Q1, hd1, hC1, hk1⟩ := pr_duet (X := X) hR (xs (i + 1)) (xs (i + 2))
  refine sr_VRi (c := 0) (ci := 7) (as := [.int (xs (i + 1)), .int (xs (i + 2))]) (st := []) hA si_227_942 sv_84 sk_227_118 hC1 (by omega) rfl (by decide) (by decide) rfl sq_c_84 rfl (Nat.le_of_ble_eq_true rfl) (fun v1 g1 q1 => ?_)
  obtain ⟨d2, Q2, hd2, hC2, hk2⟩ := hk1 v1 g1 q1
  refine sr_aload_n hA si_227_945 rfl ?_
  refine sr_aload_n hA si_227_946 rfl ?_
  refine sr_iload_n hA si_227_947 rfl ?_
  refine sr_iconst (v := nI 1) hA si_227_948 (by decide) ?_
  refine sr_iaddN hA si_227_949 ?_
  refine sr_sld hA hSc (by omega) si_227_950 ?_
  refine sr_aload_n hA si_227_951 rfl ?_
  refine sr_iload_n hA si_227_952 rfl ?_
  refine sr_iconst (v := nI 2) hA si_227_953 (by decide) ?_
  refine sr_iaddN hA si_227_954 ?_
  refine sr_sld hA hSc (by omega) si_227_955 ?_
  refine sr_VRi (c := 64) (ci := 8) (as := [.int (xs (i + 1)), .int (xs (i + 2))]) (st := [.int v1]) hA si_227_956 sv_199 sk_227_121 hC2 (by omega) rfl (by decide) (by decide) rfl sq_c_199 rfl (Nat.le_of_ble_eq_true rfl) (fun v2 g2 q2 => ?_)
  obtain ⟨ev, hR2⟩ := hk2 v2 g2 q2
  rw [ev]
  refine sr_icmp_eq (tgt := 1335) hA si_227_959 (by decide) (fun c1 => ?_) (fun c1 => absurd rfl c1)
  exact kk g2 hR2
set_option maxRecDepth 20000 in
theorem lc_26 {X : sp_X} {ac : sp_Ac} {L i : Nat} {xs : Nat → Int32} {Rt : sp_Rt} {g : sp_G} (hSc : sp_Sc X ac L xs) (hA : sp_Act X 227 60 Rt ac) (hi : i + 6 ≤ L) (hR : sp_Rel g) (kk : ∀ g', sp_Rel g' → sp_Ev X ac 227 1335 [.ref 1000, .ref 0, .ref 64, .int (nI i)] [] g') : sp_Ev X ac 227 964 [.ref 1000, .ref 0, .ref 64, .int (nI i)] [] g := by
  have hL384 := hSc.2.2.2
  refine sr_aload_n hA si_227_964 rfl ?_
  refine sr_aload_n hA si_227_965 rfl ?_
  refine sr_iload_n hA si_227_966 rfl ?_
  refine sr_iconst (v := nI 1) hA si_227_967 (by decide) ?_
  refine sr_iaddN hA si_227_968 ?_
  refine sr_sld hA hSc (by omega) si_227_969 ?_
  obtain ⟨d1, Q1, hd1, hC1, hk1⟩ := pr_most (X := X) hR (xs (i + 1))
  refine sr_VRi (c := 0) (ci := 7) (as := [.int (xs (i + 1))]) (st := []) hA si_227_970 sv_85 sk_227_122 hC1 (by omega) rfl (by decide) (by decide) rfl sq_c_85 rfl (Nat.le_of_ble_eq_true rfl) (fun v1 g1 q1 => ?_)
  obtain ⟨d2, Q2, hd2, hC2, hk2⟩ := hk1 v1 g1 q1
  refine sr_aload_n hA si_227_973 rfl ?_
  refine sr_aload_n hA si_227_974 rfl ?_
  refine sr_iload_n hA si_227_975 rfl ?_
  refine sr_iconst (v := nI 1) hA si_227_976 (by decide) ?_
  refine sr_iaddN hA si_227_977 ?_
  refine sr_sld hA hSc (by omega) si_227_978 ?_
  refine sr_VRi (c := 64) (ci := 8) (as := [.int (xs (i + 1))]) (st := [.int v1]) hA si_227_979 sv_200 sk_227_125 hC2 (by omega) rfl (by decide) (by decide) rfl sq_c_200 rfl (Nat.le_of_ble_eq_true rfl) (fun v2 g2 q2 => ?_)
  obtain ⟨ev, hR2⟩ := hk2 v2 g2 q2
  rw [ev]
  refine sr_icmp_eq (tgt := 1335) hA si_227_982 (by decide) (fun c1 => ?_) (fun c1 => absurd rfl c1)
  exact kk g2 hR2
set_option maxRecDepth 20000 in
theorem lc_27 {X : sp_X} {ac : sp_Ac} {L i : Nat} {xs : Nat → Int32} {Rt : sp_Rt} {g : sp_G} (hSc : sp_Sc X ac L xs) (hA : sp_Act X 227 60 Rt ac) (hi : i + 6 ≤ L) (hR : sp_Rel g) (kk : ∀ g', sp_Rel g' → sp_Ev X ac 227 1335 [.ref 1000, .ref 0, .ref 64, .int (nI i)] [] g') : sp_Ev X ac 227 987 [.ref 1000, .ref 0, .ref 64, .int (nI i)] [] g := by
  have hL384 := hSc.2.2.2
  refine sr_aload_n hA si_227_987 rfl ?_
  refine sr_aload_n hA si_227_988 rfl ?_
  refine sr_iload_n hA si_227_989 rfl ?_
  refine sr_iconst (v := nI 1) hA si_227_990 (by decide) ?_
  refine sr_iaddN hA si_227_991 ?_
  refine sr_sld hA hSc (by omega) si_227_992 ?_
  refine sr_aload_n hA si_227_993 rfl ?_
  refine sr_iload_n hA si_227_994 rfl ?_
  refine sr_iconst (v := nI 2) hA si_227_995 (by decide) ?_
  refine sr_iaddN hA si_227_996 ?_
  refine sr_sld hA hSc (by omega) si_227_997 ?_
  obtain ⟨d1, Q1, hd1, hC1, hk1⟩ := pr_best (X := X) hR (xs (i + 1)) (xs (i + 2))
  refine sr_VRi (c := 0) (ci := 7) (as := [.int (xs (i + 1)), .int (xs (i + 2))]) (st := []) hA si_227_998 sv_89 sk_227_126 hC1 (by omega) rfl (by decide) (by decide) rfl sq_c_89 rfl (Nat.le_of_ble_eq_true rfl) (fun v1 g1 q1 => ?_)
  obtain ⟨d2, Q2, hd2, hC2, hk2⟩ := hk1 v1 g1 q1
  refine sr_aload_n hA si_227_1001 rfl ?_
  refine sr_aload_n hA si_227_1002 rfl ?_
  refine sr_iload_n hA si_227_1003 rfl ?_
  refine sr_iconst (v := nI 1) hA si_227_1004 (by decide) ?_
  refine sr_iaddN hA si_227_1005 ?_
  refine sr_sld hA hSc (by omega) si_227_1006 ?_
  refine sr_aload_n hA si_227_1007 rfl ?_
  refine sr_iload_n hA si_227_1008 rfl ?_
  refine sr_iconst (v := nI 2) hA si_227_1009 (by decide) ?_
  refine sr_iaddN hA si_227_1010 ?_
  refine sr_sld hA hSc (by omega) si_227_1011 ?_
  refine sr_VRi (c := 64) (ci := 8) (as := [.int (xs (i + 1)), .int (xs (i + 2))]) (st := [.int v1]) hA si_227_1012 sv_204 sk_227_129 hC2 (by omega) rfl (by decide) (by decide) rfl sq_c_204 rfl (Nat.le_of_ble_eq_true rfl) (fun v2 g2 q2 => ?_)
  obtain ⟨ev, hR2⟩ := hk2 v2 g2 q2
  rw [ev]
  refine sr_icmp_eq (tgt := 1335) hA si_227_1015 (by decide) (fun c1 => ?_) (fun c1 => absurd rfl c1)
  exact kk g2 hR2
set_option maxRecDepth 20000 in
theorem lc_28 {X : sp_X} {ac : sp_Ac} {L i : Nat} {xs : Nat → Int32} {Rt : sp_Rt} {g : sp_G} (hSc : sp_Sc X ac L xs) (hA : sp_Act X 227 60 Rt ac) (hi : i + 6 ≤ L) (hR : sp_Rel g) (kk : ∀ g', sp_Rel g' → sp_Ev X ac 227 1335 [.ref 1000, .ref 0, .ref 64, .int (nI i)] [] g') : sp_Ev X ac 227 1020 [.ref 1000, .ref 0, .ref 64, .int (nI i)] [] g := by
  have hL384 := hSc.2.2.2
  refine sr_aload_n hA si_227_1020 rfl ?_
  refine sr_aload_n hA si_227_1021 rfl ?_
  refine sr_iload_n hA si_227_1022 rfl ?_
  refine sr_iconst (v := nI 1) hA si_227_1023 (by decide) ?_
  refine sr_iaddN hA si_227_1024 ?_
  refine sr_sld hA hSc (by omega) si_227_1025 ?_
  obtain ⟨d1, Q1, hd1, hC1, hk1⟩ := pr_rows (X := X) hR (xs (i + 1))
  refine sr_VRi (c := 0) (ci := 7) (as := [.int (xs (i + 1))]) (st := []) hA si_227_1026 sv_93 sk_227_130 hC1 (by omega) rfl (by decide) (by decide) rfl sq_c_93 rfl (Nat.le_of_ble_eq_true rfl) (fun v1 g1 q1 => ?_)
  obtain ⟨d2, Q2, hd2, hC2, hk2⟩ := hk1 v1 g1 q1
  refine sr_aload_n hA si_227_1029 rfl ?_
  refine sr_aload_n hA si_227_1030 rfl ?_
  refine sr_iload_n hA si_227_1031 rfl ?_
  refine sr_iconst (v := nI 1) hA si_227_1032 (by decide) ?_
  refine sr_iaddN hA si_227_1033 ?_
  refine sr_sld hA hSc (by omega) si_227_1034 ?_
  refine sr_VRi (c := 64) (ci := 8) (as := [.int (xs (i + 1))]) (st := [.int v1]) hA si_227_1035 sv_206 sk_227_133 hC2 (by omega) rfl (by decide) (by decide) rfl sq_c_206 rfl (Nat.le_of_ble_eq_true rfl) (fun v2 g2 q2 => ?_)
  obtain ⟨ev, hR2⟩ := hk2 v2 g2 q2
  rw [ev]
  refine sr_icmp_eq (tgt := 1335) hA si_227_1038 (by decide) (fun c1 => ?_) (fun c1 => absurd rfl c1)
  exact kk g2 hR2
set_option maxRecDepth 20000 in
theorem lc_29 {X : sp_X} {ac : sp_Ac} {L i : Nat} {xs : Nat → Int32} {Rt : sp_Rt} {g : sp_G} (hSc : sp_Sc X ac L xs) (hA : sp_Act X 227 60 Rt ac) (hi : i + 6 ≤ L) (hR : sp_Rel g) (kk : ∀ g', sp_Rel g' → sp_Ev X ac 227 1335 [.ref 1000, .ref 0, .ref 64, .int (nI i)] [] g') : sp_Ev X ac 227 1043 [.ref 1000, .ref 0, .ref 64, .int (nI i)] [] g := by
  have hL384 := hSc.2.2.2
  refine sr_aload_n hA si_227_1043 rfl ?_
  refine sr_aload_n hA si_227_1044 rfl ?_
  refine sr_iload_n hA si_227_1045 rfl ?_
  refine sr_iconst (v := nI 1) hA si_227_1046 (by decide) ?_
  refine sr_iaddN hA si_227_1047 ?_
  refine sr_sld hA hSc (by omega) si_227_1048 ?_
  refine sr_aload_n hA si_227_1049 rfl ?_
  refine sr_iload_n hA si_227_1050 rfl ?_
  refine sr_iconst (v := nI 2) hA si_227_1051 (by decide) ?_
  refine sr_iaddN hA si_227_1052 ?_
  refine sr_sld hA hSc (by omega) si_227_1053 ?_
  refine sr_aload_n hA si_227_1054 rfl ?_
  refine sr_iload_n hA si_227_1055 rfl ?_
  refine sr_iconst (v := nI 3) hA si_227_1056 (by decide) ?_
  refine sr_iaddN hA si_227_1057 ?_
  refine sr_sld hA hSc (by omega) si_227_1058 ?_
  obtain ⟨d1, Q1, hd1, hC1, hk1⟩ := pr_back (X := X) hR (xs (i + 1)) (xs (i + 2)) (xs (i + 3))
  refine sr_VRi (c := 0) (ci := 7) (as := [.int (xs (i + 1)), .int (xs (i + 2)), .int (xs (i + 3))]) (st := []) hA si_227_1059 sv_100 sk_227_134 hC1 (by omega) rfl (by decide) (by decide) rfl sq_c_100 rfl (Nat.le_of_ble_eq_true rfl) (fun v1 g1 q1 => ?_)
  obtain ⟨d2, Q2, hd2, hC2, hk2⟩ := hk1 v1 g1 q1
  refine sr_aload_n hA si_227_1062 rfl ?_
  refine sr_aload_n hA si_227_1063 rfl ?_
  refine sr_iload_n hA si_227_1064 rfl ?_
  refine sr_iconst (v := nI 1) hA si_227_1065 (by decide) ?_
  refine sr_iaddN hA si_227_1066 ?_
  refine sr_sld hA hSc (by omega) si_227_1067 ?_
  refine sr_aload_n hA si_227_1068 rfl ?_
  refine sr_iload_n hA si_227_1069 rfl ?_
  refine sr_iconst (v := nI 2) hA si_227_1070 (by decide) ?_
  refine sr_iaddN hA si_227_1071 ?_
  refine sr_sld hA hSc (by omega) si_227_1072 ?_
  refine sr_aload_n hA si_227_1073 rfl ?_
  refine sr_iload_n hA si_227_1074 rfl ?_
  refine sr_iconst (v := nI 3) hA si_227_1075 (by decide) ?_
  refine sr_iaddN hA si_227_1076 ?_
  refine sr_sld hA hSc (by omega) si_227_1077 ?_
  refine sr_VRi (c := 64) (ci := 8) (as := [.int (xs (i + 1)), .int (xs (i + 2)), .int (xs (i + 3))]) (st := [.int v1]) hA si_227_1078 sv_209 sk_227_137 hC2 (by omega) rfl (by decide) (by decide) rfl sq_c_209 rfl (Nat.le_of_ble_eq_true rfl) (fun v2 g2 q2 => ?_)
  obtain ⟨ev, hR2⟩ := hk2 v2 g2 q2
  rw [ev]
  refine sr_icmp_eq (tgt := 1335) hA si_227_1081 (by decide) (fun c1 => ?_) (fun c1 => absurd rfl c1)
  exact kk g2 hR2
set_option maxRecDepth 20000 in
theorem lc_30 {X : sp_X} {ac : sp_Ac} {L i : Nat} {xs : Nat → Int32} {Rt : sp_Rt} {g : sp_G} (hSc : sp_Sc X ac L xs) (hA : sp_Act X 227 60 Rt ac) (hi : i + 6 ≤ L) (hR : sp_Rel g) (kk : ∀ g', sp_Rel g' → sp_Ev X ac 227 1335 [.ref 1000, .ref 0, .ref 64, .int (nI i)] [] g') : sp_Ev X ac 227 1086 [.ref 1000, .ref 0, .ref 64, .int (nI i)] [] g := by
  have hL384 := hSc.2.2.2
  refine sr_aload_n hA si_227_1086 rfl ?_
  refine sr_aload_n hA si_227_1087 rfl ?_
  refine sr_iload_n hA si_227_1088 rfl ?_
  refine sr_iconst (v := nI 1) hA si_227_1089 (by decide) ?_
  refine sr_iaddN hA si_227_1090 ?_
  refine sr_sld hA hSc (by omega) si_227_1091 ?_
  obtain ⟨d1, Q1, hd1, hC1, hk1⟩ := pr_ring (X := X) hR (xs (i + 1))
  refine sr_VRi (c := 0) (ci := 7) (as := [.int (xs (i + 1))]) (st := []) hA si_227_1092 sv_105 sk_227_138 hC1 (by omega) rfl (by decide) (by decide) rfl sq_c_105 rfl (Nat.le_of_ble_eq_true rfl) (fun v1 g1 q1 => ?_)
  obtain ⟨d2, Q2, hd2, hC2, hk2⟩ := hk1 v1 g1 q1
  refine sr_aload_n hA si_227_1095 rfl ?_
  refine sr_aload_n hA si_227_1096 rfl ?_
  refine sr_iload_n hA si_227_1097 rfl ?_
  refine sr_iconst (v := nI 1) hA si_227_1098 (by decide) ?_
  refine sr_iaddN hA si_227_1099 ?_
  refine sr_sld hA hSc (by omega) si_227_1100 ?_
  refine sr_VRi (c := 64) (ci := 8) (as := [.int (xs (i + 1))]) (st := [.int v1]) hA si_227_1101 sv_212 sk_227_141 hC2 (by omega) rfl (by decide) (by decide) rfl sq_c_212 rfl (Nat.le_of_ble_eq_true rfl) (fun v2 g2 q2 => ?_)
  obtain ⟨ev, hR2⟩ := hk2 v2 g2 q2
  rw [ev]
  refine sr_icmp_eq (tgt := 1335) hA si_227_1104 (by decide) (fun c1 => ?_) (fun c1 => absurd rfl c1)
  exact kk g2 hR2
set_option maxRecDepth 20000 in
theorem lc_31 {X : sp_X} {ac : sp_Ac} {L i : Nat} {xs : Nat → Int32} {Rt : sp_Rt} {g : sp_G} (hSc : sp_Sc X ac L xs) (hA : sp_Act X 227 60 Rt ac) (hi : i + 6 ≤ L) (hR : sp_Rel g) (kk : ∀ g', sp_Rel g' → sp_Ev X ac 227 1335 [.ref 1000, .ref 0, .ref 64, .int (nI i)] [] g') : sp_Ev X ac 227 1109 [.ref 1000, .ref 0, .ref 64, .int (nI i)] [] g := by
  have hL384 := hSc.2.2.2
  refine sr_aload_n hA si_227_1109 rfl ?_
  refine sr_aload_n hA si_227_1110 rfl ?_
  refine sr_iload_n hA si_227_1111 rfl ?_
  refine sr_iconst (v := nI 1) hA si_227_1112 (by decide) ?_
  refine sr_iaddN hA si_227_1113 ?_
  refine sr_sld hA hSc (by omega) si_227_1114 ?_
  obtain ⟨d1, Q1, hd1, hC1, hk1⟩ := pr_strike (X := X) hR (xs (i + 1))
  refine sr_VRi (c := 0) (ci := 7) (as := [.int (xs (i + 1))]) (st := []) hA si_227_1115 sv_110 sk_227_142 hC1 (by omega) rfl (by decide) (by decide) rfl sq_c_110 rfl (Nat.le_of_ble_eq_true rfl) (fun v1 g1 q1 => ?_)
  obtain ⟨d2, Q2, hd2, hC2, hk2⟩ := hk1 v1 g1 q1
  refine sr_aload_n hA si_227_1118 rfl ?_
  refine sr_aload_n hA si_227_1119 rfl ?_
  refine sr_iload_n hA si_227_1120 rfl ?_
  refine sr_iconst (v := nI 1) hA si_227_1121 (by decide) ?_
  refine sr_iaddN hA si_227_1122 ?_
  refine sr_sld hA hSc (by omega) si_227_1123 ?_
  refine sr_VRi (c := 64) (ci := 8) (as := [.int (xs (i + 1))]) (st := [.int v1]) hA si_227_1124 sv_216 sk_227_145 hC2 (by omega) rfl (by decide) (by decide) rfl sq_c_216 rfl (Nat.le_of_ble_eq_true rfl) (fun v2 g2 q2 => ?_)
  obtain ⟨ev, hR2⟩ := hk2 v2 g2 q2
  rw [ev]
  refine sr_icmp_eq (tgt := 1335) hA si_227_1127 (by decide) (fun c1 => ?_) (fun c1 => absurd rfl c1)
  exact kk g2 hR2
set_option maxRecDepth 20000 in
theorem lc_32 {X : sp_X} {ac : sp_Ac} {L i : Nat} {xs : Nat → Int32} {Rt : sp_Rt} {g : sp_G} (hSc : sp_Sc X ac L xs) (hA : sp_Act X 227 60 Rt ac) (hi : i + 6 ≤ L) (hR : sp_Rel g) (kk : ∀ g', sp_Rel g' → sp_Ev X ac 227 1335 [.ref 1000, .ref 0, .ref 64, .int (nI i)] [] g') : sp_Ev X ac 227 1132 [.ref 1000, .ref 0, .ref 64, .int (nI i)] [] g := by
  have hL384 := hSc.2.2.2
  refine sr_aload_n hA si_227_1132 rfl ?_
  refine sr_aload_n hA si_227_1133 rfl ?_
  refine sr_iload_n hA si_227_1134 rfl ?_
  refine sr_iconst (v := nI 1) hA si_227_1135 (by decide) ?_
  refine sr_iaddN hA si_227_1136 ?_
  refine sr_sld hA hSc (by omega) si_227_1137 ?_
  obtain ⟨d1, Q1, hd1, hC1, hk1⟩ := pr_tune (X := X) hR (xs (i + 1))
  refine sr_VRi (c := 0) (ci := 7) (as := [.int (xs (i + 1))]) (st := []) hA si_227_1138 sv_111 sk_227_146 hC1 (by omega) rfl (by decide) (by decide) rfl sq_c_111 rfl (Nat.le_of_ble_eq_true rfl) (fun v1 g1 q1 => ?_)
  obtain ⟨d2, Q2, hd2, hC2, hk2⟩ := hk1 v1 g1 q1
  refine sr_aload_n hA si_227_1141 rfl ?_
  refine sr_aload_n hA si_227_1142 rfl ?_
  refine sr_iload_n hA si_227_1143 rfl ?_
  refine sr_iconst (v := nI 1) hA si_227_1144 (by decide) ?_
  refine sr_iaddN hA si_227_1145 ?_
  refine sr_sld hA hSc (by omega) si_227_1146 ?_
  refine sr_VRi (c := 64) (ci := 8) (as := [.int (xs (i + 1))]) (st := [.int v1]) hA si_227_1147 sv_217 sk_227_149 hC2 (by omega) rfl (by decide) (by decide) rfl sq_c_217 rfl (Nat.le_of_ble_eq_true rfl) (fun v2 g2 q2 => ?_)
  obtain ⟨ev, hR2⟩ := hk2 v2 g2 q2
  rw [ev]
  refine sr_icmp_eq (tgt := 1335) hA si_227_1150 (by decide) (fun c1 => ?_) (fun c1 => absurd rfl c1)
  exact kk g2 hR2
set_option maxRecDepth 20000 in
theorem lc_33 {X : sp_X} {ac : sp_Ac} {L i : Nat} {xs : Nat → Int32} {Rt : sp_Rt} {g : sp_G} (hSc : sp_Sc X ac L xs) (hA : sp_Act X 227 60 Rt ac) (hi : i + 6 ≤ L) (hR : sp_Rel g) (kk : ∀ g', sp_Rel g' → sp_Ev X ac 227 1335 [.ref 1000, .ref 0, .ref 64, .int (nI i)] [] g') : sp_Ev X ac 227 1155 [.ref 1000, .ref 0, .ref 64, .int (nI i)] [] g := by
  have hL384 := hSc.2.2.2
  refine sr_aload_n hA si_227_1155 rfl ?_
  refine sr_aload_n hA si_227_1156 rfl ?_
  refine sr_iload_n hA si_227_1157 rfl ?_
  refine sr_iconst (v := nI 1) hA si_227_1158 (by decide) ?_
  refine sr_iaddN hA si_227_1159 ?_
  refine sr_sld hA hSc (by omega) si_227_1160 ?_
  refine sr_aload_n hA si_227_1161 rfl ?_
  refine sr_iload_n hA si_227_1162 rfl ?_
  refine sr_iconst (v := nI 2) hA si_227_1163 (by decide) ?_
  refine sr_iaddN hA si_227_1164 ?_
  refine sr_sld hA hSc (by omega) si_227_1165 ?_
  obtain ⟨d1, Q1, hd1, hC1, hk1⟩ := pr_bet (X := X) hR (xs (i + 1)) (xs (i + 2))
  refine sr_VRi (c := 0) (ci := 7) (as := [.int (xs (i + 1)), .int (xs (i + 2))]) (st := []) hA si_227_1166 sv_114 sk_227_150 hC1 (by omega) rfl (by decide) (by decide) rfl sq_c_114 rfl (Nat.le_of_ble_eq_true rfl) (fun v1 g1 q1 => ?_)
  obtain ⟨d2, Q2, hd2, hC2, hk2⟩ := hk1 v1 g1 q1
  refine sr_aload_n hA si_227_1169 rfl ?_
  refine sr_aload_n hA si_227_1170 rfl ?_
  refine sr_iload_n hA si_227_1171 rfl ?_
  refine sr_iconst (v := nI 1) hA si_227_1172 (by decide) ?_
  refine sr_iaddN hA si_227_1173 ?_
  refine sr_sld hA hSc (by omega) si_227_1174 ?_
  refine sr_aload_n hA si_227_1175 rfl ?_
  refine sr_iload_n hA si_227_1176 rfl ?_
  refine sr_iconst (v := nI 2) hA si_227_1177 (by decide) ?_
  refine sr_iaddN hA si_227_1178 ?_
  refine sr_sld hA hSc (by omega) si_227_1179 ?_
  refine sr_VRi (c := 64) (ci := 8) (as := [.int (xs (i + 1)), .int (xs (i + 2))]) (st := [.int v1]) hA si_227_1180 sv_219 sk_227_153 hC2 (by omega) rfl (by decide) (by decide) rfl sq_c_219 rfl (Nat.le_of_ble_eq_true rfl) (fun v2 g2 q2 => ?_)
  obtain ⟨ev, hR2⟩ := hk2 v2 g2 q2
  rw [ev]
  refine sr_icmp_eq (tgt := 1335) hA si_227_1183 (by decide) (fun c1 => ?_) (fun c1 => absurd rfl c1)
  exact kk g2 hR2
set_option maxRecDepth 20000 in
theorem lc_34 {X : sp_X} {ac : sp_Ac} {L i : Nat} {xs : Nat → Int32} {Rt : sp_Rt} {g : sp_G} (hSc : sp_Sc X ac L xs) (hA : sp_Act X 227 60 Rt ac) (hi : i + 6 ≤ L) (hR : sp_Rel g) (kk : ∀ g', sp_Rel g' → sp_Ev X ac 227 1335 [.ref 1000, .ref 0, .ref 64, .int (nI i)] [] g') : sp_Ev X ac 227 1188 [.ref 1000, .ref 0, .ref 64, .int (nI i)] [] g := by
  have hL384 := hSc.2.2.2
  refine sr_aload_n hA si_227_1188 rfl ?_
  refine sr_aload_n hA si_227_1189 rfl ?_
  refine sr_iload_n hA si_227_1190 rfl ?_
  refine sr_iconst (v := nI 1) hA si_227_1191 (by decide) ?_
  refine sr_iaddN hA si_227_1192 ?_
  refine sr_sld hA hSc (by omega) si_227_1193 ?_
  refine sr_aload_n hA si_227_1194 rfl ?_
  refine sr_iload_n hA si_227_1195 rfl ?_
  refine sr_iconst (v := nI 2) hA si_227_1196 (by decide) ?_
  refine sr_iaddN hA si_227_1197 ?_
  refine sr_sld hA hSc (by omega) si_227_1198 ?_
  obtain ⟨d1, Q1, hd1, hC1, hk1⟩ := pr_wind (X := X) hR (xs (i + 1)) (xs (i + 2))
  refine sr_VRi (c := 0) (ci := 7) (as := [.int (xs (i + 1)), .int (xs (i + 2))]) (st := []) hA si_227_1199 sv_118 sk_227_154 hC1 (by omega) rfl (by decide) (by decide) rfl sq_c_118 rfl (Nat.le_of_ble_eq_true rfl) (fun v1 g1 q1 => ?_)
  obtain ⟨d2, Q2, hd2, hC2, hk2⟩ := hk1 v1 g1 q1
  refine sr_aload_n hA si_227_1202 rfl ?_
  refine sr_aload_n hA si_227_1203 rfl ?_
  refine sr_iload_n hA si_227_1204 rfl ?_
  refine sr_iconst (v := nI 1) hA si_227_1205 (by decide) ?_
  refine sr_iaddN hA si_227_1206 ?_
  refine sr_sld hA hSc (by omega) si_227_1207 ?_
  refine sr_aload_n hA si_227_1208 rfl ?_
  refine sr_iload_n hA si_227_1209 rfl ?_
  refine sr_iconst (v := nI 2) hA si_227_1210 (by decide) ?_
  refine sr_iaddN hA si_227_1211 ?_
  refine sr_sld hA hSc (by omega) si_227_1212 ?_
  refine sr_VRi (c := 64) (ci := 8) (as := [.int (xs (i + 1)), .int (xs (i + 2))]) (st := [.int v1]) hA si_227_1213 sv_221 sk_227_157 hC2 (by omega) rfl (by decide) (by decide) rfl sq_c_221 rfl (Nat.le_of_ble_eq_true rfl) (fun v2 g2 q2 => ?_)
  obtain ⟨ev, hR2⟩ := hk2 v2 g2 q2
  rw [ev]
  refine sr_icmp_eq (tgt := 1335) hA si_227_1216 (by decide) (fun c1 => ?_) (fun c1 => absurd rfl c1)
  exact kk g2 hR2
set_option maxRecDepth 20000 in
theorem lc_35 {X : sp_X} {ac : sp_Ac} {L i : Nat} {xs : Nat → Int32} {Rt : sp_Rt} {g : sp_G} (hSc : sp_Sc X ac L xs) (hA : sp_Act X 227 60 Rt ac) (hi : i + 6 ≤ L) (hR : sp_Rel g) (kk : ∀ g', sp_Rel g' → sp_Ev X ac 227 1335 [.ref 1000, .ref 0, .ref 64, .int (nI i)] [] g') : sp_Ev X ac 227 1221 [.ref 1000, .ref 0, .ref 64, .int (nI i)] [] g := by
  have hL384 := hSc.2.2.2
  refine sr_aload_n hA si_227_1221 rfl ?_
  obtain ⟨d1, Q1, hd1, hC1, hk1⟩ := pr_asked (X := X) hR
  refine sr_VRi (c := 0) (ci := 7) (as := []) (st := []) hA si_227_1222 sv_120 sk_227_158 hC1 (by omega) rfl (by decide) (by decide) rfl sq_c_120 rfl (Nat.le_of_ble_eq_true rfl) (fun v1 g1 q1 => ?_)
  obtain ⟨d2, Q2, hd2, hC2, hk2⟩ := hk1 v1 g1 q1
  refine sr_aload_n hA si_227_1225 rfl ?_
  refine sr_VRi (c := 64) (ci := 8) (as := []) (st := [.int v1]) hA si_227_1226 sv_136 sk_227_161 hC2 (by omega) rfl (by decide) (by decide) rfl sq_c_136 rfl (Nat.le_of_ble_eq_true rfl) (fun v2 g2 q2 => ?_)
  obtain ⟨ev, hR2⟩ := hk2 v2 g2 q2
  rw [ev]
  refine sr_icmp_eq (tgt := 1335) hA si_227_1229 (by decide) (fun c1 => ?_) (fun c1 => absurd rfl c1)
  exact kk g2 hR2
set_option maxRecDepth 20000 in
theorem lc_36 {X : sp_X} {ac : sp_Ac} {L i : Nat} {xs : Nat → Int32} {Rt : sp_Rt} {g : sp_G} (hSc : sp_Sc X ac L xs) (hA : sp_Act X 227 60 Rt ac) (hi : i + 6 ≤ L) (hR : sp_Rel g) (kk : ∀ g', sp_Rel g' → sp_Ev X ac 227 1335 [.ref 1000, .ref 0, .ref 64, .int (nI i)] [] g') : sp_Ev X ac 227 1234 [.ref 1000, .ref 0, .ref 64, .int (nI i)] [] g := by
  have hL384 := hSc.2.2.2
  refine sr_aload_n hA si_227_1234 rfl ?_
  obtain ⟨d1, Q1, hd1, hC1, hk1⟩ := pr_upper (X := X) hR
  refine sr_VRl (c := 0) (ci := 7) (as := []) (st := []) hA si_227_1235 sv_121 sk_227_162 hC1 (by omega) rfl (by decide) (by decide) rfl sq_c_121 rfl (Nat.le_of_ble_eq_true rfl) (fun v1 g1 q1 => ?_)
  obtain ⟨d2, Q2, hd2, hC2, hk2⟩ := hk1 v1 g1 q1
  refine sr_aload_n hA si_227_1238 rfl ?_
  refine sr_VRl (c := 64) (ci := 8) (as := []) (st := [.long v1]) hA si_227_1239 sv_137 sk_227_166 hC2 (by omega) rfl (by decide) (by decide) rfl sq_c_137 rfl (Nat.le_of_ble_eq_true rfl) (fun v2 g2 q2 => ?_)
  obtain ⟨ev, hR2⟩ := hk2 v2 g2 q2
  rw [ev]
  refine sr_lcmp hA si_227_1242 ?_
  refine sr_if_eq (tgt := 1335) hA si_227_1243 (by decide) (fun c1 => ?_) (fun c1 => absurd ((lg_cmp_eq _ _).mpr rfl) c1)
  exact kk g2 hR2
set_option maxRecDepth 20000 in
theorem lc_37 {X : sp_X} {ac : sp_Ac} {L i : Nat} {xs : Nat → Int32} {Rt : sp_Rt} {g : sp_G} (hSc : sp_Sc X ac L xs) (hA : sp_Act X 227 60 Rt ac) (hi : i + 6 ≤ L) (hR : sp_Rel g) (kk : ∀ g', sp_Rel g' → sp_Ev X ac 227 1335 [.ref 1000, .ref 0, .ref 64, .int (nI i)] [] g') : sp_Ev X ac 227 1248 [.ref 1000, .ref 0, .ref 64, .int (nI i)] [] g := by
  have hL384 := hSc.2.2.2
  refine sr_aload_n hA si_227_1248 rfl ?_
  obtain ⟨d1, Q1, hd1, hC1, hk1⟩ := pr_lower (X := X) hR
  refine sr_VRl (c := 0) (ci := 7) (as := []) (st := []) hA si_227_1249 sv_122 sk_227_167 hC1 (by omega) rfl (by decide) (by decide) rfl sq_c_122 rfl (Nat.le_of_ble_eq_true rfl) (fun v1 g1 q1 => ?_)
  obtain ⟨d2, Q2, hd2, hC2, hk2⟩ := hk1 v1 g1 q1
  refine sr_aload_n hA si_227_1252 rfl ?_
  refine sr_VRl (c := 64) (ci := 8) (as := []) (st := [.long v1]) hA si_227_1253 sv_138 sk_227_170 hC2 (by omega) rfl (by decide) (by decide) rfl sq_c_138 rfl (Nat.le_of_ble_eq_true rfl) (fun v2 g2 q2 => ?_)
  obtain ⟨ev, hR2⟩ := hk2 v2 g2 q2
  rw [ev]
  refine sr_lcmp hA si_227_1256 ?_
  refine sr_if_eq (tgt := 1335) hA si_227_1257 (by decide) (fun c1 => ?_) (fun c1 => absurd ((lg_cmp_eq _ _).mpr rfl) c1)
  exact kk g2 hR2
set_option maxRecDepth 20000 in
theorem lc_38 {X : sp_X} {ac : sp_Ac} {L i : Nat} {xs : Nat → Int32} {Rt : sp_Rt} {g : sp_G} (hSc : sp_Sc X ac L xs) (hA : sp_Act X 227 60 Rt ac) (hi : i + 6 ≤ L) (hR : sp_Rel g) (kk : ∀ g', sp_Rel g' → sp_Ev X ac 227 1335 [.ref 1000, .ref 0, .ref 64, .int (nI i)] [] g') : sp_Ev X ac 227 1262 [.ref 1000, .ref 0, .ref 64, .int (nI i)] [] g := by
  have hL384 := hSc.2.2.2
  refine sr_aload_n hA si_227_1262 rfl ?_
  refine sr_aload_n hA si_227_1263 rfl ?_
  refine sr_iload_n hA si_227_1264 rfl ?_
  refine sr_iconst (v := nI 1) hA si_227_1265 (by decide) ?_
  refine sr_iaddN hA si_227_1266 ?_
  refine sr_sld hA hSc (by omega) si_227_1267 ?_
  obtain ⟨d1, Q1, hd1, hC1, hk1⟩ := pr_count (X := X) hR (xs (i + 1))
  refine sr_VRi (c := 0) (ci := 7) (as := [.int (xs (i + 1))]) (st := []) hA si_227_1268 sv_123 sk_227_171 hC1 (by omega) rfl (by decide) (by decide) rfl sq_c_123 rfl (Nat.le_of_ble_eq_true rfl) (fun v1 g1 q1 => ?_)
  obtain ⟨d2, Q2, hd2, hC2, hk2⟩ := hk1 v1 g1 q1
  refine sr_aload_n hA si_227_1271 rfl ?_
  refine sr_aload_n hA si_227_1272 rfl ?_
  refine sr_iload_n hA si_227_1273 rfl ?_
  refine sr_iconst (v := nI 1) hA si_227_1274 (by decide) ?_
  refine sr_iaddN hA si_227_1275 ?_
  refine sr_sld hA hSc (by omega) si_227_1276 ?_
  refine sr_VRi (c := 64) (ci := 8) (as := [.int (xs (i + 1))]) (st := [.int v1]) hA si_227_1277 sv_222 sk_227_174 hC2 (by omega) rfl (by decide) (by decide) rfl sq_c_222 rfl (Nat.le_of_ble_eq_true rfl) (fun v2 g2 q2 => ?_)
  obtain ⟨ev, hR2⟩ := hk2 v2 g2 q2
  rw [ev]
  refine sr_icmp_eq (tgt := 1335) hA si_227_1280 (by decide) (fun c1 => ?_) (fun c1 => absurd rfl c1)
  exact kk g2 hR2
set_option maxRecDepth 20000 in
theorem lc_39 {X : sp_X} {ac : sp_Ac} {L i : Nat} {xs : Nat → Int32} {Rt : sp_Rt} {g : sp_G} (hSc : sp_Sc X ac L xs) (hA : sp_Act X 227 60 Rt ac) (hi : i + 6 ≤ L) (hR : sp_Rel g) (kk : ∀ g', sp_Rel g' → sp_Ev X ac 227 1335 [.ref 1000, .ref 0, .ref 64, .int (nI i)] [] g') : sp_Ev X ac 227 1285 [.ref 1000, .ref 0, .ref 64, .int (nI i)] [] g := by
  have hL384 := hSc.2.2.2
  refine sr_aload_n hA si_227_1285 rfl ?_
  obtain ⟨d1, Q1, hd1, hC1, hk1⟩ := pr_finding (X := X) hR
  refine sr_VRi (c := 0) (ci := 7) (as := []) (st := []) hA si_227_1286 sv_128 sk_227_175 hC1 (by omega) rfl (by decide) (by decide) rfl sq_c_128 rfl (Nat.le_of_ble_eq_true rfl) (fun v1 g1 q1 => ?_)
  obtain ⟨d2, Q2, hd2, hC2, hk2⟩ := hk1 v1 g1 q1
  refine sr_aload_n hA si_227_1289 rfl ?_
  refine sr_VRi (c := 64) (ci := 8) (as := []) (st := [.int v1]) hA si_227_1290 sv_133 sk_227_178 hC2 (by omega) rfl (by decide) (by decide) rfl sq_c_133 rfl (Nat.le_of_ble_eq_true rfl) (fun v2 g2 q2 => ?_)
  obtain ⟨ev, hR2⟩ := hk2 v2 g2 q2
  rw [ev]
  refine sr_icmp_eq (tgt := 1335) hA si_227_1293 (by decide) (fun c1 => ?_) (fun c1 => absurd rfl c1)
  exact kk g2 hR2
set_option maxRecDepth 20000 in
theorem lc_40 {X : sp_X} {ac : sp_Ac} {L i : Nat} {xs : Nat → Int32} {Rt : sp_Rt} {g : sp_G} (hSc : sp_Sc X ac L xs) (hA : sp_Act X 227 60 Rt ac) (hi : i + 6 ≤ L) (hR : sp_Rel g) (kk : ∀ g', sp_Rel g' → sp_Ev X ac 227 1335 [.ref 1000, .ref 0, .ref 64, .int (nI i)] [] g') : sp_Ev X ac 227 1298 [.ref 1000, .ref 0, .ref 64, .int (nI i)] [] g := by
  have hL384 := hSc.2.2.2
  refine sr_aload_n hA si_227_1298 rfl ?_
  refine sr_aload_n hA si_227_1299 rfl ?_
  refine sr_iload_n hA si_227_1300 rfl ?_
  refine sr_iconst (v := nI 1) hA si_227_1301 (by decide) ?_
  refine sr_iaddN hA si_227_1302 ?_
  refine sr_sld hA hSc (by omega) si_227_1303 ?_
  obtain ⟨d1, Q1, hd1, hC1, hk1⟩ := pr_findings (X := X) hR (xs (i + 1))
  refine sr_VRi (c := 0) (ci := 7) (as := [.int (xs (i + 1))]) (st := []) hA si_227_1304 sv_129 sk_227_179 hC1 (by omega) rfl (by decide) (by decide) rfl sq_c_129 rfl (Nat.le_of_ble_eq_true rfl) (fun v1 g1 q1 => ?_)
  obtain ⟨d2, Q2, hd2, hC2, hk2⟩ := hk1 v1 g1 q1
  refine sr_aload_n hA si_227_1307 rfl ?_
  refine sr_aload_n hA si_227_1308 rfl ?_
  refine sr_iload_n hA si_227_1309 rfl ?_
  refine sr_iconst (v := nI 1) hA si_227_1310 (by decide) ?_
  refine sr_iaddN hA si_227_1311 ?_
  refine sr_sld hA hSc (by omega) si_227_1312 ?_
  refine sr_VRi (c := 64) (ci := 8) (as := [.int (xs (i + 1))]) (st := [.int v1]) hA si_227_1313 sv_134 sk_227_182 hC2 (by omega) rfl (by decide) (by decide) rfl sq_c_134 rfl (Nat.le_of_ble_eq_true rfl) (fun v2 g2 q2 => ?_)
  obtain ⟨ev, hR2⟩ := hk2 v2 g2 q2
  rw [ev]
  refine sr_icmp_eq (tgt := 1335) hA si_227_1316 (by decide) (fun c1 => ?_) (fun c1 => absurd rfl c1)
  exact kk g2 hR2
set_option maxRecDepth 20000 in
theorem lc_41 {X : sp_X} {ac : sp_Ac} {L i : Nat} {xs : Nat → Int32} {Rt : sp_Rt} {g : sp_G} (hSc : sp_Sc X ac L xs) (hA : sp_Act X 227 60 Rt ac) (hi : i + 6 ≤ L) (hR : sp_Rel g) (kk : ∀ g', sp_Rel g' → sp_Ev X ac 227 1335 [.ref 1000, .ref 0, .ref 64, .int (nI i)] [] g') : sp_Ev X ac 227 1321 [.ref 1000, .ref 0, .ref 64, .int (nI i)] [] g := by
  have hL384 := hSc.2.2.2
  refine sr_aload_n hA si_227_1321 rfl ?_
  obtain ⟨d1, Q1, hd1, hC1, hk1⟩ := pr_digest (X := X) hR
  refine sr_VRl (c := 0) (ci := 7) (as := []) (st := []) hA si_227_1322 sv_130 sk_227_183 hC1 (by omega) rfl (by decide) (by decide) rfl sq_c_130 rfl (Nat.le_of_ble_eq_true rfl) (fun v1 g1 q1 => ?_)
  obtain ⟨d2, Q2, hd2, hC2, hk2⟩ := hk1 v1 g1 q1
  refine sr_aload_n hA si_227_1325 rfl ?_
  refine sr_VRl (c := 64) (ci := 8) (as := []) (st := [.long v1]) hA si_227_1326 sv_224 sk_227_186 hC2 (by omega) rfl (by decide) (by decide) rfl sq_c_224 rfl (Nat.le_of_ble_eq_true rfl) (fun v2 g2 q2 => ?_)
  obtain ⟨ev, hR2⟩ := hk2 v2 g2 q2
  rw [ev]
  refine sr_lcmp hA si_227_1329 ?_
  refine sr_if_eq (tgt := 1335) hA si_227_1330 (by decide) (fun c1 => ?_) (fun c1 => absurd ((lg_cmp_eq _ _).mpr rfl) c1)
  exact kk g2 hR2
set_option maxRecDepth 20000 in
theorem lw_loop {X : sp_X} {ac : sp_Ac} {L : Nat} {xs : Nat → Int32} {Rt : sp_Rt} (hSc : sp_Sc X ac L xs) (hA : sp_Act X 227 60 Rt ac) (hRt : ∀ g, Rt (some (.int 1)) g) : ∀ (m : Nat) (i : Nat) (g : sp_G), L < i + 6 * m + 6 ∧ i ≤ L + 6 → sp_Rel g → sp_Ev X ac 227 18 [.ref 1000, .ref 0, .ref 64, .int (nI i)] [] g := by
  have hL384 := hSc.2.2.2
  intro m
  induction m with
  | zero =>
    intro i g h0_ hR
    by_cases h6 : 6 ≤ L
    ·
      refine sr_iload_n hA si_227_18 rfl ?_
      refine sr_aload_n hA si_227_19 rfl ?_
      refine sr_slen hA hSc si_227_20 ?_
      refine sr_bipush (v := nI 6) hA si_227_21 (by decide) ?_
      refine sr_isubN hA si_227_23 (by omega) ?_
      refine sr_icmp_gtN (tgt := 1341) hA si_227_24 (by decide) (by omega) (by omega) (fun c1 => ?_) (fun c1 => absurd c1 (by omega))
      refine sr_iconst (v := nI 1) hA si_227_1341 (by decide) ?_
      exact sr_zret hA si_227_1342 sq_r_227 (by decide) (hRt _)
    ·
      refine sr_iload_n hA si_227_18 rfl ?_
      refine sr_aload_n hA si_227_19 rfl ?_
      refine sr_slen hA hSc si_227_20 ?_
      refine sr_bipush (v := nI 6) hA si_227_21 (by decide) ?_
      refine sr_isub hA si_227_23 ?_
      refine sr_icmp_gt (tgt := 1341) hA si_227_24 (by decide) (fun c1 => ?_) (fun c1 => absurd (sp_n1 (sp_l6 L (by omega)) (by omega)) c1)
      refine sr_iconst (v := nI 1) hA si_227_1341 (by decide) ?_
      exact sr_zret hA si_227_1342 sq_r_227 (by decide) (hRt _)
  | succ m ih =>
    intro i g h0_ hR
    by_cases hi : i + 6 ≤ L
    · have kk : ∀ g', sp_Rel g' → sp_Ev X ac 227 1335 [.ref 1000, .ref 0, .ref 64, .int (nI i)] [] g' := fun g' hR' => by
        refine sr_iincN (x := i) (y := 6) (ls1 := [.ref 1000, .ref 0, .ref 64, .int (nI (i + 6))]) hA si_227_1335 rfl rfl (by rw [sq_l_227]; decide) rfl ?_
        refine sr_goto (tgt := 18) hA si_227_1338 (by decide) ?_
        exact ih (i + 6) g' (by omega) hR'
      refine sr_iload_n hA si_227_18 rfl ?_
      refine sr_aload_n hA si_227_19 rfl ?_
      refine sr_slen hA hSc si_227_20 ?_
      refine sr_bipush (v := nI 6) hA si_227_21 (by decide) ?_
      refine sr_isubN hA si_227_23 (by omega) ?_
      refine sr_icmp_gtN (tgt := 1341) hA si_227_24 (by decide) (by omega) (by omega) (fun c1 => absurd c1 (by omega)) (fun c1 => ?_)
      refine sr_aload_n hA si_227_27 rfl ?_
      refine sr_iload_n hA si_227_28 rfl ?_
      refine sr_sld hA hSc (by omega) si_227_29 ?_
      refine sr_bipush (v := nI 63) hA si_227_30 (by decide) ?_
      refine sr_iand hA si_227_32 ?_
      obtain ⟨j, hj, ej⟩ := pk_andE (xs i) (m := nI 63) 6 (by decide)
      rw [ej]
      by_cases e0 : j = 0
      · subst e0
        refine sr_tswI (c := nI 0) (tgt := 216) hA si_227_33 rfl (by decide) (by decide) rfl (by decide) ?_
        exact lc_0 hSc hA (by omega) hR kk
      by_cases e1 : j = 1
      · subst e1
        refine sr_tswI (c := nI 1) (tgt := 249) hA si_227_33 rfl (by decide) (by decide) rfl (by decide) ?_
        exact lc_1 hSc hA (by omega) hR kk
      by_cases e2 : j = 2
      · subst e2
        refine sr_tswI (c := nI 2) (tgt := 292) hA si_227_33 rfl (by decide) (by decide) rfl (by decide) ?_
        exact lc_2 hSc hA (by omega) hR kk
      by_cases e3 : j = 3
      · subst e3
        refine sr_tswI (c := nI 3) (tgt := 325) hA si_227_33 rfl (by decide) (by decide) rfl (by decide) ?_
        exact lc_3 hSc hA (by omega) hR kk
      by_cases e4 : j = 4
      · subst e4
        refine sr_tswI (c := nI 4) (tgt := 348) hA si_227_33 rfl (by decide) (by decide) rfl (by decide) ?_
        exact lc_4 hSc hA (by omega) hR kk
      by_cases e5 : j = 5
      · subst e5
        refine sr_tswI (c := nI 5) (tgt := 411) hA si_227_33 rfl (by decide) (by decide) rfl (by decide) ?_
        exact lc_5 hSc hA (by omega) hR kk
      by_cases e6 : j = 6
      · subst e6
        refine sr_tswI (c := nI 6) (tgt := 434) hA si_227_33 rfl (by decide) (by decide) rfl (by decide) ?_
        exact lc_6 hSc hA (by omega) hR kk
      by_cases e7 : j = 7
      · subst e7
        refine sr_tswI (c := nI 7) (tgt := 467) hA si_227_33 rfl (by decide) (by decide) rfl (by decide) ?_
        exact lc_7 hSc hA (by omega) hR kk
      by_cases e8 : j = 8
      · subst e8
        refine sr_tswI (c := nI 8) (tgt := 510) hA si_227_33 rfl (by decide) (by decide) rfl (by decide) ?_
        exact lc_8 hSc hA (by omega) hR kk
      by_cases e9 : j = 9
      · subst e9
        refine sr_tswI (c := nI 9) (tgt := 533) hA si_227_33 rfl (by decide) (by decide) rfl (by decide) ?_
        exact lc_9 hSc hA (by omega) hR kk
      by_cases e10 : j = 10
      · subst e10
        refine sr_tswI (c := nI 10) (tgt := 556) hA si_227_33 rfl (by decide) (by decide) rfl (by decide) ?_
        exact lc_10 hSc hA (by omega) hR kk
      by_cases e11 : j = 11
      · subst e11
        refine sr_tswI (c := nI 11) (tgt := 589) hA si_227_33 rfl (by decide) (by decide) rfl (by decide) ?_
        exact lc_11 hSc hA (by omega) hR kk
      by_cases e12 : j = 12
      · subst e12
        refine sr_tswI (c := nI 12) (tgt := 622) hA si_227_33 rfl (by decide) (by decide) rfl (by decide) ?_
        exact lc_12 hSc hA (by omega) hR kk
      by_cases e13 : j = 13
      · subst e13
        refine sr_tswI (c := nI 13) (tgt := 645) hA si_227_33 rfl (by decide) (by decide) rfl (by decide) ?_
        exact lc_13 hSc hA (by omega) hR kk
      by_cases e14 : j = 14
      · subst e14
        refine sr_tswI (c := nI 14) (tgt := 668) hA si_227_33 rfl (by decide) (by decide) rfl (by decide) ?_
        exact lc_14 hSc hA (by omega) hR kk
      by_cases e15 : j = 15
      · subst e15
        refine sr_tswI (c := nI 15) (tgt := 691) hA si_227_33 rfl (by decide) (by decide) rfl (by decide) ?_
        exact lc_15 hSc hA (by omega) hR kk
      by_cases e16 : j = 16
      · subst e16
        refine sr_tswI (c := nI 16) (tgt := 714) hA si_227_33 rfl (by decide) (by decide) rfl (by decide) ?_
        exact lc_16 hSc hA (by omega) hR kk
      by_cases e17 : j = 17
      · subst e17
        refine sr_tswI (c := nI 17) (tgt := 737) hA si_227_33 rfl (by decide) (by decide) rfl (by decide) ?_
        exact lc_17 hSc hA (by omega) hR kk
      by_cases e18 : j = 18
      · subst e18
        refine sr_tswI (c := nI 18) (tgt := 760) hA si_227_33 rfl (by decide) (by decide) rfl (by decide) ?_
        exact lc_18 hSc hA (by omega) hR kk
      by_cases e19 : j = 19
      · subst e19
        refine sr_tswI (c := nI 19) (tgt := 773) hA si_227_33 rfl (by decide) (by decide) rfl (by decide) ?_
        exact lc_19 hSc hA (by omega) hR kk
      by_cases e20 : j = 20
      · subst e20
        refine sr_tswI (c := nI 20) (tgt := 796) hA si_227_33 rfl (by decide) (by decide) rfl (by decide) ?_
        exact lc_20 hSc hA (by omega) hR kk
      by_cases e21 : j = 21
      · subst e21
        refine sr_tswI (c := nI 21) (tgt := 819) hA si_227_33 rfl (by decide) (by decide) rfl (by decide) ?_
        exact lc_21 hSc hA (by omega) hR kk
      by_cases e22 : j = 22
      · subst e22
        refine sr_tswI (c := nI 22) (tgt := 842) hA si_227_33 rfl (by decide) (by decide) rfl (by decide) ?_
        exact lc_22 hSc hA (by omega) hR kk
      by_cases e23 : j = 23
      · subst e23
        refine sr_tswI (c := nI 23) (tgt := 865) hA si_227_33 rfl (by decide) (by decide) rfl (by decide) ?_
        exact lc_23 hSc hA (by omega) hR kk
      by_cases e24 : j = 24
      · subst e24
        refine sr_tswI (c := nI 24) (tgt := 898) hA si_227_33 rfl (by decide) (by decide) rfl (by decide) ?_
        exact lc_24 hSc hA (by omega) hR kk
      by_cases e25 : j = 25
      · subst e25
        refine sr_tswI (c := nI 25) (tgt := 931) hA si_227_33 rfl (by decide) (by decide) rfl (by decide) ?_
        exact lc_25 hSc hA (by omega) hR kk
      by_cases e26 : j = 26
      · subst e26
        refine sr_tswI (c := nI 26) (tgt := 964) hA si_227_33 rfl (by decide) (by decide) rfl (by decide) ?_
        exact lc_26 hSc hA (by omega) hR kk
      by_cases e27 : j = 27
      · subst e27
        refine sr_tswI (c := nI 27) (tgt := 987) hA si_227_33 rfl (by decide) (by decide) rfl (by decide) ?_
        exact lc_27 hSc hA (by omega) hR kk
      by_cases e28 : j = 28
      · subst e28
        refine sr_tswI (c := nI 28) (tgt := 1020) hA si_227_33 rfl (by decide) (by decide) rfl (by decide) ?_
        exact lc_28 hSc hA (by omega) hR kk
      by_cases e29 : j = 29
      · subst e29
        refine sr_tswI (c := nI 29) (tgt := 1043) hA si_227_33 rfl (by decide) (by decide) rfl (by decide) ?_
        exact lc_29 hSc hA (by omega) hR kk
      by_cases e30 : j = 30
      · subst e30
        refine sr_tswI (c := nI 30) (tgt := 1086) hA si_227_33 rfl (by decide) (by decide) rfl (by decide) ?_
        exact lc_30 hSc hA (by omega) hR kk
      by_cases e31 : j = 31
      · subst e31
        refine sr_tswI (c := nI 31) (tgt := 1109) hA si_227_33 rfl (by decide) (by decide) rfl (by decide) ?_
        exact lc_31 hSc hA (by omega) hR kk
      by_cases e32 : j = 32
      · subst e32
        refine sr_tswI (c := nI 32) (tgt := 1132) hA si_227_33 rfl (by decide) (by decide) rfl (by decide) ?_
        exact lc_32 hSc hA (by omega) hR kk
      by_cases e33 : j = 33
      · subst e33
        refine sr_tswI (c := nI 33) (tgt := 1155) hA si_227_33 rfl (by decide) (by decide) rfl (by decide) ?_
        exact lc_33 hSc hA (by omega) hR kk
      by_cases e34 : j = 34
      · subst e34
        refine sr_tswI (c := nI 34) (tgt := 1188) hA si_227_33 rfl (by decide) (by decide) rfl (by decide) ?_
        exact lc_34 hSc hA (by omega) hR kk
      by_cases e35 : j = 35
      · subst e35
        refine sr_tswI (c := nI 35) (tgt := 1221) hA si_227_33 rfl (by decide) (by decide) rfl (by decide) ?_
        exact lc_35 hSc hA (by omega) hR kk
      by_cases e36 : j = 36
      · subst e36
        refine sr_tswI (c := nI 36) (tgt := 1234) hA si_227_33 rfl (by decide) (by decide) rfl (by decide) ?_
        exact lc_36 hSc hA (by omega) hR kk
      by_cases e37 : j = 37
      · subst e37
        refine sr_tswI (c := nI 37) (tgt := 1248) hA si_227_33 rfl (by decide) (by decide) rfl (by decide) ?_
        exact lc_37 hSc hA (by omega) hR kk
      by_cases e38 : j = 38
      · subst e38
        refine sr_tswI (c := nI 38) (tgt := 1262) hA si_227_33 rfl (by decide) (by decide) rfl (by decide) ?_
        exact lc_38 hSc hA (by omega) hR kk
      by_cases e39 : j = 39
      · subst e39
        refine sr_tswI (c := nI 39) (tgt := 1285) hA si_227_33 rfl (by decide) (by decide) rfl (by decide) ?_
        exact lc_39 hSc hA (by omega) hR kk
      by_cases e40 : j = 40
      · subst e40
        refine sr_tswI (c := nI 40) (tgt := 1298) hA si_227_33 rfl (by decide) (by decide) rfl (by decide) ?_
        exact lc_40 hSc hA (by omega) hR kk
      by_cases e41 : j = 41
      · subst e41
        refine sr_tswI (c := nI 41) (tgt := 1321) hA si_227_33 rfl (by decide) (by decide) rfl (by decide) ?_
        exact lc_41 hSc hA (by omega) hR kk
      refine sr_tswO (tgt := 1335) hA si_227_33 (Or.inr (by rw [nI_toInt (by omega)]; omega)) (by decide) ?_
      exact kk g hR
    · by_cases h6 : 6 ≤ L
      ·
        refine sr_iload_n hA si_227_18 rfl ?_
        refine sr_aload_n hA si_227_19 rfl ?_
        refine sr_slen hA hSc si_227_20 ?_
        refine sr_bipush (v := nI 6) hA si_227_21 (by decide) ?_
        refine sr_isubN hA si_227_23 (by omega) ?_
        refine sr_icmp_gtN (tgt := 1341) hA si_227_24 (by decide) (by omega) (by omega) (fun c1 => ?_) (fun c1 => absurd c1 (by omega))
        refine sr_iconst (v := nI 1) hA si_227_1341 (by decide) ?_
        exact sr_zret hA si_227_1342 sq_r_227 (by decide) (hRt _)
      ·
        refine sr_iload_n hA si_227_18 rfl ?_
        refine sr_aload_n hA si_227_19 rfl ?_
        refine sr_slen hA hSc si_227_20 ?_
        refine sr_bipush (v := nI 6) hA si_227_21 (by decide) ?_
        refine sr_isub hA si_227_23 ?_
        refine sr_icmp_gt (tgt := 1341) hA si_227_24 (by decide) (fun c1 => ?_) (fun c1 => absurd (sp_n1 (sp_l6 L (by omega)) (by omega)) c1)
        refine sr_iconst (v := nI 1) hA si_227_1341 (by decide) ?_
        exact sr_zret hA si_227_1342 sq_r_227 (by decide) (hRt _)
