theorem lw_ld {pc i rr L n kc ks : Nat} {r : Int} {t : eT} {I : eI} {R : eR} {xs : Nat → Int32} {S : List Value} (h0 : decode code pc = .ok (.aload_n 0, 1)) (h1 : decode code (pc + 1) = .ok (.iload_n 3, 1)) (h2 : decode code (pc + 2) = .ok (.iconst r, 1)) (h3 : decode code (pc + 3) = .ok (.iadd, 1)) (h4 : decode code (pc + 4) = .ok (.iaload, 1)) (hr : Int32.ofInt r = nI rr) (ht : t 3 = (14, L)) (hx : I 3 = xs) (hi : i + rr < L) (hL : L ≤ 3072) (kk : wp yL_law code 4 (some .boolean) 1000 600000 7302249 (qI (fun r n2 _ _ _ => r = 1 ∧ 150 ≤ n2)) kc ks (pc + 5) [.ref 3, .ref 4, .ref 94, .int (nI i)] (.int (xs (i + rr)) :: S) n t I R) : wp yL_law code 4 (some .boolean) 1000 600000 7302249 (qI (fun r n2 _ _ _ => r = 1 ∧ 150 ≤ n2)) kc ks pc [.ref 3, .ref 4, .ref 94, .int (nI i)] S n t I R := by
  refine wp_aload_n (i := 0) h0 rfl rfl ?_
  refine wp_iload_n (i := 3) h1 rfl rfl ?_
  refine wp_iconst (v := nI rr) h2 hr ?_
  refine wp_iadd h3 ?_
  refine wp_fld h4 (by decide) ht (nI_add i rr) hi ?_
  rw [hx]
  exact kk
theorem lg_self (x : Int64) : lg_cmp x x = 0 := by
  unfold lg_cmp
  simp
theorem sub6 {L : Nat} (h : L ≤ 3072) : (nI L - 6).toInt = (L : Int) - 6 := by
  rw [Int32.toInt_sub, nI_toInt (by omega), show (6 : Int32).toInt = 6 from rfl, Int.bmod_def]
  omega
theorem lw_text {c i n kc ks L : Nat} {t : eT} {I : eI} {R : eR} {xs : Nat → Int32} (h : Inv c n t I R L xs) (hc : c ≤ 511) (hi : i + 6 ≤ L) (hL : L ≤ 3072) (hkc : kc + 2 ≤ 600000) (hks : ks + 62 ≤ 7302249) (kk : ∀ n2 t2 I2 R2 kc2 ks2, kc2 ≤ kc + 2 → ks2 ≤ ks + 62 → Inv (c + 1) n2 t2 I2 R2 L xs → wp yL_law code 4 (some .boolean) 1000 600000 7302249 (qI (fun r n2 _ _ _ => r = 1 ∧ 150 ≤ n2)) kc2 ks2 1574 [.ref 3, .ref 4, .ref 94, .int (nI i)] [] n2 t2 I2 R2) : wp yL_law code 4 (some .boolean) 1000 600000 7302249 (qI (fun r n2 _ _ _ => r = 1 ∧ 150 ≤ n2)) kc ks 204 [.ref 3, .ref 4, .ref 94, .int (nI i)] [] n t I R := by
  obtain ⟨m, k0, hv⟩ := id h
  have ht3 : t 3 = (14, L) := hv.mid.1
  have hx3 : I 3 = xs := hv.mid.2.1
  refine wp_aload_n (i := 1) dL_law_204 rfl rfl ?_
  refine lw_ld dL_law_205 dL_law_206 dL_law_207 dL_law_208 dL_law_209 (rr := 1) (by decide) ht3 hx3 (by omega) hL ?_
  refine lw_ld dL_law_210 dL_law_211 dL_law_212 dL_law_213 dL_law_214 (rr := 2) (by decide) ht3 hx3 (by omega) hL ?_
  refine lw_ld dL_law_215 dL_law_216 dL_law_217 dL_law_218 dL_law_219 (rr := 3) (by decide) ht3 hx3 (by omega) hL ?_
  refine lw_ld dL_law_220 dL_law_221 dL_law_222 dL_law_223 dL_law_224 (rr := 4) (by decide) ht3 hx3 (by omega) hL ?_
  refine wp_V4i dL_law_225 mw_263 mw_264 mw_265 mi_X7_text (Nat.le_of_ble_eq_true rfl) (by omega) (by omega) (st_k hv.2.2.1 rfl) (by decide) rfl (MC.monoI (pr_text h hc) (fun r1 n1 t1 I1 R1 q1 => ?_))
  obtain ⟨⟨m1, m2, m3⟩, q2⟩ := q1
  refine wp_aload_n (i := 2) dL_law_228 rfl rfl ?_
  refine lw_ld dL_law_229 dL_law_230 dL_law_231 dL_law_232 dL_law_233 (rr := 1) (by decide) m1 m2 (by omega) hL ?_
  refine lw_ld dL_law_234 dL_law_235 dL_law_236 dL_law_237 dL_law_238 (rr := 2) (by decide) m1 m2 (by omega) hL ?_
  refine lw_ld dL_law_239 dL_law_240 dL_law_241 dL_law_242 dL_law_243 (rr := 3) (by decide) m1 m2 (by omega) hL ?_
  refine lw_ld dL_law_244 dL_law_245 dL_law_246 dL_law_247 dL_law_248 (rr := 4) (by decide) m1 m2 (by omega) hL ?_
  refine wp_V4i dL_law_249 mw_879 mw_880 mw_881 mi_X8_text (Nat.le_of_ble_eq_true rfl) (by omega) (by omega) m3 (by decide) rfl (MC.monoI q2 (fun r2 n2 t2 I2 R2 q3 => ?_))
  exact wp_icmp_eq dL_law_252 (tgt := 1574) rfl (fun _ => kk n2 t2 I2 R2 kc ks (by omega) (by omega) q3.2) (fun g => absurd q3.1.symm g)

theorem lw_part {c i n kc ks L : Nat} {t : eT} {I : eI} {R : eR} {xs : Nat → Int32} (h : Inv c n t I R L xs) (hc : c ≤ 511) (hi : i + 6 ≤ L) (hL : L ≤ 3072) (hkc : kc + 2 ≤ 600000) (hks : ks + 62 ≤ 7302249) (kk : ∀ n2 t2 I2 R2 kc2 ks2, kc2 ≤ kc + 2 → ks2 ≤ ks + 62 → Inv (c + 1) n2 t2 I2 R2 L xs → wp yL_law code 4 (some .boolean) 1000 600000 7302249 (qI (fun r n2 _ _ _ => r = 1 ∧ 150 ≤ n2)) kc2 ks2 1574 [.ref 3, .ref 4, .ref 94, .int (nI i)] [] n2 t2 I2 R2) : wp yL_law code 4 (some .boolean) 1000 600000 7302249 (qI (fun r n2 _ _ _ => r = 1 ∧ 150 ≤ n2)) kc ks 257 [.ref 3, .ref 4, .ref 94, .int (nI i)] [] n t I R := by
  obtain ⟨m, k0, hv⟩ := id h
  have ht3 : t 3 = (14, L) := hv.mid.1
  have hx3 : I 3 = xs := hv.mid.2.1
  refine wp_aload_n (i := 1) dL_law_257 rfl rfl ?_
  refine lw_ld dL_law_258 dL_law_259 dL_law_260 dL_law_261 dL_law_262 (rr := 1) (by decide) ht3 hx3 (by omega) hL ?_
  refine lw_ld dL_law_263 dL_law_264 dL_law_265 dL_law_266 dL_law_267 (rr := 2) (by decide) ht3 hx3 (by omega) hL ?_
  refine wp_V2i dL_law_268 mw_347 mw_348 mw_349 mi_X7_part (Nat.le_of_ble_eq_true rfl) (by omega) (by omega) (st_k hv.2.2.1 rfl) (by decide) rfl (MC.monoI (pr_part h hc) (fun r1 n1 t1 I1 R1 q1 => ?_))
  obtain ⟨⟨m1, m2, m3⟩, q2⟩ := q1
  refine wp_aload_n (i := 2) dL_law_271 rfl rfl ?_
  refine lw_ld dL_law_272 dL_law_273 dL_law_274 dL_law_275 dL_law_276 (rr := 1) (by decide) m1 m2 (by omega) hL ?_
  refine lw_ld dL_law_277 dL_law_278 dL_law_279 dL_law_280 dL_law_281 (rr := 2) (by decide) m1 m2 (by omega) hL ?_
  refine wp_V2i dL_law_282 mw_912 mw_913 mw_914 mi_X8_part (Nat.le_of_ble_eq_true rfl) (by omega) (by omega) m3 (by decide) rfl (MC.monoI q2 (fun r2 n2 t2 I2 R2 q3 => ?_))
  exact wp_icmp_eq dL_law_285 (tgt := 1574) rfl (fun _ => kk n2 t2 I2 R2 kc ks (by omega) (by omega) q3.2) (fun g => absurd q3.1.symm g)

theorem lw_wish {c i n kc ks L : Nat} {t : eT} {I : eI} {R : eR} {xs : Nat → Int32} (h : Inv c n t I R L xs) (hc : c ≤ 511) (hi : i + 6 ≤ L) (hL : L ≤ 3072) (hkc : kc + 2 ≤ 600000) (hks : ks + 62 ≤ 7302249) (kk : ∀ n2 t2 I2 R2 kc2 ks2, kc2 ≤ kc + 2 → ks2 ≤ ks + 62 → Inv (c + 1) n2 t2 I2 R2 L xs → wp yL_law code 4 (some .boolean) 1000 600000 7302249 (qI (fun r n2 _ _ _ => r = 1 ∧ 150 ≤ n2)) kc2 ks2 1574 [.ref 3, .ref 4, .ref 94, .int (nI i)] [] n2 t2 I2 R2) : wp yL_law code 4 (some .boolean) 1000 600000 7302249 (qI (fun r n2 _ _ _ => r = 1 ∧ 150 ≤ n2)) kc ks 290 [.ref 3, .ref 4, .ref 94, .int (nI i)] [] n t I R := by
  obtain ⟨m, k0, hv⟩ := id h
  have ht3 : t 3 = (14, L) := hv.mid.1
  have hx3 : I 3 = xs := hv.mid.2.1
  refine wp_aload_n (i := 1) dL_law_290 rfl rfl ?_
  refine lw_ld dL_law_291 dL_law_292 dL_law_293 dL_law_294 dL_law_295 (rr := 1) (by decide) ht3 hx3 (by omega) hL ?_
  refine lw_ld dL_law_296 dL_law_297 dL_law_298 dL_law_299 dL_law_300 (rr := 2) (by decide) ht3 hx3 (by omega) hL ?_
  refine wp_V2i dL_law_301 mw_355 mw_356 mw_357 mi_X7_wish (Nat.le_of_ble_eq_true rfl) (by omega) (by omega) (st_k hv.2.2.1 rfl) (by decide) rfl (MC.monoI (pr_wish h hc) (fun r1 n1 t1 I1 R1 q1 => ?_))
  obtain ⟨⟨m1, m2, m3⟩, q2⟩ := q1
  refine wp_aload_n (i := 2) dL_law_304 rfl rfl ?_
  refine lw_ld dL_law_305 dL_law_306 dL_law_307 dL_law_308 dL_law_309 (rr := 1) (by decide) m1 m2 (by omega) hL ?_
  refine lw_ld dL_law_310 dL_law_311 dL_law_312 dL_law_313 dL_law_314 (rr := 2) (by decide) m1 m2 (by omega) hL ?_
  refine wp_V2i dL_law_315 mw_920 mw_921 mw_922 mi_X8_wish (Nat.le_of_ble_eq_true rfl) (by omega) (by omega) m3 (by decide) rfl (MC.monoI q2 (fun r2 n2 t2 I2 R2 q3 => ?_))
  exact wp_icmp_eq dL_law_318 (tgt := 1574) rfl (fun _ => kk n2 t2 I2 R2 kc ks (by omega) (by omega) q3.2) (fun g => absurd q3.1.symm g)

theorem lw_follows {c i n kc ks L : Nat} {t : eT} {I : eI} {R : eR} {xs : Nat → Int32} (h : Inv c n t I R L xs) (hc : c ≤ 511) (hi : i + 6 ≤ L) (hL : L ≤ 3072) (hkc : kc + 2 ≤ 600000) (hks : ks + 62 ≤ 7302249) (kk : ∀ n2 t2 I2 R2 kc2 ks2, kc2 ≤ kc + 2 → ks2 ≤ ks + 62 → Inv (c + 1) n2 t2 I2 R2 L xs → wp yL_law code 4 (some .boolean) 1000 600000 7302249 (qI (fun r n2 _ _ _ => r = 1 ∧ 150 ≤ n2)) kc2 ks2 1574 [.ref 3, .ref 4, .ref 94, .int (nI i)] [] n2 t2 I2 R2) : wp yL_law code 4 (some .boolean) 1000 600000 7302249 (qI (fun r n2 _ _ _ => r = 1 ∧ 150 ≤ n2)) kc ks 323 [.ref 3, .ref 4, .ref 94, .int (nI i)] [] n t I R := by
  obtain ⟨m, k0, hv⟩ := id h
  have ht3 : t 3 = (14, L) := hv.mid.1
  have hx3 : I 3 = xs := hv.mid.2.1
  refine wp_aload_n (i := 1) dL_law_323 rfl rfl ?_
  refine lw_ld dL_law_324 dL_law_325 dL_law_326 dL_law_327 dL_law_328 (rr := 1) (by decide) ht3 hx3 (by omega) hL ?_
  refine lw_ld dL_law_329 dL_law_330 dL_law_331 dL_law_332 dL_law_333 (rr := 2) (by decide) ht3 hx3 (by omega) hL ?_
  refine wp_V2i dL_law_334 mw_359 mw_360 mw_361 mi_X7_follows (Nat.le_of_ble_eq_true rfl) (by omega) (by omega) (st_k hv.2.2.1 rfl) (by decide) rfl (MC.monoI (pr_follows h hc) (fun r1 n1 t1 I1 R1 q1 => ?_))
  obtain ⟨⟨m1, m2, m3⟩, q2⟩ := q1
  refine wp_aload_n (i := 2) dL_law_337 rfl rfl ?_
  refine lw_ld dL_law_338 dL_law_339 dL_law_340 dL_law_341 dL_law_342 (rr := 1) (by decide) m1 m2 (by omega) hL ?_
  refine lw_ld dL_law_343 dL_law_344 dL_law_345 dL_law_346 dL_law_347 (rr := 2) (by decide) m1 m2 (by omega) hL ?_
  refine wp_V2i dL_law_348 mw_925 mw_926 mw_927 mi_X8_follows (Nat.le_of_ble_eq_true rfl) (by omega) (by omega) m3 (by decide) rfl (MC.monoI q2 (fun r2 n2 t2 I2 R2 q3 => ?_))
  exact wp_icmp_eq dL_law_351 (tgt := 1574) rfl (fun _ => kk n2 t2 I2 R2 kc ks (by omega) (by omega) q3.2) (fun g => absurd q3.1.symm g)

theorem lw_follow {c i n kc ks L : Nat} {t : eT} {I : eI} {R : eR} {xs : Nat → Int32} (h : Inv c n t I R L xs) (hc : c ≤ 511) (hi : i + 6 ≤ L) (hL : L ≤ 3072) (hkc : kc + 2 ≤ 600000) (hks : ks + 62 ≤ 7302249) (kk : ∀ n2 t2 I2 R2 kc2 ks2, kc2 ≤ kc + 2 → ks2 ≤ ks + 62 → Inv (c + 1) n2 t2 I2 R2 L xs → wp yL_law code 4 (some .boolean) 1000 600000 7302249 (qI (fun r n2 _ _ _ => r = 1 ∧ 150 ≤ n2)) kc2 ks2 1574 [.ref 3, .ref 4, .ref 94, .int (nI i)] [] n2 t2 I2 R2) : wp yL_law code 4 (some .boolean) 1000 600000 7302249 (qI (fun r n2 _ _ _ => r = 1 ∧ 150 ≤ n2)) kc ks 356 [.ref 3, .ref 4, .ref 94, .int (nI i)] [] n t I R := by
  obtain ⟨m, k0, hv⟩ := id h
  have ht3 : t 3 = (14, L) := hv.mid.1
  have hx3 : I 3 = xs := hv.mid.2.1
  refine wp_aload_n (i := 1) dL_law_356 rfl rfl ?_
  refine lw_ld dL_law_357 dL_law_358 dL_law_359 dL_law_360 dL_law_361 (rr := 1) (by decide) ht3 hx3 (by omega) hL ?_
  refine lw_ld dL_law_362 dL_law_363 dL_law_364 dL_law_365 dL_law_366 (rr := 2) (by decide) ht3 hx3 (by omega) hL ?_
  refine lw_ld dL_law_367 dL_law_368 dL_law_369 dL_law_370 dL_law_371 (rr := 3) (by decide) ht3 hx3 (by omega) hL ?_
  refine wp_V3i dL_law_372 mw_363 mw_364 mw_365 mi_X7_follow (Nat.le_of_ble_eq_true rfl) (by omega) (by omega) (st_k hv.2.2.1 rfl) (by decide) rfl (MC.monoI (pr_follow h hc) (fun r1 n1 t1 I1 R1 q1 => ?_))
  obtain ⟨⟨m1, m2, m3⟩, q2⟩ := q1
  refine wp_aload_n (i := 2) dL_law_375 rfl rfl ?_
  refine lw_ld dL_law_376 dL_law_377 dL_law_378 dL_law_379 dL_law_380 (rr := 1) (by decide) m1 m2 (by omega) hL ?_
  refine lw_ld dL_law_381 dL_law_382 dL_law_383 dL_law_384 dL_law_385 (rr := 2) (by decide) m1 m2 (by omega) hL ?_
  refine lw_ld dL_law_386 dL_law_387 dL_law_388 dL_law_389 dL_law_390 (rr := 3) (by decide) m1 m2 (by omega) hL ?_
  refine wp_V3i dL_law_391 mw_929 mw_930 mw_931 mi_X8_follow (Nat.le_of_ble_eq_true rfl) (by omega) (by omega) m3 (by decide) rfl (MC.monoI q2 (fun r2 n2 t2 I2 R2 q3 => ?_))
  exact wp_icmp_eq dL_law_394 (tgt := 1574) rfl (fun _ => kk n2 t2 I2 R2 kc ks (by omega) (by omega) q3.2) (fun g => absurd q3.1.symm g)

theorem lw_person {c i n kc ks L : Nat} {t : eT} {I : eI} {R : eR} {xs : Nat → Int32} (h : Inv c n t I R L xs) (hc : c ≤ 511) (hi : i + 6 ≤ L) (hL : L ≤ 3072) (hkc : kc + 2 ≤ 600000) (hks : ks + 62 ≤ 7302249) (kk : ∀ n2 t2 I2 R2 kc2 ks2, kc2 ≤ kc + 2 → ks2 ≤ ks + 62 → Inv (c + 1) n2 t2 I2 R2 L xs → wp yL_law code 4 (some .boolean) 1000 600000 7302249 (qI (fun r n2 _ _ _ => r = 1 ∧ 150 ≤ n2)) kc2 ks2 1574 [.ref 3, .ref 4, .ref 94, .int (nI i)] [] n2 t2 I2 R2) : wp yL_law code 4 (some .boolean) 1000 600000 7302249 (qI (fun r n2 _ _ _ => r = 1 ∧ 150 ≤ n2)) kc ks 399 [.ref 3, .ref 4, .ref 94, .int (nI i)] [] n t I R := by
  obtain ⟨m, k0, hv⟩ := id h
  have ht3 : t 3 = (14, L) := hv.mid.1
  have hx3 : I 3 = xs := hv.mid.2.1
  refine wp_aload_n (i := 1) dL_law_399 rfl rfl ?_
  refine wp_V0i dL_law_400 mw_367 mw_368 mw_369 mi_X7_person (Nat.le_of_ble_eq_true rfl) (by omega) (by omega) (st_k hv.2.2.1 rfl) (by decide) rfl (MC.monoI (pr_person h hc) (fun r1 n1 t1 I1 R1 q1 => ?_))
  obtain ⟨⟨m1, m2, m3⟩, q2⟩ := q1
  refine wp_aload_n (i := 2) dL_law_403 rfl rfl ?_
  refine wp_V0i dL_law_404 mw_934 mw_935 mw_936 mi_X8_person (Nat.le_of_ble_eq_true rfl) (by omega) (by omega) m3 (by decide) rfl (MC.monoI q2 (fun r2 n2 t2 I2 R2 q3 => ?_))
  exact wp_icmp_eq dL_law_407 (tgt := 1574) rfl (fun _ => kk n2 t2 I2 R2 kc ks (by omega) (by omega) q3.2) (fun g => absurd q3.1.symm g)

theorem lw_can {c i n kc ks L : Nat} {t : eT} {I : eI} {R : eR} {xs : Nat → Int32} (h : Inv c n t I R L xs) (hc : c ≤ 511) (hi : i + 6 ≤ L) (hL : L ≤ 3072) (hkc : kc + 2 ≤ 600000) (hks : ks + 62 ≤ 7302249) (kk : ∀ n2 t2 I2 R2 kc2 ks2, kc2 ≤ kc + 2 → ks2 ≤ ks + 62 → Inv (c + 1) n2 t2 I2 R2 L xs → wp yL_law code 4 (some .boolean) 1000 600000 7302249 (qI (fun r n2 _ _ _ => r = 1 ∧ 150 ≤ n2)) kc2 ks2 1574 [.ref 3, .ref 4, .ref 94, .int (nI i)] [] n2 t2 I2 R2) : wp yL_law code 4 (some .boolean) 1000 600000 7302249 (qI (fun r n2 _ _ _ => r = 1 ∧ 150 ≤ n2)) kc ks 412 [.ref 3, .ref 4, .ref 94, .int (nI i)] [] n t I R := by
  obtain ⟨m, k0, hv⟩ := id h
  have ht3 : t 3 = (14, L) := hv.mid.1
  have hx3 : I 3 = xs := hv.mid.2.1
  refine wp_aload_n (i := 1) dL_law_412 rfl rfl ?_
  refine lw_ld dL_law_413 dL_law_414 dL_law_415 dL_law_416 dL_law_417 (rr := 1) (by decide) ht3 hx3 (by omega) hL ?_
  refine lw_ld dL_law_418 dL_law_419 dL_law_420 dL_law_421 dL_law_422 (rr := 2) (by decide) ht3 hx3 (by omega) hL ?_
  refine lw_ld dL_law_423 dL_law_424 dL_law_425 dL_law_426 dL_law_427 (rr := 3) (by decide) ht3 hx3 (by omega) hL ?_
  refine wp_V3i dL_law_428 mw_371 mw_372 mw_373 mi_X7_can (Nat.le_of_ble_eq_true rfl) (by omega) (by omega) (st_k hv.2.2.1 rfl) (by decide) rfl (MC.monoI (pr_can h hc) (fun r1 n1 t1 I1 R1 q1 => ?_))
  obtain ⟨⟨m1, m2, m3⟩, q2⟩ := q1
  refine wp_aload_n (i := 2) dL_law_431 rfl rfl ?_
  refine lw_ld dL_law_432 dL_law_433 dL_law_434 dL_law_435 dL_law_436 (rr := 1) (by decide) m1 m2 (by omega) hL ?_
  refine lw_ld dL_law_437 dL_law_438 dL_law_439 dL_law_440 dL_law_441 (rr := 2) (by decide) m1 m2 (by omega) hL ?_
  refine lw_ld dL_law_442 dL_law_443 dL_law_444 dL_law_445 dL_law_446 (rr := 3) (by decide) m1 m2 (by omega) hL ?_
  refine wp_V3i dL_law_447 mw_938 mw_939 mw_940 mi_X8_can (Nat.le_of_ble_eq_true rfl) (by omega) (by omega) m3 (by decide) rfl (MC.monoI q2 (fun r2 n2 t2 I2 R2 q3 => ?_))
  exact wp_icmp_eq dL_law_450 (tgt := 1574) rfl (fun _ => kk n2 t2 I2 R2 kc ks (by omega) (by omega) q3.2) (fun g => absurd q3.1.symm g)

theorem lw_best {c i n kc ks L : Nat} {t : eT} {I : eI} {R : eR} {xs : Nat → Int32} (h : Inv c n t I R L xs) (hc : c ≤ 511) (hi : i + 6 ≤ L) (hL : L ≤ 3072) (hkc : kc + 2 ≤ 600000) (hks : ks + 62 ≤ 7302249) (kk : ∀ n2 t2 I2 R2 kc2 ks2, kc2 ≤ kc + 2 → ks2 ≤ ks + 62 → Inv (c + 1) n2 t2 I2 R2 L xs → wp yL_law code 4 (some .boolean) 1000 600000 7302249 (qI (fun r n2 _ _ _ => r = 1 ∧ 150 ≤ n2)) kc2 ks2 1574 [.ref 3, .ref 4, .ref 94, .int (nI i)] [] n2 t2 I2 R2) : wp yL_law code 4 (some .boolean) 1000 600000 7302249 (qI (fun r n2 _ _ _ => r = 1 ∧ 150 ≤ n2)) kc ks 455 [.ref 3, .ref 4, .ref 94, .int (nI i)] [] n t I R := by
  obtain ⟨m, k0, hv⟩ := id h
  have ht3 : t 3 = (14, L) := hv.mid.1
  have hx3 : I 3 = xs := hv.mid.2.1
  refine wp_aload_n (i := 1) dL_law_455 rfl rfl ?_
  refine lw_ld dL_law_456 dL_law_457 dL_law_458 dL_law_459 dL_law_460 (rr := 1) (by decide) ht3 hx3 (by omega) hL ?_
  refine lw_ld dL_law_461 dL_law_462 dL_law_463 dL_law_464 dL_law_465 (rr := 2) (by decide) ht3 hx3 (by omega) hL ?_
  refine lw_ld dL_law_466 dL_law_467 dL_law_468 dL_law_469 dL_law_470 (rr := 3) (by decide) ht3 hx3 (by omega) hL ?_
  refine wp_V3i dL_law_471 mw_382 mw_383 mw_384 mi_X7_best (Nat.le_of_ble_eq_true rfl) (by omega) (by omega) (st_k hv.2.2.1 rfl) (by decide) rfl (MC.monoI (pr_best h hc) (fun r1 n1 t1 I1 R1 q1 => ?_))
  obtain ⟨⟨m1, m2, m3⟩, q2⟩ := q1
  refine wp_aload_n (i := 2) dL_law_474 rfl rfl ?_
  refine lw_ld dL_law_475 dL_law_476 dL_law_477 dL_law_478 dL_law_479 (rr := 1) (by decide) m1 m2 (by omega) hL ?_
  refine lw_ld dL_law_480 dL_law_481 dL_law_482 dL_law_483 dL_law_484 (rr := 2) (by decide) m1 m2 (by omega) hL ?_
  refine lw_ld dL_law_485 dL_law_486 dL_law_487 dL_law_488 dL_law_489 (rr := 3) (by decide) m1 m2 (by omega) hL ?_
  refine wp_V3i dL_law_490 mw_948 mw_949 mw_950 mi_X8_best (Nat.le_of_ble_eq_true rfl) (by omega) (by omega) m3 (by decide) rfl (MC.monoI q2 (fun r2 n2 t2 I2 R2 q3 => ?_))
  exact wp_icmp_eq dL_law_493 (tgt := 1574) rfl (fun _ => kk n2 t2 I2 R2 kc ks (by omega) (by omega) q3.2) (fun g => absurd q3.1.symm g)

theorem lw_lay {c i n kc ks L : Nat} {t : eT} {I : eI} {R : eR} {xs : Nat → Int32} (h : Inv c n t I R L xs) (hc : c ≤ 511) (hi : i + 6 ≤ L) (hL : L ≤ 3072) (hkc : kc + 2 ≤ 600000) (hks : ks + 62 ≤ 7302249) (kk : ∀ n2 t2 I2 R2 kc2 ks2, kc2 ≤ kc + 2 → ks2 ≤ ks + 62 → Inv (c + 1) n2 t2 I2 R2 L xs → wp yL_law code 4 (some .boolean) 1000 600000 7302249 (qI (fun r n2 _ _ _ => r = 1 ∧ 150 ≤ n2)) kc2 ks2 1574 [.ref 3, .ref 4, .ref 94, .int (nI i)] [] n2 t2 I2 R2) : wp yL_law code 4 (some .boolean) 1000 600000 7302249 (qI (fun r n2 _ _ _ => r = 1 ∧ 150 ≤ n2)) kc ks 498 [.ref 3, .ref 4, .ref 94, .int (nI i)] [] n t I R := by
  obtain ⟨m, k0, hv⟩ := id h
  have ht3 : t 3 = (14, L) := hv.mid.1
  have hx3 : I 3 = xs := hv.mid.2.1
  refine wp_aload_n (i := 1) dL_law_498 rfl rfl ?_
  refine lw_ld dL_law_499 dL_law_500 dL_law_501 dL_law_502 dL_law_503 (rr := 1) (by decide) ht3 hx3 (by omega) hL ?_
  refine lw_ld dL_law_504 dL_law_505 dL_law_506 dL_law_507 dL_law_508 (rr := 2) (by decide) ht3 hx3 (by omega) hL ?_
  refine wp_V2i dL_law_509 mw_456 mw_457 mw_458 mi_X7_lay (Nat.le_of_ble_eq_true rfl) (by omega) (by omega) (st_k hv.2.2.1 rfl) (by decide) rfl (MC.monoI (pr_lay h hc) (fun r1 n1 t1 I1 R1 q1 => ?_))
  obtain ⟨⟨m1, m2, m3⟩, q2⟩ := q1
  refine wp_aload_n (i := 2) dL_law_512 rfl rfl ?_
  refine lw_ld dL_law_513 dL_law_514 dL_law_515 dL_law_516 dL_law_517 (rr := 1) (by decide) m1 m2 (by omega) hL ?_
  refine lw_ld dL_law_518 dL_law_519 dL_law_520 dL_law_521 dL_law_522 (rr := 2) (by decide) m1 m2 (by omega) hL ?_
  refine wp_V2i dL_law_523 mw_995 mw_996 mw_997 mi_X8_lay (Nat.le_of_ble_eq_true rfl) (by omega) (by omega) m3 (by decide) rfl (MC.monoI q2 (fun r2 n2 t2 I2 R2 q3 => ?_))
  exact wp_icmp_eq dL_law_526 (tgt := 1574) rfl (fun _ => kk n2 t2 I2 R2 kc ks (by omega) (by omega) q3.2) (fun g => absurd q3.1.symm g)

theorem lw_offer {c i n kc ks L : Nat} {t : eT} {I : eI} {R : eR} {xs : Nat → Int32} (h : Inv c n t I R L xs) (hc : c ≤ 511) (hi : i + 6 ≤ L) (hL : L ≤ 3072) (hkc : kc + 2 ≤ 600000) (hks : ks + 62 ≤ 7302249) (kk : ∀ n2 t2 I2 R2 kc2 ks2, kc2 ≤ kc + 2 → ks2 ≤ ks + 62 → Inv (c + 1) n2 t2 I2 R2 L xs → wp yL_law code 4 (some .boolean) 1000 600000 7302249 (qI (fun r n2 _ _ _ => r = 1 ∧ 150 ≤ n2)) kc2 ks2 1574 [.ref 3, .ref 4, .ref 94, .int (nI i)] [] n2 t2 I2 R2) : wp yL_law code 4 (some .boolean) 1000 600000 7302249 (qI (fun r n2 _ _ _ => r = 1 ∧ 150 ≤ n2)) kc ks 531 [.ref 3, .ref 4, .ref 94, .int (nI i)] [] n t I R := by
  obtain ⟨m, k0, hv⟩ := id h
  have ht3 : t 3 = (14, L) := hv.mid.1
  have hx3 : I 3 = xs := hv.mid.2.1
  refine wp_aload_n (i := 1) dL_law_531 rfl rfl ?_
  refine lw_ld dL_law_532 dL_law_533 dL_law_534 dL_law_535 dL_law_536 (rr := 1) (by decide) ht3 hx3 (by omega) hL ?_
  refine lw_ld dL_law_537 dL_law_538 dL_law_539 dL_law_540 dL_law_541 (rr := 2) (by decide) ht3 hx3 (by omega) hL ?_
  refine wp_V2i dL_law_542 mw_473 mw_474 mw_475 mi_X7_offer (Nat.le_of_ble_eq_true rfl) (by omega) (by omega) (st_k hv.2.2.1 rfl) (by decide) rfl (MC.monoI (pr_offer h hc) (fun r1 n1 t1 I1 R1 q1 => ?_))
  obtain ⟨⟨m1, m2, m3⟩, q2⟩ := q1
  refine wp_aload_n (i := 2) dL_law_545 rfl rfl ?_
  refine lw_ld dL_law_546 dL_law_547 dL_law_548 dL_law_549 dL_law_550 (rr := 1) (by decide) m1 m2 (by omega) hL ?_
  refine lw_ld dL_law_551 dL_law_552 dL_law_553 dL_law_554 dL_law_555 (rr := 2) (by decide) m1 m2 (by omega) hL ?_
  refine wp_V2i dL_law_556 mw_1003 mw_1004 mw_1005 mi_X8_offer (Nat.le_of_ble_eq_true rfl) (by omega) (by omega) m3 (by decide) rfl (MC.monoI q2 (fun r2 n2 t2 I2 R2 q3 => ?_))
  exact wp_icmp_eq dL_law_559 (tgt := 1574) rfl (fun _ => kk n2 t2 I2 R2 kc ks (by omega) (by omega) q3.2) (fun g => absurd q3.1.symm g)

theorem lw_back {c i n kc ks L : Nat} {t : eT} {I : eI} {R : eR} {xs : Nat → Int32} (h : Inv c n t I R L xs) (hc : c ≤ 511) (hi : i + 6 ≤ L) (hL : L ≤ 3072) (hkc : kc + 2 ≤ 600000) (hks : ks + 62 ≤ 7302249) (kk : ∀ n2 t2 I2 R2 kc2 ks2, kc2 ≤ kc + 2 → ks2 ≤ ks + 62 → Inv (c + 1) n2 t2 I2 R2 L xs → wp yL_law code 4 (some .boolean) 1000 600000 7302249 (qI (fun r n2 _ _ _ => r = 1 ∧ 150 ≤ n2)) kc2 ks2 1574 [.ref 3, .ref 4, .ref 94, .int (nI i)] [] n2 t2 I2 R2) : wp yL_law code 4 (some .boolean) 1000 600000 7302249 (qI (fun r n2 _ _ _ => r = 1 ∧ 150 ≤ n2)) kc ks 564 [.ref 3, .ref 4, .ref 94, .int (nI i)] [] n t I R := by
  obtain ⟨m, k0, hv⟩ := id h
  have ht3 : t 3 = (14, L) := hv.mid.1
  have hx3 : I 3 = xs := hv.mid.2.1
  refine wp_aload_n (i := 1) dL_law_564 rfl rfl ?_
  refine lw_ld dL_law_565 dL_law_566 dL_law_567 dL_law_568 dL_law_569 (rr := 1) (by decide) ht3 hx3 (by omega) hL ?_
  refine wp_V1i dL_law_570 mw_488 mw_489 mw_490 mi_X7_back (Nat.le_of_ble_eq_true rfl) (by omega) (by omega) (st_k hv.2.2.1 rfl) (by decide) rfl (MC.monoI (pr_back h hc) (fun r1 n1 t1 I1 R1 q1 => ?_))
  obtain ⟨⟨m1, m2, m3⟩, q2⟩ := q1
  refine wp_aload_n (i := 2) dL_law_573 rfl rfl ?_
  refine lw_ld dL_law_574 dL_law_575 dL_law_576 dL_law_577 dL_law_578 (rr := 1) (by decide) m1 m2 (by omega) hL ?_
  refine wp_V1i dL_law_579 mw_1016 mw_1017 mw_1018 mi_X8_back (Nat.le_of_ble_eq_true rfl) (by omega) (by omega) m3 (by decide) rfl (MC.monoI q2 (fun r2 n2 t2 I2 R2 q3 => ?_))
  exact wp_icmp_eq dL_law_582 (tgt := 1574) rfl (fun _ => kk n2 t2 I2 R2 kc ks (by omega) (by omega) q3.2) (fun g => absurd q3.1.symm g)

theorem lw_at {c i n kc ks L : Nat} {t : eT} {I : eI} {R : eR} {xs : Nat → Int32} (h : Inv c n t I R L xs) (hc : c ≤ 511) (hi : i + 6 ≤ L) (hL : L ≤ 3072) (hkc : kc + 2 ≤ 600000) (hks : ks + 62 ≤ 7302249) (kk : ∀ n2 t2 I2 R2 kc2 ks2, kc2 ≤ kc + 2 → ks2 ≤ ks + 62 → Inv (c + 1) n2 t2 I2 R2 L xs → wp yL_law code 4 (some .boolean) 1000 600000 7302249 (qI (fun r n2 _ _ _ => r = 1 ∧ 150 ≤ n2)) kc2 ks2 1574 [.ref 3, .ref 4, .ref 94, .int (nI i)] [] n2 t2 I2 R2) : wp yL_law code 4 (some .boolean) 1000 600000 7302249 (qI (fun r n2 _ _ _ => r = 1 ∧ 150 ≤ n2)) kc ks 587 [.ref 3, .ref 4, .ref 94, .int (nI i)] [] n t I R := by
  obtain ⟨m, k0, hv⟩ := id h
  have ht3 : t 3 = (14, L) := hv.mid.1
  have hx3 : I 3 = xs := hv.mid.2.1
  refine wp_aload_n (i := 1) dL_law_587 rfl rfl ?_
  refine lw_ld dL_law_588 dL_law_589 dL_law_590 dL_law_591 dL_law_592 (rr := 1) (by decide) ht3 hx3 (by omega) hL ?_
  refine lw_ld dL_law_593 dL_law_594 dL_law_595 dL_law_596 dL_law_597 (rr := 2) (by decide) ht3 hx3 (by omega) hL ?_
  refine wp_V2i dL_law_598 mw_493 mw_494 mw_495 mi_X7_at (Nat.le_of_ble_eq_true rfl) (by omega) (by omega) (st_k hv.2.2.1 rfl) (by decide) rfl (MC.monoI (pr_at h hc) (fun r1 n1 t1 I1 R1 q1 => ?_))
  obtain ⟨⟨m1, m2, m3⟩, q2⟩ := q1
  refine wp_aload_n (i := 2) dL_law_601 rfl rfl ?_
  refine lw_ld dL_law_602 dL_law_603 dL_law_604 dL_law_605 dL_law_606 (rr := 1) (by decide) m1 m2 (by omega) hL ?_
  refine lw_ld dL_law_607 dL_law_608 dL_law_609 dL_law_610 dL_law_611 (rr := 2) (by decide) m1 m2 (by omega) hL ?_
  refine wp_V2i dL_law_612 mw_1020 mw_1021 mw_1022 mi_X8_at (Nat.le_of_ble_eq_true rfl) (by omega) (by omega) m3 (by decide) rfl (MC.monoI q2 (fun r2 n2 t2 I2 R2 q3 => ?_))
  exact wp_icmp_eq dL_law_615 (tgt := 1574) rfl (fun _ => kk n2 t2 I2 R2 kc ks (by omega) (by omega) q3.2) (fun g => absurd q3.1.symm g)

theorem lw_price {c i n kc ks L : Nat} {t : eT} {I : eI} {R : eR} {xs : Nat → Int32} (h : Inv c n t I R L xs) (hc : c ≤ 511) (hi : i + 6 ≤ L) (hL : L ≤ 3072) (hkc : kc + 2 ≤ 600000) (hks : ks + 62 ≤ 7302249) (kk : ∀ n2 t2 I2 R2 kc2 ks2, kc2 ≤ kc + 2 → ks2 ≤ ks + 62 → Inv (c + 1) n2 t2 I2 R2 L xs → wp yL_law code 4 (some .boolean) 1000 600000 7302249 (qI (fun r n2 _ _ _ => r = 1 ∧ 150 ≤ n2)) kc2 ks2 1574 [.ref 3, .ref 4, .ref 94, .int (nI i)] [] n2 t2 I2 R2) : wp yL_law code 4 (some .boolean) 1000 600000 7302249 (qI (fun r n2 _ _ _ => r = 1 ∧ 150 ≤ n2)) kc ks 620 [.ref 3, .ref 4, .ref 94, .int (nI i)] [] n t I R := by
  obtain ⟨m, k0, hv⟩ := id h
  have ht3 : t 3 = (14, L) := hv.mid.1
  have hx3 : I 3 = xs := hv.mid.2.1
  refine wp_aload_n (i := 1) dL_law_620 rfl rfl ?_
  refine lw_ld dL_law_621 dL_law_622 dL_law_623 dL_law_624 dL_law_625 (rr := 1) (by decide) ht3 hx3 (by omega) hL ?_
  refine wp_V1i dL_law_626 mw_504 mw_505 mw_506 mi_X7_price (Nat.le_of_ble_eq_true rfl) (by omega) (by omega) (st_k hv.2.2.1 rfl) (by decide) rfl (MC.monoI (pr_price h hc) (fun r1 n1 t1 I1 R1 q1 => ?_))
  obtain ⟨⟨m1, m2, m3⟩, q2⟩ := q1
  refine wp_aload_n (i := 2) dL_law_629 rfl rfl ?_
  refine lw_ld dL_law_630 dL_law_631 dL_law_632 dL_law_633 dL_law_634 (rr := 1) (by decide) m1 m2 (by omega) hL ?_
  refine wp_V1i dL_law_635 mw_1032 mw_1033 mw_1034 mi_X8_price (Nat.le_of_ble_eq_true rfl) (by omega) (by omega) m3 (by decide) rfl (MC.monoI q2 (fun r2 n2 t2 I2 R2 q3 => ?_))
  exact wp_icmp_eq dL_law_638 (tgt := 1574) rfl (fun _ => kk n2 t2 I2 R2 kc ks (by omega) (by omega) q3.2) (fun g => absurd q3.1.symm g)

theorem lw_ways {c i n kc ks L : Nat} {t : eT} {I : eI} {R : eR} {xs : Nat → Int32} (h : Inv c n t I R L xs) (hc : c ≤ 511) (hi : i + 6 ≤ L) (hL : L ≤ 3072) (hkc : kc + 2 ≤ 600000) (hks : ks + 62 ≤ 7302249) (kk : ∀ n2 t2 I2 R2 kc2 ks2, kc2 ≤ kc + 2 → ks2 ≤ ks + 62 → Inv (c + 1) n2 t2 I2 R2 L xs → wp yL_law code 4 (some .boolean) 1000 600000 7302249 (qI (fun r n2 _ _ _ => r = 1 ∧ 150 ≤ n2)) kc2 ks2 1574 [.ref 3, .ref 4, .ref 94, .int (nI i)] [] n2 t2 I2 R2) : wp yL_law code 4 (some .boolean) 1000 600000 7302249 (qI (fun r n2 _ _ _ => r = 1 ∧ 150 ≤ n2)) kc ks 643 [.ref 3, .ref 4, .ref 94, .int (nI i)] [] n t I R := by
  obtain ⟨m, k0, hv⟩ := id h
  have ht3 : t 3 = (14, L) := hv.mid.1
  have hx3 : I 3 = xs := hv.mid.2.1
  refine wp_aload_n (i := 1) dL_law_643 rfl rfl ?_
  refine lw_ld dL_law_644 dL_law_645 dL_law_646 dL_law_647 dL_law_648 (rr := 1) (by decide) ht3 hx3 (by omega) hL ?_
  refine lw_ld dL_law_649 dL_law_650 dL_law_651 dL_law_652 dL_law_653 (rr := 2) (by decide) ht3 hx3 (by omega) hL ?_
  refine lw_ld dL_law_654 dL_law_655 dL_law_656 dL_law_657 dL_law_658 (rr := 3) (by decide) ht3 hx3 (by omega) hL ?_
  refine wp_V3i dL_law_659 mw_508 mw_509 mw_510 mi_X7_ways (Nat.le_of_ble_eq_true rfl) (by omega) (by omega) (st_k hv.2.2.1 rfl) (by decide) rfl (MC.monoI (pr_ways h hc) (fun r1 n1 t1 I1 R1 q1 => ?_))
  obtain ⟨⟨m1, m2, m3⟩, q2⟩ := q1
  refine wp_aload_n (i := 2) dL_law_662 rfl rfl ?_
  refine lw_ld dL_law_663 dL_law_664 dL_law_665 dL_law_666 dL_law_667 (rr := 1) (by decide) m1 m2 (by omega) hL ?_
  refine lw_ld dL_law_668 dL_law_669 dL_law_670 dL_law_671 dL_law_672 (rr := 2) (by decide) m1 m2 (by omega) hL ?_
  refine lw_ld dL_law_673 dL_law_674 dL_law_675 dL_law_676 dL_law_677 (rr := 3) (by decide) m1 m2 (by omega) hL ?_
  refine wp_V3i dL_law_678 mw_1036 mw_1037 mw_1038 mi_X8_ways (Nat.le_of_ble_eq_true rfl) (by omega) (by omega) m3 (by decide) rfl (MC.monoI q2 (fun r2 n2 t2 I2 R2 q3 => ?_))
  exact wp_icmp_eq dL_law_681 (tgt := 1574) rfl (fun _ => kk n2 t2 I2 R2 kc ks (by omega) (by omega) q3.2) (fun g => absurd q3.1.symm g)

theorem lw_kept {c i n kc ks L : Nat} {t : eT} {I : eI} {R : eR} {xs : Nat → Int32} (h : Inv c n t I R L xs) (hc : c ≤ 511) (hi : i + 6 ≤ L) (hL : L ≤ 3072) (hkc : kc + 2 ≤ 600000) (hks : ks + 62 ≤ 7302249) (kk : ∀ n2 t2 I2 R2 kc2 ks2, kc2 ≤ kc + 2 → ks2 ≤ ks + 62 → Inv (c + 1) n2 t2 I2 R2 L xs → wp yL_law code 4 (some .boolean) 1000 600000 7302249 (qI (fun r n2 _ _ _ => r = 1 ∧ 150 ≤ n2)) kc2 ks2 1574 [.ref 3, .ref 4, .ref 94, .int (nI i)] [] n2 t2 I2 R2) : wp yL_law code 4 (some .boolean) 1000 600000 7302249 (qI (fun r n2 _ _ _ => r = 1 ∧ 150 ≤ n2)) kc ks 686 [.ref 3, .ref 4, .ref 94, .int (nI i)] [] n t I R := by
  obtain ⟨m, k0, hv⟩ := id h
  have ht3 : t 3 = (14, L) := hv.mid.1
  have hx3 : I 3 = xs := hv.mid.2.1
  refine wp_aload_n (i := 1) dL_law_686 rfl rfl ?_
  refine lw_ld dL_law_687 dL_law_688 dL_law_689 dL_law_690 dL_law_691 (rr := 1) (by decide) ht3 hx3 (by omega) hL ?_
  refine lw_ld dL_law_692 dL_law_693 dL_law_694 dL_law_695 dL_law_696 (rr := 2) (by decide) ht3 hx3 (by omega) hL ?_
  refine lw_ld dL_law_697 dL_law_698 dL_law_699 dL_law_700 dL_law_701 (rr := 3) (by decide) ht3 hx3 (by omega) hL ?_
  refine wp_V3i dL_law_702 mw_538 mw_539 mw_540 mi_X7_kept (Nat.le_of_ble_eq_true rfl) (by omega) (by omega) (st_k hv.2.2.1 rfl) (by decide) rfl (MC.monoI (pr_kept h hc) (fun r1 n1 t1 I1 R1 q1 => ?_))
  obtain ⟨⟨m1, m2, m3⟩, q2⟩ := q1
  refine wp_aload_n (i := 2) dL_law_705 rfl rfl ?_
  refine lw_ld dL_law_706 dL_law_707 dL_law_708 dL_law_709 dL_law_710 (rr := 1) (by decide) m1 m2 (by omega) hL ?_
  refine lw_ld dL_law_711 dL_law_712 dL_law_713 dL_law_714 dL_law_715 (rr := 2) (by decide) m1 m2 (by omega) hL ?_
  refine lw_ld dL_law_716 dL_law_717 dL_law_718 dL_law_719 dL_law_720 (rr := 3) (by decide) m1 m2 (by omega) hL ?_
  refine wp_V3i dL_law_721 mw_1057 mw_1058 mw_1059 mi_X8_kept (Nat.le_of_ble_eq_true rfl) (by omega) (by omega) m3 (by decide) rfl (MC.monoI q2 (fun r2 n2 t2 I2 R2 q3 => ?_))
  exact wp_icmp_eq dL_law_724 (tgt := 1574) rfl (fun _ => kk n2 t2 I2 R2 kc ks (by omega) (by omega) q3.2) (fun g => absurd q3.1.symm g)

theorem lw_rule {c i n kc ks L : Nat} {t : eT} {I : eI} {R : eR} {xs : Nat → Int32} (h : Inv c n t I R L xs) (hc : c ≤ 511) (hi : i + 6 ≤ L) (hL : L ≤ 3072) (hkc : kc + 2 ≤ 600000) (hks : ks + 62 ≤ 7302249) (kk : ∀ n2 t2 I2 R2 kc2 ks2, kc2 ≤ kc + 2 → ks2 ≤ ks + 62 → Inv (c + 1) n2 t2 I2 R2 L xs → wp yL_law code 4 (some .boolean) 1000 600000 7302249 (qI (fun r n2 _ _ _ => r = 1 ∧ 150 ≤ n2)) kc2 ks2 1574 [.ref 3, .ref 4, .ref 94, .int (nI i)] [] n2 t2 I2 R2) : wp yL_law code 4 (some .boolean) 1000 600000 7302249 (qI (fun r n2 _ _ _ => r = 1 ∧ 150 ≤ n2)) kc ks 729 [.ref 3, .ref 4, .ref 94, .int (nI i)] [] n t I R := by
  obtain ⟨m, k0, hv⟩ := id h
  have ht3 : t 3 = (14, L) := hv.mid.1
  have hx3 : I 3 = xs := hv.mid.2.1
  refine wp_aload_n (i := 1) dL_law_729 rfl rfl ?_
  refine lw_ld dL_law_730 dL_law_731 dL_law_732 dL_law_733 dL_law_734 (rr := 1) (by decide) ht3 hx3 (by omega) hL ?_
  refine lw_ld dL_law_735 dL_law_736 dL_law_737 dL_law_738 dL_law_739 (rr := 2) (by decide) ht3 hx3 (by omega) hL ?_
  refine wp_V2i dL_law_740 mw_544 mw_545 mw_546 mi_X7_rule (Nat.le_of_ble_eq_true rfl) (by omega) (by omega) (st_k hv.2.2.1 rfl) (by decide) rfl (MC.monoI (pr_rule h hc) (fun r1 n1 t1 I1 R1 q1 => ?_))
  obtain ⟨⟨m1, m2, m3⟩, q2⟩ := q1
  refine wp_aload_n (i := 2) dL_law_743 rfl rfl ?_
  refine lw_ld dL_law_744 dL_law_745 dL_law_746 dL_law_747 dL_law_748 (rr := 1) (by decide) m1 m2 (by omega) hL ?_
  refine lw_ld dL_law_749 dL_law_750 dL_law_751 dL_law_752 dL_law_753 (rr := 2) (by decide) m1 m2 (by omega) hL ?_
  refine wp_V2i dL_law_754 mw_1061 mw_1062 mw_1063 mi_X8_rule (Nat.le_of_ble_eq_true rfl) (by omega) (by omega) m3 (by decide) rfl (MC.monoI q2 (fun r2 n2 t2 I2 R2 q3 => ?_))
  exact wp_icmp_eq dL_law_757 (tgt := 1574) rfl (fun _ => kk n2 t2 I2 R2 kc ks (by omega) (by omega) q3.2) (fun g => absurd q3.1.symm g)

theorem lw_press {c i n kc ks L : Nat} {t : eT} {I : eI} {R : eR} {xs : Nat → Int32} (h : Inv c n t I R L xs) (hc : c ≤ 511) (hi : i + 6 ≤ L) (hL : L ≤ 3072) (hkc : kc + 2 ≤ 600000) (hks : ks + 62 ≤ 7302249) (kk : ∀ n2 t2 I2 R2 kc2 ks2, kc2 ≤ kc + 2 → ks2 ≤ ks + 62 → Inv (c + 1) n2 t2 I2 R2 L xs → wp yL_law code 4 (some .boolean) 1000 600000 7302249 (qI (fun r n2 _ _ _ => r = 1 ∧ 150 ≤ n2)) kc2 ks2 1574 [.ref 3, .ref 4, .ref 94, .int (nI i)] [] n2 t2 I2 R2) : wp yL_law code 4 (some .boolean) 1000 600000 7302249 (qI (fun r n2 _ _ _ => r = 1 ∧ 150 ≤ n2)) kc ks 762 [.ref 3, .ref 4, .ref 94, .int (nI i)] [] n t I R := by
  obtain ⟨m, k0, hv⟩ := id h
  have ht3 : t 3 = (14, L) := hv.mid.1
  have hx3 : I 3 = xs := hv.mid.2.1
  refine wp_aload_n (i := 1) dL_law_762 rfl rfl ?_
  refine lw_ld dL_law_763 dL_law_764 dL_law_765 dL_law_766 dL_law_767 (rr := 1) (by decide) ht3 hx3 (by omega) hL ?_
  refine lw_ld dL_law_768 dL_law_769 dL_law_770 dL_law_771 dL_law_772 (rr := 2) (by decide) ht3 hx3 (by omega) hL ?_
  refine lw_ld dL_law_773 dL_law_774 dL_law_775 dL_law_776 dL_law_777 (rr := 3) (by decide) ht3 hx3 (by omega) hL ?_
  refine lw_ld dL_law_778 dL_law_779 dL_law_780 dL_law_781 dL_law_782 (rr := 4) (by decide) ht3 hx3 (by omega) hL ?_
  refine wp_V4i dL_law_783 mw_550 mw_551 mw_552 mi_X7_press (Nat.le_of_ble_eq_true rfl) (by omega) (by omega) (st_k hv.2.2.1 rfl) (by decide) rfl (MC.monoI (pr_press h hc) (fun r1 n1 t1 I1 R1 q1 => ?_))
  obtain ⟨⟨m1, m2, m3⟩, q2⟩ := q1
  refine wp_aload_n (i := 2) dL_law_786 rfl rfl ?_
  refine lw_ld dL_law_787 dL_law_788 dL_law_789 dL_law_790 dL_law_791 (rr := 1) (by decide) m1 m2 (by omega) hL ?_
  refine lw_ld dL_law_792 dL_law_793 dL_law_794 dL_law_795 dL_law_796 (rr := 2) (by decide) m1 m2 (by omega) hL ?_
  refine lw_ld dL_law_797 dL_law_798 dL_law_799 dL_law_800 dL_law_801 (rr := 3) (by decide) m1 m2 (by omega) hL ?_
  refine lw_ld dL_law_802 dL_law_803 dL_law_804 dL_law_805 dL_law_806 (rr := 4) (by decide) m1 m2 (by omega) hL ?_
  refine wp_V4i dL_law_807 mw_1065 mw_1066 mw_1067 mi_X8_press (Nat.le_of_ble_eq_true rfl) (by omega) (by omega) m3 (by decide) rfl (MC.monoI q2 (fun r2 n2 t2 I2 R2 q3 => ?_))
  exact wp_icmp_eq dL_law_810 (tgt := 1574) rfl (fun _ => kk n2 t2 I2 R2 kc ks (by omega) (by omega) q3.2) (fun g => absurd q3.1.symm g)

theorem lw_confirm {c i n kc ks L : Nat} {t : eT} {I : eI} {R : eR} {xs : Nat → Int32} (h : Inv c n t I R L xs) (hc : c ≤ 511) (hi : i + 6 ≤ L) (hL : L ≤ 3072) (hkc : kc + 2 ≤ 600000) (hks : ks + 62 ≤ 7302249) (kk : ∀ n2 t2 I2 R2 kc2 ks2, kc2 ≤ kc + 2 → ks2 ≤ ks + 62 → Inv (c + 1) n2 t2 I2 R2 L xs → wp yL_law code 4 (some .boolean) 1000 600000 7302249 (qI (fun r n2 _ _ _ => r = 1 ∧ 150 ≤ n2)) kc2 ks2 1574 [.ref 3, .ref 4, .ref 94, .int (nI i)] [] n2 t2 I2 R2) : wp yL_law code 4 (some .boolean) 1000 600000 7302249 (qI (fun r n2 _ _ _ => r = 1 ∧ 150 ≤ n2)) kc ks 815 [.ref 3, .ref 4, .ref 94, .int (nI i)] [] n t I R := by
  obtain ⟨m, k0, hv⟩ := id h
  have ht3 : t 3 = (14, L) := hv.mid.1
  have hx3 : I 3 = xs := hv.mid.2.1
  refine wp_aload_n (i := 1) dL_law_815 rfl rfl ?_
  refine lw_ld dL_law_816 dL_law_817 dL_law_818 dL_law_819 dL_law_820 (rr := 1) (by decide) ht3 hx3 (by omega) hL ?_
  refine lw_ld dL_law_821 dL_law_822 dL_law_823 dL_law_824 dL_law_825 (rr := 2) (by decide) ht3 hx3 (by omega) hL ?_
  refine wp_V2i dL_law_826 mw_582 mw_583 mw_584 mi_X7_confirm (Nat.le_of_ble_eq_true rfl) (by omega) (by omega) (st_k hv.2.2.1 rfl) (by decide) rfl (MC.monoI (pr_confirm h hc) (fun r1 n1 t1 I1 R1 q1 => ?_))
  obtain ⟨⟨m1, m2, m3⟩, q2⟩ := q1
  refine wp_aload_n (i := 2) dL_law_829 rfl rfl ?_
  refine lw_ld dL_law_830 dL_law_831 dL_law_832 dL_law_833 dL_law_834 (rr := 1) (by decide) m1 m2 (by omega) hL ?_
  refine lw_ld dL_law_835 dL_law_836 dL_law_837 dL_law_838 dL_law_839 (rr := 2) (by decide) m1 m2 (by omega) hL ?_
  refine wp_V2i dL_law_840 mw_1079 mw_1080 mw_1081 mi_X8_confirm (Nat.le_of_ble_eq_true rfl) (by omega) (by omega) m3 (by decide) rfl (MC.monoI q2 (fun r2 n2 t2 I2 R2 q3 => ?_))
  exact wp_icmp_eq dL_law_843 (tgt := 1574) rfl (fun _ => kk n2 t2 I2 R2 kc ks (by omega) (by omega) q3.2) (fun g => absurd q3.1.symm g)

theorem lw_asked {c i n kc ks L : Nat} {t : eT} {I : eI} {R : eR} {xs : Nat → Int32} (h : Inv c n t I R L xs) (hc : c ≤ 511) (hi : i + 6 ≤ L) (hL : L ≤ 3072) (hkc : kc + 2 ≤ 600000) (hks : ks + 62 ≤ 7302249) (kk : ∀ n2 t2 I2 R2 kc2 ks2, kc2 ≤ kc + 2 → ks2 ≤ ks + 62 → Inv (c + 1) n2 t2 I2 R2 L xs → wp yL_law code 4 (some .boolean) 1000 600000 7302249 (qI (fun r n2 _ _ _ => r = 1 ∧ 150 ≤ n2)) kc2 ks2 1574 [.ref 3, .ref 4, .ref 94, .int (nI i)] [] n2 t2 I2 R2) : wp yL_law code 4 (some .boolean) 1000 600000 7302249 (qI (fun r n2 _ _ _ => r = 1 ∧ 150 ≤ n2)) kc ks 848 [.ref 3, .ref 4, .ref 94, .int (nI i)] [] n t I R := by
  obtain ⟨m, k0, hv⟩ := id h
  have ht3 : t 3 = (14, L) := hv.mid.1
  have hx3 : I 3 = xs := hv.mid.2.1
  refine wp_aload_n (i := 1) dL_law_848 rfl rfl ?_
  refine lw_ld dL_law_849 dL_law_850 dL_law_851 dL_law_852 dL_law_853 (rr := 1) (by decide) ht3 hx3 (by omega) hL ?_
  refine wp_V1i dL_law_854 mw_586 mw_587 mw_588 mi_X7_asked (Nat.le_of_ble_eq_true rfl) (by omega) (by omega) (st_k hv.2.2.1 rfl) (by decide) rfl (MC.monoI (pr_asked h hc) (fun r1 n1 t1 I1 R1 q1 => ?_))
  obtain ⟨⟨m1, m2, m3⟩, q2⟩ := q1
  refine wp_aload_n (i := 2) dL_law_857 rfl rfl ?_
  refine lw_ld dL_law_858 dL_law_859 dL_law_860 dL_law_861 dL_law_862 (rr := 1) (by decide) m1 m2 (by omega) hL ?_
  refine wp_V1i dL_law_863 mw_1083 mw_1084 mw_1085 mi_X8_asked (Nat.le_of_ble_eq_true rfl) (by omega) (by omega) m3 (by decide) rfl (MC.monoI q2 (fun r2 n2 t2 I2 R2 q3 => ?_))
  exact wp_icmp_eq dL_law_866 (tgt := 1574) rfl (fun _ => kk n2 t2 I2 R2 kc ks (by omega) (by omega) q3.2) (fun g => absurd q3.1.symm g)

theorem lw_undo {c i n kc ks L : Nat} {t : eT} {I : eI} {R : eR} {xs : Nat → Int32} (h : Inv c n t I R L xs) (hc : c ≤ 511) (hi : i + 6 ≤ L) (hL : L ≤ 3072) (hkc : kc + 2 ≤ 600000) (hks : ks + 62 ≤ 7302249) (kk : ∀ n2 t2 I2 R2 kc2 ks2, kc2 ≤ kc + 2 → ks2 ≤ ks + 62 → Inv (c + 1) n2 t2 I2 R2 L xs → wp yL_law code 4 (some .boolean) 1000 600000 7302249 (qI (fun r n2 _ _ _ => r = 1 ∧ 150 ≤ n2)) kc2 ks2 1574 [.ref 3, .ref 4, .ref 94, .int (nI i)] [] n2 t2 I2 R2) : wp yL_law code 4 (some .boolean) 1000 600000 7302249 (qI (fun r n2 _ _ _ => r = 1 ∧ 150 ≤ n2)) kc ks 871 [.ref 3, .ref 4, .ref 94, .int (nI i)] [] n t I R := by
  obtain ⟨m, k0, hv⟩ := id h
  have ht3 : t 3 = (14, L) := hv.mid.1
  have hx3 : I 3 = xs := hv.mid.2.1
  refine wp_aload_n (i := 1) dL_law_871 rfl rfl ?_
  refine lw_ld dL_law_872 dL_law_873 dL_law_874 dL_law_875 dL_law_876 (rr := 1) (by decide) ht3 hx3 (by omega) hL ?_
  refine wp_V1i dL_law_877 mw_590 mw_591 mw_592 mi_X7_undo (Nat.le_of_ble_eq_true rfl) (by omega) (by omega) (st_k hv.2.2.1 rfl) (by decide) rfl (MC.monoI (pr_undo h hc) (fun r1 n1 t1 I1 R1 q1 => ?_))
  obtain ⟨⟨m1, m2, m3⟩, q2⟩ := q1
  refine wp_aload_n (i := 2) dL_law_880 rfl rfl ?_
  refine lw_ld dL_law_881 dL_law_882 dL_law_883 dL_law_884 dL_law_885 (rr := 1) (by decide) m1 m2 (by omega) hL ?_
  refine wp_V1i dL_law_886 mw_1087 mw_1088 mw_1089 mi_X8_undo (Nat.le_of_ble_eq_true rfl) (by omega) (by omega) m3 (by decide) rfl (MC.monoI q2 (fun r2 n2 t2 I2 R2 q3 => ?_))
  exact wp_icmp_eq dL_law_889 (tgt := 1574) rfl (fun _ => kk n2 t2 I2 R2 kc ks (by omega) (by omega) q3.2) (fun g => absurd q3.1.symm g)

theorem lw_counted {c i n kc ks L : Nat} {t : eT} {I : eI} {R : eR} {xs : Nat → Int32} (h : Inv c n t I R L xs) (hc : c ≤ 511) (hi : i + 6 ≤ L) (hL : L ≤ 3072) (hkc : kc + 2 ≤ 600000) (hks : ks + 62 ≤ 7302249) (kk : ∀ n2 t2 I2 R2 kc2 ks2, kc2 ≤ kc + 2 → ks2 ≤ ks + 62 → Inv (c + 1) n2 t2 I2 R2 L xs → wp yL_law code 4 (some .boolean) 1000 600000 7302249 (qI (fun r n2 _ _ _ => r = 1 ∧ 150 ≤ n2)) kc2 ks2 1574 [.ref 3, .ref 4, .ref 94, .int (nI i)] [] n2 t2 I2 R2) : wp yL_law code 4 (some .boolean) 1000 600000 7302249 (qI (fun r n2 _ _ _ => r = 1 ∧ 150 ≤ n2)) kc ks 894 [.ref 3, .ref 4, .ref 94, .int (nI i)] [] n t I R := by
  obtain ⟨m, k0, hv⟩ := id h
  have ht3 : t 3 = (14, L) := hv.mid.1
  have hx3 : I 3 = xs := hv.mid.2.1
  refine wp_aload_n (i := 1) dL_law_894 rfl rfl ?_
  refine lw_ld dL_law_895 dL_law_896 dL_law_897 dL_law_898 dL_law_899 (rr := 1) (by decide) ht3 hx3 (by omega) hL ?_
  refine lw_ld dL_law_900 dL_law_901 dL_law_902 dL_law_903 dL_law_904 (rr := 2) (by decide) ht3 hx3 (by omega) hL ?_
  refine wp_V2i dL_law_905 mw_598 mw_599 mw_600 mi_X7_counted (Nat.le_of_ble_eq_true rfl) (by omega) (by omega) (st_k hv.2.2.1 rfl) (by decide) rfl (MC.monoI (pr_counted h hc) (fun r1 n1 t1 I1 R1 q1 => ?_))
  obtain ⟨⟨m1, m2, m3⟩, q2⟩ := q1
  refine wp_aload_n (i := 2) dL_law_908 rfl rfl ?_
  refine lw_ld dL_law_909 dL_law_910 dL_law_911 dL_law_912 dL_law_913 (rr := 1) (by decide) m1 m2 (by omega) hL ?_
  refine lw_ld dL_law_914 dL_law_915 dL_law_916 dL_law_917 dL_law_918 (rr := 2) (by decide) m1 m2 (by omega) hL ?_
  refine wp_V2i dL_law_919 mw_1091 mw_1092 mw_1093 mi_X8_counted (Nat.le_of_ble_eq_true rfl) (by omega) (by omega) m3 (by decide) rfl (MC.monoI q2 (fun r2 n2 t2 I2 R2 q3 => ?_))
  exact wp_icmp_eq dL_law_922 (tgt := 1574) rfl (fun _ => kk n2 t2 I2 R2 kc ks (by omega) (by omega) q3.2) (fun g => absurd q3.1.symm g)

theorem lw_span {c i n kc ks L : Nat} {t : eT} {I : eI} {R : eR} {xs : Nat → Int32} (h : Inv c n t I R L xs) (hc : c ≤ 511) (hi : i + 6 ≤ L) (hL : L ≤ 3072) (hkc : kc + 2 ≤ 600000) (hks : ks + 62 ≤ 7302249) (kk : ∀ n2 t2 I2 R2 kc2 ks2, kc2 ≤ kc + 2 → ks2 ≤ ks + 62 → Inv (c + 1) n2 t2 I2 R2 L xs → wp yL_law code 4 (some .boolean) 1000 600000 7302249 (qI (fun r n2 _ _ _ => r = 1 ∧ 150 ≤ n2)) kc2 ks2 1574 [.ref 3, .ref 4, .ref 94, .int (nI i)] [] n2 t2 I2 R2) : wp yL_law code 4 (some .boolean) 1000 600000 7302249 (qI (fun r n2 _ _ _ => r = 1 ∧ 150 ≤ n2)) kc ks 927 [.ref 3, .ref 4, .ref 94, .int (nI i)] [] n t I R := by
  obtain ⟨m, k0, hv⟩ := id h
  have ht3 : t 3 = (14, L) := hv.mid.1
  have hx3 : I 3 = xs := hv.mid.2.1
  refine wp_aload_n (i := 1) dL_law_927 rfl rfl ?_
  refine lw_ld dL_law_928 dL_law_929 dL_law_930 dL_law_931 dL_law_932 (rr := 1) (by decide) ht3 hx3 (by omega) hL ?_
  refine lw_ld dL_law_933 dL_law_934 dL_law_935 dL_law_936 dL_law_937 (rr := 2) (by decide) ht3 hx3 (by omega) hL ?_
  refine wp_V2i dL_law_938 mw_602 mw_603 mw_604 mi_X7_span (Nat.le_of_ble_eq_true rfl) (by omega) (by omega) (st_k hv.2.2.1 rfl) (by decide) rfl (MC.monoI (pr_span h hc) (fun r1 n1 t1 I1 R1 q1 => ?_))
  obtain ⟨⟨m1, m2, m3⟩, q2⟩ := q1
  refine wp_aload_n (i := 2) dL_law_941 rfl rfl ?_
  refine lw_ld dL_law_942 dL_law_943 dL_law_944 dL_law_945 dL_law_946 (rr := 1) (by decide) m1 m2 (by omega) hL ?_
  refine lw_ld dL_law_947 dL_law_948 dL_law_949 dL_law_950 dL_law_951 (rr := 2) (by decide) m1 m2 (by omega) hL ?_
  refine wp_V2i dL_law_952 mw_1095 mw_1096 mw_1097 mi_X8_span (Nat.le_of_ble_eq_true rfl) (by omega) (by omega) m3 (by decide) rfl (MC.monoI q2 (fun r2 n2 t2 I2 R2 q3 => ?_))
  exact wp_icmp_eq dL_law_955 (tgt := 1574) rfl (fun _ => kk n2 t2 I2 R2 kc ks (by omega) (by omega) q3.2) (fun g => absurd q3.1.symm g)

theorem lw_worse {c i n kc ks L : Nat} {t : eT} {I : eI} {R : eR} {xs : Nat → Int32} (h : Inv c n t I R L xs) (hc : c ≤ 511) (hi : i + 6 ≤ L) (hL : L ≤ 3072) (hkc : kc + 2 ≤ 600000) (hks : ks + 62 ≤ 7302249) (kk : ∀ n2 t2 I2 R2 kc2 ks2, kc2 ≤ kc + 2 → ks2 ≤ ks + 62 → Inv (c + 1) n2 t2 I2 R2 L xs → wp yL_law code 4 (some .boolean) 1000 600000 7302249 (qI (fun r n2 _ _ _ => r = 1 ∧ 150 ≤ n2)) kc2 ks2 1574 [.ref 3, .ref 4, .ref 94, .int (nI i)] [] n2 t2 I2 R2) : wp yL_law code 4 (some .boolean) 1000 600000 7302249 (qI (fun r n2 _ _ _ => r = 1 ∧ 150 ≤ n2)) kc ks 960 [.ref 3, .ref 4, .ref 94, .int (nI i)] [] n t I R := by
  obtain ⟨m, k0, hv⟩ := id h
  have ht3 : t 3 = (14, L) := hv.mid.1
  have hx3 : I 3 = xs := hv.mid.2.1
  refine wp_aload_n (i := 1) dL_law_960 rfl rfl ?_
  refine lw_ld dL_law_961 dL_law_962 dL_law_963 dL_law_964 dL_law_965 (rr := 1) (by decide) ht3 hx3 (by omega) hL ?_
  refine lw_ld dL_law_966 dL_law_967 dL_law_968 dL_law_969 dL_law_970 (rr := 2) (by decide) ht3 hx3 (by omega) hL ?_
  refine wp_V2l dL_law_971 mw_610 mw_611 mw_612 mi_X7_worse (Nat.le_of_ble_eq_true rfl) (by omega) (by omega) (st_k hv.2.2.1 rfl) (by decide) rfl (MC.monoL (pr_worse h hc) (fun r1 n1 t1 I1 R1 q1 => ?_))
  obtain ⟨⟨m1, m2, m3⟩, q2⟩ := q1
  refine wp_aload_n (i := 2) dL_law_974 rfl rfl ?_
  refine lw_ld dL_law_975 dL_law_976 dL_law_977 dL_law_978 dL_law_979 (rr := 1) (by decide) m1 m2 (by omega) hL ?_
  refine lw_ld dL_law_980 dL_law_981 dL_law_982 dL_law_983 dL_law_984 (rr := 2) (by decide) m1 m2 (by omega) hL ?_
  refine wp_V2l dL_law_985 mw_1103 mw_1104 mw_1105 mi_X8_worse (Nat.le_of_ble_eq_true rfl) (by omega) (by omega) m3 (by decide) rfl (MC.monoL q2 (fun r2 n2 t2 I2 R2 q3 => ?_))
  refine wp_lcmp dL_law_988 ?_
  obtain ⟨rfl, q4⟩ := q3
  exact wp_if_eq dL_law_989 (tgt := 1574) rfl (fun _ => kk n2 t2 I2 R2 kc ks (by omega) (by omega) q4) (fun g => absurd (lg_self _) g)

theorem lw_trial {c i n kc ks L : Nat} {t : eT} {I : eI} {R : eR} {xs : Nat → Int32} (h : Inv c n t I R L xs) (hc : c ≤ 511) (hi : i + 6 ≤ L) (hL : L ≤ 3072) (hkc : kc + 2 ≤ 600000) (hks : ks + 62 ≤ 7302249) (kk : ∀ n2 t2 I2 R2 kc2 ks2, kc2 ≤ kc + 2 → ks2 ≤ ks + 62 → Inv (c + 1) n2 t2 I2 R2 L xs → wp yL_law code 4 (some .boolean) 1000 600000 7302249 (qI (fun r n2 _ _ _ => r = 1 ∧ 150 ≤ n2)) kc2 ks2 1574 [.ref 3, .ref 4, .ref 94, .int (nI i)] [] n2 t2 I2 R2) : wp yL_law code 4 (some .boolean) 1000 600000 7302249 (qI (fun r n2 _ _ _ => r = 1 ∧ 150 ≤ n2)) kc ks 994 [.ref 3, .ref 4, .ref 94, .int (nI i)] [] n t I R := by
  obtain ⟨m, k0, hv⟩ := id h
  have ht3 : t 3 = (14, L) := hv.mid.1
  have hx3 : I 3 = xs := hv.mid.2.1
  refine wp_aload_n (i := 1) dL_law_994 rfl rfl ?_
  refine lw_ld dL_law_995 dL_law_996 dL_law_997 dL_law_998 dL_law_999 (rr := 1) (by decide) ht3 hx3 (by omega) hL ?_
  refine lw_ld dL_law_1000 dL_law_1001 dL_law_1002 dL_law_1003 dL_law_1004 (rr := 2) (by decide) ht3 hx3 (by omega) hL ?_
  refine lw_ld dL_law_1005 dL_law_1006 dL_law_1007 dL_law_1008 dL_law_1009 (rr := 3) (by decide) ht3 hx3 (by omega) hL ?_
  refine wp_V3i dL_law_1010 mw_628 mw_629 mw_630 mi_X7_trial (Nat.le_of_ble_eq_true rfl) (by omega) (by omega) (st_k hv.2.2.1 rfl) (by decide) rfl (MC.monoI (pr_trial h hc) (fun r1 n1 t1 I1 R1 q1 => ?_))
  obtain ⟨⟨m1, m2, m3⟩, q2⟩ := q1
  refine wp_aload_n (i := 2) dL_law_1013 rfl rfl ?_
  refine lw_ld dL_law_1014 dL_law_1015 dL_law_1016 dL_law_1017 dL_law_1018 (rr := 1) (by decide) m1 m2 (by omega) hL ?_
  refine lw_ld dL_law_1019 dL_law_1020 dL_law_1021 dL_law_1022 dL_law_1023 (rr := 2) (by decide) m1 m2 (by omega) hL ?_
  refine lw_ld dL_law_1024 dL_law_1025 dL_law_1026 dL_law_1027 dL_law_1028 (rr := 3) (by decide) m1 m2 (by omega) hL ?_
  refine wp_V3i dL_law_1029 mw_1114 mw_1115 mw_1116 mi_X8_trial (Nat.le_of_ble_eq_true rfl) (by omega) (by omega) m3 (by decide) rfl (MC.monoI q2 (fun r2 n2 t2 I2 R2 q3 => ?_))
  exact wp_icmp_eq dL_law_1032 (tgt := 1574) rfl (fun _ => kk n2 t2 I2 R2 kc ks (by omega) (by omega) q3.2) (fun g => absurd q3.1.symm g)

theorem lw_odds {c i n kc ks L : Nat} {t : eT} {I : eI} {R : eR} {xs : Nat → Int32} (h : Inv c n t I R L xs) (hc : c ≤ 511) (hi : i + 6 ≤ L) (hL : L ≤ 3072) (hkc : kc + 2 ≤ 600000) (hks : ks + 62 ≤ 7302249) (kk : ∀ n2 t2 I2 R2 kc2 ks2, kc2 ≤ kc + 2 → ks2 ≤ ks + 62 → Inv (c + 1) n2 t2 I2 R2 L xs → wp yL_law code 4 (some .boolean) 1000 600000 7302249 (qI (fun r n2 _ _ _ => r = 1 ∧ 150 ≤ n2)) kc2 ks2 1574 [.ref 3, .ref 4, .ref 94, .int (nI i)] [] n2 t2 I2 R2) : wp yL_law code 4 (some .boolean) 1000 600000 7302249 (qI (fun r n2 _ _ _ => r = 1 ∧ 150 ≤ n2)) kc ks 1037 [.ref 3, .ref 4, .ref 94, .int (nI i)] [] n t I R := by
  obtain ⟨m, k0, hv⟩ := id h
  have ht3 : t 3 = (14, L) := hv.mid.1
  have hx3 : I 3 = xs := hv.mid.2.1
  refine wp_aload_n (i := 1) dL_law_1037 rfl rfl ?_
  refine lw_ld dL_law_1038 dL_law_1039 dL_law_1040 dL_law_1041 dL_law_1042 (rr := 1) (by decide) ht3 hx3 (by omega) hL ?_
  refine lw_ld dL_law_1043 dL_law_1044 dL_law_1045 dL_law_1046 dL_law_1047 (rr := 2) (by decide) ht3 hx3 (by omega) hL ?_
  refine wp_V2l dL_law_1048 mw_632 mw_633 mw_634 mi_X7_odds (Nat.le_of_ble_eq_true rfl) (by omega) (by omega) (st_k hv.2.2.1 rfl) (by decide) rfl (MC.monoL (pr_odds h hc) (fun r1 n1 t1 I1 R1 q1 => ?_))
  obtain ⟨⟨m1, m2, m3⟩, q2⟩ := q1
  refine wp_aload_n (i := 2) dL_law_1051 rfl rfl ?_
  refine lw_ld dL_law_1052 dL_law_1053 dL_law_1054 dL_law_1055 dL_law_1056 (rr := 1) (by decide) m1 m2 (by omega) hL ?_
  refine lw_ld dL_law_1057 dL_law_1058 dL_law_1059 dL_law_1060 dL_law_1061 (rr := 2) (by decide) m1 m2 (by omega) hL ?_
  refine wp_V2l dL_law_1062 mw_1118 mw_1119 mw_1120 mi_X8_odds (Nat.le_of_ble_eq_true rfl) (by omega) (by omega) m3 (by decide) rfl (MC.monoL q2 (fun r2 n2 t2 I2 R2 q3 => ?_))
  refine wp_lcmp dL_law_1065 ?_
  obtain ⟨rfl, q4⟩ := q3
  exact wp_if_eq dL_law_1066 (tgt := 1574) rfl (fun _ => kk n2 t2 I2 R2 kc ks (by omega) (by omega) q4) (fun g => absurd (lg_self _) g)

theorem lw_leave {c i n kc ks L : Nat} {t : eT} {I : eI} {R : eR} {xs : Nat → Int32} (h : Inv c n t I R L xs) (hc : c ≤ 511) (hi : i + 6 ≤ L) (hL : L ≤ 3072) (hkc : kc + 2 ≤ 600000) (hks : ks + 62 ≤ 7302249) (kk : ∀ n2 t2 I2 R2 kc2 ks2, kc2 ≤ kc + 2 → ks2 ≤ ks + 62 → Inv (c + 1) n2 t2 I2 R2 L xs → wp yL_law code 4 (some .boolean) 1000 600000 7302249 (qI (fun r n2 _ _ _ => r = 1 ∧ 150 ≤ n2)) kc2 ks2 1574 [.ref 3, .ref 4, .ref 94, .int (nI i)] [] n2 t2 I2 R2) : wp yL_law code 4 (some .boolean) 1000 600000 7302249 (qI (fun r n2 _ _ _ => r = 1 ∧ 150 ≤ n2)) kc ks 1071 [.ref 3, .ref 4, .ref 94, .int (nI i)] [] n t I R := by
  obtain ⟨m, k0, hv⟩ := id h
  have ht3 : t 3 = (14, L) := hv.mid.1
  have hx3 : I 3 = xs := hv.mid.2.1
  refine wp_aload_n (i := 1) dL_law_1071 rfl rfl ?_
  refine lw_ld dL_law_1072 dL_law_1073 dL_law_1074 dL_law_1075 dL_law_1076 (rr := 1) (by decide) ht3 hx3 (by omega) hL ?_
  refine lw_ld dL_law_1077 dL_law_1078 dL_law_1079 dL_law_1080 dL_law_1081 (rr := 2) (by decide) ht3 hx3 (by omega) hL ?_
  refine lw_ld dL_law_1082 dL_law_1083 dL_law_1084 dL_law_1085 dL_law_1086 (rr := 3) (by decide) ht3 hx3 (by omega) hL ?_
  refine lw_ld dL_law_1087 dL_law_1088 dL_law_1089 dL_law_1090 dL_law_1091 (rr := 4) (by decide) ht3 hx3 (by omega) hL ?_
  refine wp_V4i dL_law_1092 mw_639 mw_640 mw_641 mi_X7_leave (Nat.le_of_ble_eq_true rfl) (by omega) (by omega) (st_k hv.2.2.1 rfl) (by decide) rfl (MC.monoI (pr_leave h hc) (fun r1 n1 t1 I1 R1 q1 => ?_))
  obtain ⟨⟨m1, m2, m3⟩, q2⟩ := q1
  refine wp_aload_n (i := 2) dL_law_1095 rfl rfl ?_
  refine lw_ld dL_law_1096 dL_law_1097 dL_law_1098 dL_law_1099 dL_law_1100 (rr := 1) (by decide) m1 m2 (by omega) hL ?_
  refine lw_ld dL_law_1101 dL_law_1102 dL_law_1103 dL_law_1104 dL_law_1105 (rr := 2) (by decide) m1 m2 (by omega) hL ?_
  refine lw_ld dL_law_1106 dL_law_1107 dL_law_1108 dL_law_1109 dL_law_1110 (rr := 3) (by decide) m1 m2 (by omega) hL ?_
  refine lw_ld dL_law_1111 dL_law_1112 dL_law_1113 dL_law_1114 dL_law_1115 (rr := 4) (by decide) m1 m2 (by omega) hL ?_
  refine wp_V4i dL_law_1116 mw_1126 mw_1127 mw_1128 mi_X8_leave (Nat.le_of_ble_eq_true rfl) (by omega) (by omega) m3 (by decide) rfl (MC.monoI q2 (fun r2 n2 t2 I2 R2 q3 => ?_))
  exact wp_icmp_eq dL_law_1119 (tgt := 1574) rfl (fun _ => kk n2 t2 I2 R2 kc ks (by omega) (by omega) q3.2) (fun g => absurd q3.1.symm g)

theorem lw_see {c i n kc ks L : Nat} {t : eT} {I : eI} {R : eR} {xs : Nat → Int32} (h : Inv c n t I R L xs) (hc : c ≤ 511) (hi : i + 6 ≤ L) (hL : L ≤ 3072) (hkc : kc + 2 ≤ 600000) (hks : ks + 62 ≤ 7302249) (kk : ∀ n2 t2 I2 R2 kc2 ks2, kc2 ≤ kc + 2 → ks2 ≤ ks + 62 → Inv (c + 1) n2 t2 I2 R2 L xs → wp yL_law code 4 (some .boolean) 1000 600000 7302249 (qI (fun r n2 _ _ _ => r = 1 ∧ 150 ≤ n2)) kc2 ks2 1574 [.ref 3, .ref 4, .ref 94, .int (nI i)] [] n2 t2 I2 R2) : wp yL_law code 4 (some .boolean) 1000 600000 7302249 (qI (fun r n2 _ _ _ => r = 1 ∧ 150 ≤ n2)) kc ks 1124 [.ref 3, .ref 4, .ref 94, .int (nI i)] [] n t I R := by
  obtain ⟨m, k0, hv⟩ := id h
  have ht3 : t 3 = (14, L) := hv.mid.1
  have hx3 : I 3 = xs := hv.mid.2.1
  refine wp_aload_n (i := 1) dL_law_1124 rfl rfl ?_
  refine lw_ld dL_law_1125 dL_law_1126 dL_law_1127 dL_law_1128 dL_law_1129 (rr := 1) (by decide) ht3 hx3 (by omega) hL ?_
  refine lw_ld dL_law_1130 dL_law_1131 dL_law_1132 dL_law_1133 dL_law_1134 (rr := 2) (by decide) ht3 hx3 (by omega) hL ?_
  refine lw_ld dL_law_1135 dL_law_1136 dL_law_1137 dL_law_1138 dL_law_1139 (rr := 3) (by decide) ht3 hx3 (by omega) hL ?_
  refine lw_ld dL_law_1140 dL_law_1141 dL_law_1142 dL_law_1143 dL_law_1144 (rr := 4) (by decide) ht3 hx3 (by omega) hL ?_
  refine wp_V4i dL_law_1145 mw_643 mw_644 mw_645 mi_X7_see (Nat.le_of_ble_eq_true rfl) (by omega) (by omega) (st_k hv.2.2.1 rfl) (by decide) rfl (MC.monoI (pr_see h hc) (fun r1 n1 t1 I1 R1 q1 => ?_))
  obtain ⟨⟨m1, m2, m3⟩, q2⟩ := q1
  refine wp_aload_n (i := 2) dL_law_1148 rfl rfl ?_
  refine lw_ld dL_law_1149 dL_law_1150 dL_law_1151 dL_law_1152 dL_law_1153 (rr := 1) (by decide) m1 m2 (by omega) hL ?_
  refine lw_ld dL_law_1154 dL_law_1155 dL_law_1156 dL_law_1157 dL_law_1158 (rr := 2) (by decide) m1 m2 (by omega) hL ?_
  refine lw_ld dL_law_1159 dL_law_1160 dL_law_1161 dL_law_1162 dL_law_1163 (rr := 3) (by decide) m1 m2 (by omega) hL ?_
  refine lw_ld dL_law_1164 dL_law_1165 dL_law_1166 dL_law_1167 dL_law_1168 (rr := 4) (by decide) m1 m2 (by omega) hL ?_
  refine wp_V4i dL_law_1169 mw_1130 mw_1131 mw_1132 mi_X8_see (Nat.le_of_ble_eq_true rfl) (by omega) (by omega) m3 (by decide) rfl (MC.monoI q2 (fun r2 n2 t2 I2 R2 q3 => ?_))
  exact wp_icmp_eq dL_law_1172 (tgt := 1574) rfl (fun _ => kk n2 t2 I2 R2 kc ks (by omega) (by omega) q3.2) (fun g => absurd q3.1.symm g)

theorem lw_told {c i n kc ks L : Nat} {t : eT} {I : eI} {R : eR} {xs : Nat → Int32} (h : Inv c n t I R L xs) (hc : c ≤ 511) (hi : i + 6 ≤ L) (hL : L ≤ 3072) (hkc : kc + 2 ≤ 600000) (hks : ks + 62 ≤ 7302249) (kk : ∀ n2 t2 I2 R2 kc2 ks2, kc2 ≤ kc + 2 → ks2 ≤ ks + 62 → Inv (c + 1) n2 t2 I2 R2 L xs → wp yL_law code 4 (some .boolean) 1000 600000 7302249 (qI (fun r n2 _ _ _ => r = 1 ∧ 150 ≤ n2)) kc2 ks2 1574 [.ref 3, .ref 4, .ref 94, .int (nI i)] [] n2 t2 I2 R2) : wp yL_law code 4 (some .boolean) 1000 600000 7302249 (qI (fun r n2 _ _ _ => r = 1 ∧ 150 ≤ n2)) kc ks 1177 [.ref 3, .ref 4, .ref 94, .int (nI i)] [] n t I R := by
  obtain ⟨m, k0, hv⟩ := id h
  have ht3 : t 3 = (14, L) := hv.mid.1
  have hx3 : I 3 = xs := hv.mid.2.1
  refine wp_aload_n (i := 1) dL_law_1177 rfl rfl ?_
  refine lw_ld dL_law_1178 dL_law_1179 dL_law_1180 dL_law_1181 dL_law_1182 (rr := 1) (by decide) ht3 hx3 (by omega) hL ?_
  refine lw_ld dL_law_1183 dL_law_1184 dL_law_1185 dL_law_1186 dL_law_1187 (rr := 2) (by decide) ht3 hx3 (by omega) hL ?_
  refine lw_ld dL_law_1188 dL_law_1189 dL_law_1190 dL_law_1191 dL_law_1192 (rr := 3) (by decide) ht3 hx3 (by omega) hL ?_
  refine lw_ld dL_law_1193 dL_law_1194 dL_law_1195 dL_law_1196 dL_law_1197 (rr := 4) (by decide) ht3 hx3 (by omega) hL ?_
  refine wp_V4i dL_law_1198 mw_651 mw_652 mw_653 mi_X7_told (Nat.le_of_ble_eq_true rfl) (by omega) (by omega) (st_k hv.2.2.1 rfl) (by decide) rfl (MC.monoI (pr_told h hc) (fun r1 n1 t1 I1 R1 q1 => ?_))
  obtain ⟨⟨m1, m2, m3⟩, q2⟩ := q1
  refine wp_aload_n (i := 2) dL_law_1201 rfl rfl ?_
  refine lw_ld dL_law_1202 dL_law_1203 dL_law_1204 dL_law_1205 dL_law_1206 (rr := 1) (by decide) m1 m2 (by omega) hL ?_
  refine lw_ld dL_law_1207 dL_law_1208 dL_law_1209 dL_law_1210 dL_law_1211 (rr := 2) (by decide) m1 m2 (by omega) hL ?_
  refine lw_ld dL_law_1212 dL_law_1213 dL_law_1214 dL_law_1215 dL_law_1216 (rr := 3) (by decide) m1 m2 (by omega) hL ?_
  refine lw_ld dL_law_1217 dL_law_1218 dL_law_1219 dL_law_1220 dL_law_1221 (rr := 4) (by decide) m1 m2 (by omega) hL ?_
  refine wp_V4i dL_law_1222 mw_1138 mw_1139 mw_1140 mi_X8_told (Nat.le_of_ble_eq_true rfl) (by omega) (by omega) m3 (by decide) rfl (MC.monoI q2 (fun r2 n2 t2 I2 R2 q3 => ?_))
  exact wp_icmp_eq dL_law_1225 (tgt := 1574) rfl (fun _ => kk n2 t2 I2 R2 kc ks (by omega) (by omega) q3.2) (fun g => absurd q3.1.symm g)

theorem lw_sheet {c i n kc ks L : Nat} {t : eT} {I : eI} {R : eR} {xs : Nat → Int32} (h : Inv c n t I R L xs) (hc : c ≤ 511) (hi : i + 6 ≤ L) (hL : L ≤ 3072) (hkc : kc + 2 ≤ 600000) (hks : ks + 62 ≤ 7302249) (kk : ∀ n2 t2 I2 R2 kc2 ks2, kc2 ≤ kc + 2 → ks2 ≤ ks + 62 → Inv (c + 1) n2 t2 I2 R2 L xs → wp yL_law code 4 (some .boolean) 1000 600000 7302249 (qI (fun r n2 _ _ _ => r = 1 ∧ 150 ≤ n2)) kc2 ks2 1574 [.ref 3, .ref 4, .ref 94, .int (nI i)] [] n2 t2 I2 R2) : wp yL_law code 4 (some .boolean) 1000 600000 7302249 (qI (fun r n2 _ _ _ => r = 1 ∧ 150 ≤ n2)) kc ks 1230 [.ref 3, .ref 4, .ref 94, .int (nI i)] [] n t I R := by
  obtain ⟨m, k0, hv⟩ := id h
  have ht3 : t 3 = (14, L) := hv.mid.1
  have hx3 : I 3 = xs := hv.mid.2.1
  refine wp_aload_n (i := 1) dL_law_1230 rfl rfl ?_
  refine lw_ld dL_law_1231 dL_law_1232 dL_law_1233 dL_law_1234 dL_law_1235 (rr := 1) (by decide) ht3 hx3 (by omega) hL ?_
  refine lw_ld dL_law_1236 dL_law_1237 dL_law_1238 dL_law_1239 dL_law_1240 (rr := 2) (by decide) ht3 hx3 (by omega) hL ?_
  refine lw_ld dL_law_1241 dL_law_1242 dL_law_1243 dL_law_1244 dL_law_1245 (rr := 3) (by decide) ht3 hx3 (by omega) hL ?_
  refine wp_V3iA dL_law_1246 mw_655 mw_656 mw_657 mi_X7_sheet (Nat.le_of_ble_eq_true rfl) (by omega) (by omega) (st_k hv.2.2.1 rfl) (by decide) rfl (MC.monoI (pr_sheet h hc) (fun r1 n1 t1 I1 R1 q1 => ?_))
  obtain ⟨⟨m1, m2, m3⟩, q2⟩ := q1
  refine wp_aload_n (i := 2) dL_law_1249 rfl rfl ?_
  refine lw_ld dL_law_1250 dL_law_1251 dL_law_1252 dL_law_1253 dL_law_1254 (rr := 1) (by decide) m1 m2 (by omega) hL ?_
  refine lw_ld dL_law_1255 dL_law_1256 dL_law_1257 dL_law_1258 dL_law_1259 (rr := 2) (by decide) m1 m2 (by omega) hL ?_
  refine lw_ld dL_law_1260 dL_law_1261 dL_law_1262 dL_law_1263 dL_law_1264 (rr := 3) (by decide) m1 m2 (by omega) hL ?_
  refine wp_V3i dL_law_1265 mw_1142 mw_1143 mw_1144 mi_X8_sheet (Nat.le_of_ble_eq_true rfl) (by omega) (by omega) m3 (by decide) rfl (MC.monoI q2 (fun r2 n2 t2 I2 R2 q3 => ?_))
  exact wp_icmp_eq dL_law_1268 (tgt := 1574) rfl (fun _ => kk n2 t2 I2 R2 (kc + 2) (ks + 62) (by omega) (by omega) q3.2) (fun g => absurd q3.1.symm g)

theorem lw_lose {c i n kc ks L : Nat} {t : eT} {I : eI} {R : eR} {xs : Nat → Int32} (h : Inv c n t I R L xs) (hc : c ≤ 511) (hi : i + 6 ≤ L) (hL : L ≤ 3072) (hkc : kc + 2 ≤ 600000) (hks : ks + 62 ≤ 7302249) (kk : ∀ n2 t2 I2 R2 kc2 ks2, kc2 ≤ kc + 2 → ks2 ≤ ks + 62 → Inv (c + 1) n2 t2 I2 R2 L xs → wp yL_law code 4 (some .boolean) 1000 600000 7302249 (qI (fun r n2 _ _ _ => r = 1 ∧ 150 ≤ n2)) kc2 ks2 1574 [.ref 3, .ref 4, .ref 94, .int (nI i)] [] n2 t2 I2 R2) : wp yL_law code 4 (some .boolean) 1000 600000 7302249 (qI (fun r n2 _ _ _ => r = 1 ∧ 150 ≤ n2)) kc ks 1273 [.ref 3, .ref 4, .ref 94, .int (nI i)] [] n t I R := by
  obtain ⟨m, k0, hv⟩ := id h
  have ht3 : t 3 = (14, L) := hv.mid.1
  have hx3 : I 3 = xs := hv.mid.2.1
  refine wp_aload_n (i := 1) dL_law_1273 rfl rfl ?_
  refine lw_ld dL_law_1274 dL_law_1275 dL_law_1276 dL_law_1277 dL_law_1278 (rr := 1) (by decide) ht3 hx3 (by omega) hL ?_
  refine wp_V1i dL_law_1279 mw_674 mw_675 mw_676 mi_X7_lose (Nat.le_of_ble_eq_true rfl) (by omega) (by omega) (st_k hv.2.2.1 rfl) (by decide) rfl (MC.monoI (pr_lose h hc) (fun r1 n1 t1 I1 R1 q1 => ?_))
  obtain ⟨⟨m1, m2, m3⟩, q2⟩ := q1
  refine wp_aload_n (i := 2) dL_law_1282 rfl rfl ?_
  refine lw_ld dL_law_1283 dL_law_1284 dL_law_1285 dL_law_1286 dL_law_1287 (rr := 1) (by decide) m1 m2 (by omega) hL ?_
  refine wp_V1i dL_law_1288 mw_1146 mw_1147 mw_1148 mi_X8_lose (Nat.le_of_ble_eq_true rfl) (by omega) (by omega) m3 (by decide) rfl (MC.monoI q2 (fun r2 n2 t2 I2 R2 q3 => ?_))
  exact wp_icmp_eq dL_law_1291 (tgt := 1574) rfl (fun _ => kk n2 t2 I2 R2 kc ks (by omega) (by omega) q3.2) (fun g => absurd q3.1.symm g)

theorem lw_put {c i n kc ks L : Nat} {t : eT} {I : eI} {R : eR} {xs : Nat → Int32} (h : Inv c n t I R L xs) (hc : c ≤ 511) (hi : i + 6 ≤ L) (hL : L ≤ 3072) (hkc : kc + 2 ≤ 600000) (hks : ks + 62 ≤ 7302249) (kk : ∀ n2 t2 I2 R2 kc2 ks2, kc2 ≤ kc + 2 → ks2 ≤ ks + 62 → Inv (c + 1) n2 t2 I2 R2 L xs → wp yL_law code 4 (some .boolean) 1000 600000 7302249 (qI (fun r n2 _ _ _ => r = 1 ∧ 150 ≤ n2)) kc2 ks2 1574 [.ref 3, .ref 4, .ref 94, .int (nI i)] [] n2 t2 I2 R2) : wp yL_law code 4 (some .boolean) 1000 600000 7302249 (qI (fun r n2 _ _ _ => r = 1 ∧ 150 ≤ n2)) kc ks 1296 [.ref 3, .ref 4, .ref 94, .int (nI i)] [] n t I R := by
  obtain ⟨m, k0, hv⟩ := id h
  have ht3 : t 3 = (14, L) := hv.mid.1
  have hx3 : I 3 = xs := hv.mid.2.1
  refine wp_aload_n (i := 1) dL_law_1296 rfl rfl ?_
  refine lw_ld dL_law_1297 dL_law_1298 dL_law_1299 dL_law_1300 dL_law_1301 (rr := 1) (by decide) ht3 hx3 (by omega) hL ?_
  refine lw_ld dL_law_1302 dL_law_1303 dL_law_1304 dL_law_1305 dL_law_1306 (rr := 2) (by decide) ht3 hx3 (by omega) hL ?_
  refine lw_ld dL_law_1307 dL_law_1308 dL_law_1309 dL_law_1310 dL_law_1311 (rr := 3) (by decide) ht3 hx3 (by omega) hL ?_
  refine wp_V3i dL_law_1312 mw_678 mw_679 mw_680 mi_X7_put (Nat.le_of_ble_eq_true rfl) (by omega) (by omega) (st_k hv.2.2.1 rfl) (by decide) rfl (MC.monoI (pr_put h hc) (fun r1 n1 t1 I1 R1 q1 => ?_))
  obtain ⟨⟨m1, m2, m3⟩, q2⟩ := q1
  refine wp_aload_n (i := 2) dL_law_1315 rfl rfl ?_
  refine lw_ld dL_law_1316 dL_law_1317 dL_law_1318 dL_law_1319 dL_law_1320 (rr := 1) (by decide) m1 m2 (by omega) hL ?_
  refine lw_ld dL_law_1321 dL_law_1322 dL_law_1323 dL_law_1324 dL_law_1325 (rr := 2) (by decide) m1 m2 (by omega) hL ?_
  refine lw_ld dL_law_1326 dL_law_1327 dL_law_1328 dL_law_1329 dL_law_1330 (rr := 3) (by decide) m1 m2 (by omega) hL ?_
  refine wp_V3i dL_law_1331 mw_1150 mw_1151 mw_1152 mi_X8_put (Nat.le_of_ble_eq_true rfl) (by omega) (by omega) m3 (by decide) rfl (MC.monoI q2 (fun r2 n2 t2 I2 R2 q3 => ?_))
  exact wp_icmp_eq dL_law_1334 (tgt := 1574) rfl (fun _ => kk n2 t2 I2 R2 kc ks (by omega) (by omega) q3.2) (fun g => absurd q3.1.symm g)

theorem lw_cell {c i n kc ks L : Nat} {t : eT} {I : eI} {R : eR} {xs : Nat → Int32} (h : Inv c n t I R L xs) (hc : c ≤ 511) (hi : i + 6 ≤ L) (hL : L ≤ 3072) (hkc : kc + 2 ≤ 600000) (hks : ks + 62 ≤ 7302249) (kk : ∀ n2 t2 I2 R2 kc2 ks2, kc2 ≤ kc + 2 → ks2 ≤ ks + 62 → Inv (c + 1) n2 t2 I2 R2 L xs → wp yL_law code 4 (some .boolean) 1000 600000 7302249 (qI (fun r n2 _ _ _ => r = 1 ∧ 150 ≤ n2)) kc2 ks2 1574 [.ref 3, .ref 4, .ref 94, .int (nI i)] [] n2 t2 I2 R2) : wp yL_law code 4 (some .boolean) 1000 600000 7302249 (qI (fun r n2 _ _ _ => r = 1 ∧ 150 ≤ n2)) kc ks 1339 [.ref 3, .ref 4, .ref 94, .int (nI i)] [] n t I R := by
  obtain ⟨m, k0, hv⟩ := id h
  have ht3 : t 3 = (14, L) := hv.mid.1
  have hx3 : I 3 = xs := hv.mid.2.1
  refine wp_aload_n (i := 1) dL_law_1339 rfl rfl ?_
  refine lw_ld dL_law_1340 dL_law_1341 dL_law_1342 dL_law_1343 dL_law_1344 (rr := 1) (by decide) ht3 hx3 (by omega) hL ?_
  refine lw_ld dL_law_1345 dL_law_1346 dL_law_1347 dL_law_1348 dL_law_1349 (rr := 2) (by decide) ht3 hx3 (by omega) hL ?_
  refine lw_ld dL_law_1350 dL_law_1351 dL_law_1352 dL_law_1353 dL_law_1354 (rr := 3) (by decide) ht3 hx3 (by omega) hL ?_
  refine wp_V3l dL_law_1355 mw_685 mw_686 mw_687 mi_X7_cell (Nat.le_of_ble_eq_true rfl) (by omega) (by omega) (st_k hv.2.2.1 rfl) (by decide) rfl (MC.monoL (pr_cell h hc) (fun r1 n1 t1 I1 R1 q1 => ?_))
  obtain ⟨⟨m1, m2, m3⟩, q2⟩ := q1
  refine wp_aload_n (i := 2) dL_law_1358 rfl rfl ?_
  refine lw_ld dL_law_1359 dL_law_1360 dL_law_1361 dL_law_1362 dL_law_1363 (rr := 1) (by decide) m1 m2 (by omega) hL ?_
  refine lw_ld dL_law_1364 dL_law_1365 dL_law_1366 dL_law_1367 dL_law_1368 (rr := 2) (by decide) m1 m2 (by omega) hL ?_
  refine lw_ld dL_law_1369 dL_law_1370 dL_law_1371 dL_law_1372 dL_law_1373 (rr := 3) (by decide) m1 m2 (by omega) hL ?_
  refine wp_V3l dL_law_1374 mw_1158 mw_1159 mw_1160 mi_X8_cell (Nat.le_of_ble_eq_true rfl) (by omega) (by omega) m3 (by decide) rfl (MC.monoL q2 (fun r2 n2 t2 I2 R2 q3 => ?_))
  refine wp_lcmp dL_law_1377 ?_
  obtain ⟨rfl, q4⟩ := q3
  exact wp_if_eq dL_law_1378 (tgt := 1574) rfl (fun _ => kk n2 t2 I2 R2 kc ks (by omega) (by omega) q4) (fun g => absurd (lg_self _) g)

theorem lw_copy {c i n kc ks L : Nat} {t : eT} {I : eI} {R : eR} {xs : Nat → Int32} (h : Inv c n t I R L xs) (hc : c ≤ 511) (hi : i + 6 ≤ L) (hL : L ≤ 3072) (hkc : kc + 2 ≤ 600000) (hks : ks + 62 ≤ 7302249) (kk : ∀ n2 t2 I2 R2 kc2 ks2, kc2 ≤ kc + 2 → ks2 ≤ ks + 62 → Inv (c + 1) n2 t2 I2 R2 L xs → wp yL_law code 4 (some .boolean) 1000 600000 7302249 (qI (fun r n2 _ _ _ => r = 1 ∧ 150 ≤ n2)) kc2 ks2 1574 [.ref 3, .ref 4, .ref 94, .int (nI i)] [] n2 t2 I2 R2) : wp yL_law code 4 (some .boolean) 1000 600000 7302249 (qI (fun r n2 _ _ _ => r = 1 ∧ 150 ≤ n2)) kc ks 1383 [.ref 3, .ref 4, .ref 94, .int (nI i)] [] n t I R := by
  obtain ⟨m, k0, hv⟩ := id h
  have ht3 : t 3 = (14, L) := hv.mid.1
  have hx3 : I 3 = xs := hv.mid.2.1
  refine wp_aload_n (i := 1) dL_law_1383 rfl rfl ?_
  refine lw_ld dL_law_1384 dL_law_1385 dL_law_1386 dL_law_1387 dL_law_1388 (rr := 1) (by decide) ht3 hx3 (by omega) hL ?_
  refine lw_ld dL_law_1389 dL_law_1390 dL_law_1391 dL_law_1392 dL_law_1393 (rr := 2) (by decide) ht3 hx3 (by omega) hL ?_
  refine lw_ld dL_law_1394 dL_law_1395 dL_law_1396 dL_law_1397 dL_law_1398 (rr := 3) (by decide) ht3 hx3 (by omega) hL ?_
  refine lw_ld dL_law_1399 dL_law_1400 dL_law_1401 dL_law_1402 dL_law_1403 (rr := 4) (by decide) ht3 hx3 (by omega) hL ?_
  refine lw_ld dL_law_1404 dL_law_1405 dL_law_1406 dL_law_1407 dL_law_1408 (rr := 5) (by decide) ht3 hx3 (by omega) hL ?_
  refine wp_V5i dL_law_1409 mw_689 mw_690 mw_691 mi_X7_copy (Nat.le_of_ble_eq_true rfl) (by omega) (by omega) (st_k hv.2.2.1 rfl) (by decide) rfl (MC.monoI (pr_copy h hc) (fun r1 n1 t1 I1 R1 q1 => ?_))
  obtain ⟨⟨m1, m2, m3⟩, q2⟩ := q1
  refine wp_aload_n (i := 2) dL_law_1412 rfl rfl ?_
  refine lw_ld dL_law_1413 dL_law_1414 dL_law_1415 dL_law_1416 dL_law_1417 (rr := 1) (by decide) m1 m2 (by omega) hL ?_
  refine lw_ld dL_law_1418 dL_law_1419 dL_law_1420 dL_law_1421 dL_law_1422 (rr := 2) (by decide) m1 m2 (by omega) hL ?_
  refine lw_ld dL_law_1423 dL_law_1424 dL_law_1425 dL_law_1426 dL_law_1427 (rr := 3) (by decide) m1 m2 (by omega) hL ?_
  refine lw_ld dL_law_1428 dL_law_1429 dL_law_1430 dL_law_1431 dL_law_1432 (rr := 4) (by decide) m1 m2 (by omega) hL ?_
  refine lw_ld dL_law_1433 dL_law_1434 dL_law_1435 dL_law_1436 dL_law_1437 (rr := 5) (by decide) m1 m2 (by omega) hL ?_
  refine wp_V5i dL_law_1438 mw_1166 mw_1167 mw_1168 mi_X8_copy (Nat.le_of_ble_eq_true rfl) (by omega) (by omega) m3 (by decide) rfl (MC.monoI q2 (fun r2 n2 t2 I2 R2 q3 => ?_))
  exact wp_icmp_eq dL_law_1441 (tgt := 1574) rfl (fun _ => kk n2 t2 I2 R2 kc ks (by omega) (by omega) q3.2) (fun g => absurd q3.1.symm g)

theorem lw_tell {c i n kc ks L : Nat} {t : eT} {I : eI} {R : eR} {xs : Nat → Int32} (h : Inv c n t I R L xs) (hc : c ≤ 511) (hi : i + 6 ≤ L) (hL : L ≤ 3072) (hkc : kc + 2 ≤ 600000) (hks : ks + 62 ≤ 7302249) (kk : ∀ n2 t2 I2 R2 kc2 ks2, kc2 ≤ kc + 2 → ks2 ≤ ks + 62 → Inv (c + 1) n2 t2 I2 R2 L xs → wp yL_law code 4 (some .boolean) 1000 600000 7302249 (qI (fun r n2 _ _ _ => r = 1 ∧ 150 ≤ n2)) kc2 ks2 1574 [.ref 3, .ref 4, .ref 94, .int (nI i)] [] n2 t2 I2 R2) : wp yL_law code 4 (some .boolean) 1000 600000 7302249 (qI (fun r n2 _ _ _ => r = 1 ∧ 150 ≤ n2)) kc ks 1446 [.ref 3, .ref 4, .ref 94, .int (nI i)] [] n t I R := by
  obtain ⟨m, k0, hv⟩ := id h
  have ht3 : t 3 = (14, L) := hv.mid.1
  have hx3 : I 3 = xs := hv.mid.2.1
  refine wp_aload_n (i := 1) dL_law_1446 rfl rfl ?_
  refine lw_ld dL_law_1447 dL_law_1448 dL_law_1449 dL_law_1450 dL_law_1451 (rr := 1) (by decide) ht3 hx3 (by omega) hL ?_
  refine wp_V1i dL_law_1452 mw_694 mw_695 mw_696 mi_X7_tell (Nat.le_of_ble_eq_true rfl) (by omega) (by omega) (st_k hv.2.2.1 rfl) (by decide) rfl (MC.monoI (pr_tell h hc) (fun r1 n1 t1 I1 R1 q1 => ?_))
  obtain ⟨⟨m1, m2, m3⟩, q2⟩ := q1
  refine wp_aload_n (i := 2) dL_law_1455 rfl rfl ?_
  refine lw_ld dL_law_1456 dL_law_1457 dL_law_1458 dL_law_1459 dL_law_1460 (rr := 1) (by decide) m1 m2 (by omega) hL ?_
  refine wp_V1i dL_law_1461 mw_1170 mw_1171 mw_1172 mi_X8_tell (Nat.le_of_ble_eq_true rfl) (by omega) (by omega) m3 (by decide) rfl (MC.monoI q2 (fun r2 n2 t2 I2 R2 q3 => ?_))
  exact wp_icmp_eq dL_law_1464 (tgt := 1574) rfl (fun _ => kk n2 t2 I2 R2 kc ks (by omega) (by omega) q3.2) (fun g => absurd q3.1.symm g)

theorem lw_speak {c i n kc ks L : Nat} {t : eT} {I : eI} {R : eR} {xs : Nat → Int32} (h : Inv c n t I R L xs) (hc : c ≤ 511) (hi : i + 6 ≤ L) (hL : L ≤ 3072) (hkc : kc + 2 ≤ 600000) (hks : ks + 62 ≤ 7302249) (kk : ∀ n2 t2 I2 R2 kc2 ks2, kc2 ≤ kc + 2 → ks2 ≤ ks + 62 → Inv (c + 1) n2 t2 I2 R2 L xs → wp yL_law code 4 (some .boolean) 1000 600000 7302249 (qI (fun r n2 _ _ _ => r = 1 ∧ 150 ≤ n2)) kc2 ks2 1574 [.ref 3, .ref 4, .ref 94, .int (nI i)] [] n2 t2 I2 R2) : wp yL_law code 4 (some .boolean) 1000 600000 7302249 (qI (fun r n2 _ _ _ => r = 1 ∧ 150 ≤ n2)) kc ks 1469 [.ref 3, .ref 4, .ref 94, .int (nI i)] [] n t I R := by
  obtain ⟨m, k0, hv⟩ := id h
  have ht3 : t 3 = (14, L) := hv.mid.1
  have hx3 : I 3 = xs := hv.mid.2.1
  refine wp_aload_n (i := 1) dL_law_1469 rfl rfl ?_
  refine lw_ld dL_law_1470 dL_law_1471 dL_law_1472 dL_law_1473 dL_law_1474 (rr := 1) (by decide) ht3 hx3 (by omega) hL ?_
  refine wp_V1i dL_law_1475 mw_714 mw_715 mw_716 mi_X7_speak (Nat.le_of_ble_eq_true rfl) (by omega) (by omega) (st_k hv.2.2.1 rfl) (by decide) rfl (MC.monoI (pr_speak h hc) (fun r1 n1 t1 I1 R1 q1 => ?_))
  obtain ⟨⟨m1, m2, m3⟩, q2⟩ := q1
  refine wp_aload_n (i := 2) dL_law_1478 rfl rfl ?_
  refine lw_ld dL_law_1479 dL_law_1480 dL_law_1481 dL_law_1482 dL_law_1483 (rr := 1) (by decide) m1 m2 (by omega) hL ?_
  refine wp_V1i dL_law_1484 mw_1178 mw_1179 mw_1180 mi_X8_speak (Nat.le_of_ble_eq_true rfl) (by omega) (by omega) m3 (by decide) rfl (MC.monoI q2 (fun r2 n2 t2 I2 R2 q3 => ?_))
  exact wp_icmp_eq dL_law_1487 (tgt := 1574) rfl (fun _ => kk n2 t2 I2 R2 kc ks (by omega) (by omega) q3.2) (fun g => absurd q3.1.symm g)

theorem lw_as {c i n kc ks L : Nat} {t : eT} {I : eI} {R : eR} {xs : Nat → Int32} (h : Inv c n t I R L xs) (hc : c ≤ 511) (hi : i + 6 ≤ L) (hL : L ≤ 3072) (hkc : kc + 2 ≤ 600000) (hks : ks + 62 ≤ 7302249) (kk : ∀ n2 t2 I2 R2 kc2 ks2, kc2 ≤ kc + 2 → ks2 ≤ ks + 62 → Inv (c + 1) n2 t2 I2 R2 L xs → wp yL_law code 4 (some .boolean) 1000 600000 7302249 (qI (fun r n2 _ _ _ => r = 1 ∧ 150 ≤ n2)) kc2 ks2 1574 [.ref 3, .ref 4, .ref 94, .int (nI i)] [] n2 t2 I2 R2) : wp yL_law code 4 (some .boolean) 1000 600000 7302249 (qI (fun r n2 _ _ _ => r = 1 ∧ 150 ≤ n2)) kc ks 1492 [.ref 3, .ref 4, .ref 94, .int (nI i)] [] n t I R := by
  obtain ⟨m, k0, hv⟩ := id h
  have ht3 : t 3 = (14, L) := hv.mid.1
  have hx3 : I 3 = xs := hv.mid.2.1
  refine wp_aload_n (i := 1) dL_law_1492 rfl rfl ?_
  refine lw_ld dL_law_1493 dL_law_1494 dL_law_1495 dL_law_1496 dL_law_1497 (rr := 1) (by decide) ht3 hx3 (by omega) hL ?_
  refine lw_ld dL_law_1498 dL_law_1499 dL_law_1500 dL_law_1501 dL_law_1502 (rr := 2) (by decide) ht3 hx3 (by omega) hL ?_
  refine wp_V2i dL_law_1503 mw_726 mw_727 mw_728 mi_X7_as (Nat.le_of_ble_eq_true rfl) (by omega) (by omega) (st_k hv.2.2.1 rfl) (by decide) rfl (MC.monoI (pr_as h hc) (fun r1 n1 t1 I1 R1 q1 => ?_))
  obtain ⟨⟨m1, m2, m3⟩, q2⟩ := q1
  refine wp_aload_n (i := 2) dL_law_1506 rfl rfl ?_
  refine lw_ld dL_law_1507 dL_law_1508 dL_law_1509 dL_law_1510 dL_law_1511 (rr := 1) (by decide) m1 m2 (by omega) hL ?_
  refine lw_ld dL_law_1512 dL_law_1513 dL_law_1514 dL_law_1515 dL_law_1516 (rr := 2) (by decide) m1 m2 (by omega) hL ?_
  refine wp_V2i dL_law_1517 mw_1182 mw_1183 mw_1184 mi_X8_as (Nat.le_of_ble_eq_true rfl) (by omega) (by omega) m3 (by decide) rfl (MC.monoI q2 (fun r2 n2 t2 I2 R2 q3 => ?_))
  exact wp_icmp_eq dL_law_1520 (tgt := 1574) rfl (fun _ => kk n2 t2 I2 R2 kc ks (by omega) (by omega) q3.2) (fun g => absurd q3.1.symm g)

theorem lw_trace {c i n kc ks L : Nat} {t : eT} {I : eI} {R : eR} {xs : Nat → Int32} (h : Inv c n t I R L xs) (hc : c ≤ 511) (hi : i + 6 ≤ L) (hL : L ≤ 3072) (hkc : kc + 2 ≤ 600000) (hks : ks + 62 ≤ 7302249) (kk : ∀ n2 t2 I2 R2 kc2 ks2, kc2 ≤ kc + 2 → ks2 ≤ ks + 62 → Inv (c + 1) n2 t2 I2 R2 L xs → wp yL_law code 4 (some .boolean) 1000 600000 7302249 (qI (fun r n2 _ _ _ => r = 1 ∧ 150 ≤ n2)) kc2 ks2 1574 [.ref 3, .ref 4, .ref 94, .int (nI i)] [] n2 t2 I2 R2) : wp yL_law code 4 (some .boolean) 1000 600000 7302249 (qI (fun r n2 _ _ _ => r = 1 ∧ 150 ≤ n2)) kc ks 1525 [.ref 3, .ref 4, .ref 94, .int (nI i)] [] n t I R := by
  obtain ⟨m, k0, hv⟩ := id h
  have ht3 : t 3 = (14, L) := hv.mid.1
  have hx3 : I 3 = xs := hv.mid.2.1
  refine wp_aload_n (i := 1) dL_law_1525 rfl rfl ?_
  refine wp_V0i dL_law_1526 mw_730 mw_731 mw_732 mi_X7_trace (Nat.le_of_ble_eq_true rfl) (by omega) (by omega) (st_k hv.2.2.1 rfl) (by decide) rfl (MC.monoI (pr_trace h hc) (fun r1 n1 t1 I1 R1 q1 => ?_))
  obtain ⟨⟨m1, m2, m3⟩, q2⟩ := q1
  refine wp_aload_n (i := 2) dL_law_1529 rfl rfl ?_
  refine wp_V0i dL_law_1530 mw_1186 mw_1187 mw_1188 mi_X8_trace (Nat.le_of_ble_eq_true rfl) (by omega) (by omega) m3 (by decide) rfl (MC.monoI q2 (fun r2 n2 t2 I2 R2 q3 => ?_))
  exact wp_icmp_eq dL_law_1533 (tgt := 1574) rfl (fun _ => kk n2 t2 I2 R2 kc ks (by omega) (by omega) q3.2) (fun g => absurd q3.1.symm g)

theorem lw_fault {c i n kc ks L : Nat} {t : eT} {I : eI} {R : eR} {xs : Nat → Int32} (h : Inv c n t I R L xs) (hc : c ≤ 511) (hi : i + 6 ≤ L) (hL : L ≤ 3072) (hkc : kc + 2 ≤ 600000) (hks : ks + 62 ≤ 7302249) (kk : ∀ n2 t2 I2 R2 kc2 ks2, kc2 ≤ kc + 2 → ks2 ≤ ks + 62 → Inv (c + 1) n2 t2 I2 R2 L xs → wp yL_law code 4 (some .boolean) 1000 600000 7302249 (qI (fun r n2 _ _ _ => r = 1 ∧ 150 ≤ n2)) kc2 ks2 1574 [.ref 3, .ref 4, .ref 94, .int (nI i)] [] n2 t2 I2 R2) : wp yL_law code 4 (some .boolean) 1000 600000 7302249 (qI (fun r n2 _ _ _ => r = 1 ∧ 150 ≤ n2)) kc ks 1538 [.ref 3, .ref 4, .ref 94, .int (nI i)] [] n t I R := by
  obtain ⟨m, k0, hv⟩ := id h
  have ht3 : t 3 = (14, L) := hv.mid.1
  have hx3 : I 3 = xs := hv.mid.2.1
  refine wp_aload_n (i := 1) dL_law_1538 rfl rfl ?_
  refine wp_V0i dL_law_1539 mw_734 mw_735 mw_736 mi_X7_fault (Nat.le_of_ble_eq_true rfl) (by omega) (by omega) (st_k hv.2.2.1 rfl) (by decide) rfl (MC.monoI (pr_fault h hc) (fun r1 n1 t1 I1 R1 q1 => ?_))
  obtain ⟨⟨m1, m2, m3⟩, q2⟩ := q1
  refine wp_aload_n (i := 2) dL_law_1542 rfl rfl ?_
  refine wp_V0i dL_law_1543 mw_1190 mw_1191 mw_1192 mi_X8_fault (Nat.le_of_ble_eq_true rfl) (by omega) (by omega) m3 (by decide) rfl (MC.monoI q2 (fun r2 n2 t2 I2 R2 q3 => ?_))
  exact wp_icmp_eq dL_law_1546 (tgt := 1574) rfl (fun _ => kk n2 t2 I2 R2 kc ks (by omega) (by omega) q3.2) (fun g => absurd q3.1.symm g)

theorem lw_many {c i n kc ks L : Nat} {t : eT} {I : eI} {R : eR} {xs : Nat → Int32} (h : Inv c n t I R L xs) (hc : c ≤ 511) (hi : i + 6 ≤ L) (hL : L ≤ 3072) (hkc : kc + 2 ≤ 600000) (hks : ks + 62 ≤ 7302249) (kk : ∀ n2 t2 I2 R2 kc2 ks2, kc2 ≤ kc + 2 → ks2 ≤ ks + 62 → Inv (c + 1) n2 t2 I2 R2 L xs → wp yL_law code 4 (some .boolean) 1000 600000 7302249 (qI (fun r n2 _ _ _ => r = 1 ∧ 150 ≤ n2)) kc2 ks2 1574 [.ref 3, .ref 4, .ref 94, .int (nI i)] [] n2 t2 I2 R2) : wp yL_law code 4 (some .boolean) 1000 600000 7302249 (qI (fun r n2 _ _ _ => r = 1 ∧ 150 ≤ n2)) kc ks 1551 [.ref 3, .ref 4, .ref 94, .int (nI i)] [] n t I R := by
  obtain ⟨m, k0, hv⟩ := id h
  have ht3 : t 3 = (14, L) := hv.mid.1
  have hx3 : I 3 = xs := hv.mid.2.1
  refine wp_aload_n (i := 1) dL_law_1551 rfl rfl ?_
  refine lw_ld dL_law_1552 dL_law_1553 dL_law_1554 dL_law_1555 dL_law_1556 (rr := 1) (by decide) ht3 hx3 (by omega) hL ?_
  refine wp_V1i dL_law_1557 mw_738 mw_739 mw_740 mi_X7_many (Nat.le_of_ble_eq_true rfl) (by omega) (by omega) (st_k hv.2.2.1 rfl) (by decide) rfl (MC.monoI (pr_many h hc) (fun r1 n1 t1 I1 R1 q1 => ?_))
  obtain ⟨⟨m1, m2, m3⟩, q2⟩ := q1
  refine wp_aload_n (i := 2) dL_law_1560 rfl rfl ?_
  refine lw_ld dL_law_1561 dL_law_1562 dL_law_1563 dL_law_1564 dL_law_1565 (rr := 1) (by decide) m1 m2 (by omega) hL ?_
  refine wp_V1i dL_law_1566 mw_1194 mw_1195 mw_1196 mi_X8_many (Nat.le_of_ble_eq_true rfl) (by omega) (by omega) m3 (by decide) rfl (MC.monoI q2 (fun r2 n2 t2 I2 R2 q3 => ?_))
  exact wp_icmp_eq dL_law_1569 (tgt := 1574) rfl (fun _ => kk n2 t2 I2 R2 kc ks (by omega) (by omega) q3.2) (fun g => absurd q3.1.symm g)

theorem lp_law {L : Nat} {xs : Nat → Int32} (hL : L ≤ 3072) : ∀ (r i c n kc ks : Nat) (t : eT) (I : eI) (R : eR), i = 6 * c → c + r = 512 → kc + 2 * r ≤ 600000 → ks + 62 * r ≤ 7302249 → Inv c n t I R L xs → wp yL_law code 4 (some .boolean) 1000 600000 7302249 (qI (fun r n2 _ _ _ => r = 1 ∧ 150 ≤ n2)) kc ks 18 [.ref 3, .ref 4, .ref 94, .int (nI i)] [] n t I R := by
  intro r
  induction r with
  | zero =>
    intro i c n kc ks t I R ei hr hkc hks h
    obtain ⟨m, k0, hv⟩ := id h
    refine wp_iload_n (i := 3) dL_law_18 rfl rfl ?_
    refine wp_aload_n (i := 0) dL_law_19 rfl rfl ?_
    refine wp_flen dL_law_20 (by decide) ?_
    refine wp_bipush (v := 6) dL_law_21 (by decide) ?_
    refine wp_isub dL_law_23 ?_
    rw [hv.mid.1]
    refine wp_icmp_gt dL_law_24 (tgt := 1580) rfl (fun _ => ?_) (fun g => ?_)
    · refine wp_iconst (v := 1) dL_law_1580 (by decide) ?_
      exact wp_retZ dL_law_1581 rfl rfl (by omega) (by omega) ⟨rfl, hv.2.2.1.1⟩
    · exfalso
      apply g
      show nI L - 6 < nI i
      rw [i_lt, sub6 hL, nI_toInt (by omega)]
      omega
  | succ r ih =>
    intro i c n kc ks t I R ei hr hkc hks h
    obtain ⟨m, k0, hv⟩ := id h
    refine wp_iload_n (i := 3) dL_law_18 rfl rfl ?_
    refine wp_aload_n (i := 0) dL_law_19 rfl rfl ?_
    refine wp_flen dL_law_20 (by decide) ?_
    refine wp_bipush (v := 6) dL_law_21 (by decide) ?_
    refine wp_isub dL_law_23 ?_
    rw [hv.mid.1]
    refine wp_icmp_gt dL_law_24 (tgt := 1580) rfl (fun _ => ?_) (fun g => ?_)
    · refine wp_iconst (v := 1) dL_law_1580 (by decide) ?_
      exact wp_retZ dL_law_1581 rfl rfl (by omega) (by omega) ⟨rfl, hv.2.2.1.1⟩
    · have hi6 : i + 6 ≤ L := by
        have g2 : ¬ nI L - 6 < nI i := g
        rw [i_lt, sub6 hL, nI_toInt (by omega)] at g2
        omega
      have nx : ∀ n2 t2 I2 R2 kc2 ks2, kc2 ≤ kc + 2 → ks2 ≤ ks + 62 → Inv (c + 1) n2 t2 I2 R2 L xs → wp yL_law code 4 (some .boolean) 1000 600000 7302249 (qI (fun r n2 _ _ _ => r = 1 ∧ 150 ≤ n2)) kc2 ks2 1574 [.ref 3, .ref 4, .ref 94, .int (nI i)] [] n2 t2 I2 R2 := fun n2 t2 I2 R2 kc2 ks2 h1 h2 h3 => by
        refine wp_iinc_4_3 dL_law_1574 (v := nI (i + 6)) (nI_add i 6) ?_
        refine wp_goto dL_law_1577 (tgt := 18) rfl ?_
        exact ih (i + 6) (c + 1) n2 kc2 ks2 t2 I2 R2 (by omega) (by omega) (by omega) (by omega) h3
      refine wp_aload_n (i := 0) dL_law_27 rfl rfl ?_
      refine wp_iload_n (i := 3) dL_law_28 rfl rfl ?_
      refine wp_fld dL_law_29 (by decide) hv.mid.1 rfl (show i < L by omega) ?_
      refine wp_bipush (v := 63) dL_law_30 (by decide) ?_
      refine wp_iand dL_law_32 ?_
      generalize I 3 i &&& 63 = x
      by_cases hx : x.toInt < 0 ∨ 38 < x.toInt
      · exact wp_tableOut dL_law_33 (tgt := 1574) hx rfl (nx n t I R kc ks (by omega) (by omega) ⟨m, k0, hv.up (by omega)⟩)
      obtain ⟨v, hv39, e⟩ := nat_of (x := x) (m := 39) (by omega) (by omega) (by decide)
      rcases (show v = 0 ∨ v = 1 ∨ v = 2 ∨ v = 3 ∨ v = 4 ∨ v = 5 ∨ v = 6 ∨ v = 7 ∨ v = 8 ∨ v = 9 ∨ v = 10 ∨ v = 11 ∨ v = 12 ∨ v = 13 ∨ v = 14 ∨ v = 15 ∨ v = 16 ∨ v = 17 ∨ v = 18 ∨ v = 19 ∨ v = 20 ∨ v = 21 ∨ v = 22 ∨ v = 23 ∨ v = 24 ∨ v = 25 ∨ v = 26 ∨ v = 27 ∨ v = 28 ∨ v = 29 ∨ v = 30 ∨ v = 31 ∨ v = 32 ∨ v = 33 ∨ v = 34 ∨ v = 35 ∨ v = 36 ∨ v = 37 ∨ v = 38 by omega) with rfl | rfl | rfl | rfl | rfl | rfl | rfl | rfl | rfl | rfl | rfl | rfl | rfl | rfl | rfl | rfl | rfl | rfl | rfl | rfl | rfl | rfl | rfl | rfl | rfl | rfl | rfl | rfl | rfl | rfl | rfl | rfl | rfl | rfl | rfl | rfl | rfl | rfl | rfl
      · exact wp_tableIn dL_law_33 (off := 171) (tgt := 204) (by rw [e]; decide) (by rw [e]; decide) (by rw [e]; rfl) rfl (lw_text h (by omega) hi6 hL (by omega) (by omega) nx)
      · exact wp_tableIn dL_law_33 (off := 224) (tgt := 257) (by rw [e]; decide) (by rw [e]; decide) (by rw [e]; rfl) rfl (lw_part h (by omega) hi6 hL (by omega) (by omega) nx)
      · exact wp_tableIn dL_law_33 (off := 257) (tgt := 290) (by rw [e]; decide) (by rw [e]; decide) (by rw [e]; rfl) rfl (lw_wish h (by omega) hi6 hL (by omega) (by omega) nx)
      · exact wp_tableIn dL_law_33 (off := 290) (tgt := 323) (by rw [e]; decide) (by rw [e]; decide) (by rw [e]; rfl) rfl (lw_follows h (by omega) hi6 hL (by omega) (by omega) nx)
      · exact wp_tableIn dL_law_33 (off := 323) (tgt := 356) (by rw [e]; decide) (by rw [e]; decide) (by rw [e]; rfl) rfl (lw_follow h (by omega) hi6 hL (by omega) (by omega) nx)
      · exact wp_tableIn dL_law_33 (off := 366) (tgt := 399) (by rw [e]; decide) (by rw [e]; decide) (by rw [e]; rfl) rfl (lw_person h (by omega) hi6 hL (by omega) (by omega) nx)
      · exact wp_tableIn dL_law_33 (off := 379) (tgt := 412) (by rw [e]; decide) (by rw [e]; decide) (by rw [e]; rfl) rfl (lw_can h (by omega) hi6 hL (by omega) (by omega) nx)
      · exact wp_tableIn dL_law_33 (off := 422) (tgt := 455) (by rw [e]; decide) (by rw [e]; decide) (by rw [e]; rfl) rfl (lw_best h (by omega) hi6 hL (by omega) (by omega) nx)
      · exact wp_tableIn dL_law_33 (off := 465) (tgt := 498) (by rw [e]; decide) (by rw [e]; decide) (by rw [e]; rfl) rfl (lw_lay h (by omega) hi6 hL (by omega) (by omega) nx)
      · exact wp_tableIn dL_law_33 (off := 498) (tgt := 531) (by rw [e]; decide) (by rw [e]; decide) (by rw [e]; rfl) rfl (lw_offer h (by omega) hi6 hL (by omega) (by omega) nx)
      · exact wp_tableIn dL_law_33 (off := 531) (tgt := 564) (by rw [e]; decide) (by rw [e]; decide) (by rw [e]; rfl) rfl (lw_back h (by omega) hi6 hL (by omega) (by omega) nx)
      · exact wp_tableIn dL_law_33 (off := 554) (tgt := 587) (by rw [e]; decide) (by rw [e]; decide) (by rw [e]; rfl) rfl (lw_at h (by omega) hi6 hL (by omega) (by omega) nx)
      · exact wp_tableIn dL_law_33 (off := 587) (tgt := 620) (by rw [e]; decide) (by rw [e]; decide) (by rw [e]; rfl) rfl (lw_price h (by omega) hi6 hL (by omega) (by omega) nx)
      · exact wp_tableIn dL_law_33 (off := 610) (tgt := 643) (by rw [e]; decide) (by rw [e]; decide) (by rw [e]; rfl) rfl (lw_ways h (by omega) hi6 hL (by omega) (by omega) nx)
      · exact wp_tableIn dL_law_33 (off := 653) (tgt := 686) (by rw [e]; decide) (by rw [e]; decide) (by rw [e]; rfl) rfl (lw_kept h (by omega) hi6 hL (by omega) (by omega) nx)
      · exact wp_tableIn dL_law_33 (off := 696) (tgt := 729) (by rw [e]; decide) (by rw [e]; decide) (by rw [e]; rfl) rfl (lw_rule h (by omega) hi6 hL (by omega) (by omega) nx)
      · exact wp_tableIn dL_law_33 (off := 729) (tgt := 762) (by rw [e]; decide) (by rw [e]; decide) (by rw [e]; rfl) rfl (lw_press h (by omega) hi6 hL (by omega) (by omega) nx)
      · exact wp_tableIn dL_law_33 (off := 782) (tgt := 815) (by rw [e]; decide) (by rw [e]; decide) (by rw [e]; rfl) rfl (lw_confirm h (by omega) hi6 hL (by omega) (by omega) nx)
      · exact wp_tableIn dL_law_33 (off := 815) (tgt := 848) (by rw [e]; decide) (by rw [e]; decide) (by rw [e]; rfl) rfl (lw_asked h (by omega) hi6 hL (by omega) (by omega) nx)
      · exact wp_tableIn dL_law_33 (off := 838) (tgt := 871) (by rw [e]; decide) (by rw [e]; decide) (by rw [e]; rfl) rfl (lw_undo h (by omega) hi6 hL (by omega) (by omega) nx)
      · exact wp_tableIn dL_law_33 (off := 861) (tgt := 894) (by rw [e]; decide) (by rw [e]; decide) (by rw [e]; rfl) rfl (lw_counted h (by omega) hi6 hL (by omega) (by omega) nx)
      · exact wp_tableIn dL_law_33 (off := 894) (tgt := 927) (by rw [e]; decide) (by rw [e]; decide) (by rw [e]; rfl) rfl (lw_span h (by omega) hi6 hL (by omega) (by omega) nx)
      · exact wp_tableIn dL_law_33 (off := 927) (tgt := 960) (by rw [e]; decide) (by rw [e]; decide) (by rw [e]; rfl) rfl (lw_worse h (by omega) hi6 hL (by omega) (by omega) nx)
      · exact wp_tableIn dL_law_33 (off := 961) (tgt := 994) (by rw [e]; decide) (by rw [e]; decide) (by rw [e]; rfl) rfl (lw_trial h (by omega) hi6 hL (by omega) (by omega) nx)
      · exact wp_tableIn dL_law_33 (off := 1004) (tgt := 1037) (by rw [e]; decide) (by rw [e]; decide) (by rw [e]; rfl) rfl (lw_odds h (by omega) hi6 hL (by omega) (by omega) nx)
      · exact wp_tableIn dL_law_33 (off := 1038) (tgt := 1071) (by rw [e]; decide) (by rw [e]; decide) (by rw [e]; rfl) rfl (lw_leave h (by omega) hi6 hL (by omega) (by omega) nx)
      · exact wp_tableIn dL_law_33 (off := 1091) (tgt := 1124) (by rw [e]; decide) (by rw [e]; decide) (by rw [e]; rfl) rfl (lw_see h (by omega) hi6 hL (by omega) (by omega) nx)
      · exact wp_tableIn dL_law_33 (off := 1144) (tgt := 1177) (by rw [e]; decide) (by rw [e]; decide) (by rw [e]; rfl) rfl (lw_told h (by omega) hi6 hL (by omega) (by omega) nx)
      · exact wp_tableIn dL_law_33 (off := 1197) (tgt := 1230) (by rw [e]; decide) (by rw [e]; decide) (by rw [e]; rfl) rfl (lw_sheet h (by omega) hi6 hL (by omega) (by omega) nx)
      · exact wp_tableIn dL_law_33 (off := 1240) (tgt := 1273) (by rw [e]; decide) (by rw [e]; decide) (by rw [e]; rfl) rfl (lw_lose h (by omega) hi6 hL (by omega) (by omega) nx)
      · exact wp_tableIn dL_law_33 (off := 1263) (tgt := 1296) (by rw [e]; decide) (by rw [e]; decide) (by rw [e]; rfl) rfl (lw_put h (by omega) hi6 hL (by omega) (by omega) nx)
      · exact wp_tableIn dL_law_33 (off := 1306) (tgt := 1339) (by rw [e]; decide) (by rw [e]; decide) (by rw [e]; rfl) rfl (lw_cell h (by omega) hi6 hL (by omega) (by omega) nx)
      · exact wp_tableIn dL_law_33 (off := 1350) (tgt := 1383) (by rw [e]; decide) (by rw [e]; decide) (by rw [e]; rfl) rfl (lw_copy h (by omega) hi6 hL (by omega) (by omega) nx)
      · exact wp_tableIn dL_law_33 (off := 1413) (tgt := 1446) (by rw [e]; decide) (by rw [e]; decide) (by rw [e]; rfl) rfl (lw_tell h (by omega) hi6 hL (by omega) (by omega) nx)
      · exact wp_tableIn dL_law_33 (off := 1436) (tgt := 1469) (by rw [e]; decide) (by rw [e]; decide) (by rw [e]; rfl) rfl (lw_speak h (by omega) hi6 hL (by omega) (by omega) nx)
      · exact wp_tableIn dL_law_33 (off := 1459) (tgt := 1492) (by rw [e]; decide) (by rw [e]; decide) (by rw [e]; rfl) rfl (lw_as h (by omega) hi6 hL (by omega) (by omega) nx)
      · exact wp_tableIn dL_law_33 (off := 1492) (tgt := 1525) (by rw [e]; decide) (by rw [e]; decide) (by rw [e]; rfl) rfl (lw_trace h (by omega) hi6 hL (by omega) (by omega) nx)
      · exact wp_tableIn dL_law_33 (off := 1505) (tgt := 1538) (by rw [e]; decide) (by rw [e]; decide) (by rw [e]; rfl) rfl (lw_fault h (by omega) hi6 hL (by omega) (by omega) nx)
      · exact wp_tableIn dL_law_33 (off := 1518) (tgt := 1551) (by rw [e]; decide) (by rw [e]; decide) (by rw [e]; rfl) rfl (lw_many h (by omega) hi6 hL (by omega) (by omega) nx)

