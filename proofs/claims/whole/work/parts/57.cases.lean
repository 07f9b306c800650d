def zLk (G : zLG) (i : Nat) : Prop := ∀ (S : zS) (M1 M2 : zM), ok S → RX S M1 → RM S M2 → VL G M1 M2 1634 (LOC G i) []
theorem law_0 {G : zLG} (C : zLC G) {M1 M2 : zM} {S : zS} {i : Nat} (hi : i + 6 ≤ G.2.2.2.2.2.2.2.2.2.2.2.1) (hO : ok S) (h1 : RX S M1) (h2 : RM S M2) (k : zLk G i) : VL G M1 M2 188 (LOC G i) [] := by
  refine l_ald1 C d_law_188 ?_
  refine l_arg C (j := 1) rfl (by decide) hi d_law_189 d_law_190 d_law_191 d_law_192 d_law_193 ?_
  refine l_arg C (j := 2) rfl (by decide) hi d_law_194 d_law_195 d_law_196 d_law_197 d_law_198 ?_
  refine l_arg C (j := 3) rfl (by decide) hi d_law_199 d_law_200 d_law_201 d_law_202 d_law_203 ?_
  show VL G M1 M2 204 (LOC G i) (List.reverse [.int (iI (zx G (i + 1))), .int (iI (zx G (i + 2))), .int (iI (zx G (i + 3)))] ++ .ref (G.1.2.2 0) :: [])
  refine l_callX C (As := [.int (iI (zx G (i + 1))), .int (iI (zx G (i + 2))), .int (iI (zx G (i + 3)))]) (st := []) (maxL := 6) (fr2 := 1) (lc2 := 22) (y := y_O_kind) (bytes := b_O_kind) rfl rfl k_223 k_226 k_224 (by decide) (Nat.le_of_ble_eq_true rfl) d_law_204 k_225 k_1 hd_O_kind (c_O_kind _ _ _ S h1 hO (zx G (i + 1)) (zx G (i + 2)) (zx G (i + 3)) (zx_r G _) (zx_r G _) (zx_r G _)) (fun v M1' h => ?_)
  obtain ⟨r1, rfl, hz1, hR1⟩ := h
  show VL G M1' M2 207 (LOC G i) [.int (iI r1)]
  refine l_ald2 C d_law_207 ?_
  refine l_arg C (j := 1) rfl (by decide) hi d_law_208 d_law_209 d_law_210 d_law_211 d_law_212 ?_
  refine l_arg C (j := 2) rfl (by decide) hi d_law_213 d_law_214 d_law_215 d_law_216 d_law_217 ?_
  refine l_arg C (j := 3) rfl (by decide) hi d_law_218 d_law_219 d_law_220 d_law_221 d_law_222 ?_
  show VL G M1' M2 223 (LOC G i) (List.reverse [.int (iI (zx G (i + 1))), .int (iI (zx G (i + 2))), .int (iI (zx G (i + 3)))] ++ .ref (G.2.1.2.2 0) :: [.int (iI r1)])
  refine l_callM C (As := [.int (iI (zx G (i + 1))), .int (iI (zx G (i + 2))), .int (iI (zx G (i + 3)))]) (st := [.int (iI r1)]) (maxL := 5) (fr2 := 1) (lc2 := 25) (y := y_M_kind) (bytes := b_M_kind) rfl rfl k_772 k_775 k_773 (by decide) (Nat.le_of_ble_eq_true rfl) d_law_223 k_774 k_6 hd_M_kind (c_M_kind _ _ _ S h2 hO (zx G (i + 1)) (zx G (i + 2)) (zx G (i + 3)) (zx_r G _) (zx_r G _) (zx_r G _)) (fun v M2' h => ?_)
  obtain ⟨r2, rfl, hz2, hR2⟩ := h
  show VL G M1' M2' 226 (LOC G i) [.int (iI r2), .int (iI r1)]
  exact l_eqI C (tgt := 1634) (hz1.trans hz2.symm) d_law_226 (by decide) (k _ _ _ (og_kind hO _ _ _) hR1 hR2)
theorem law_1 {G : zLG} (C : zLC G) {M1 M2 : zM} {S : zS} {i : Nat} (hi : i + 6 ≤ G.2.2.2.2.2.2.2.2.2.2.2.1) (hO : ok S) (h1 : RX S M1) (h2 : RM S M2) (k : zLk G i) : VL G M1 M2 231 (LOC G i) [] := by
  refine l_ald1 C d_law_231 ?_
  refine l_arg C (j := 1) rfl (by decide) hi d_law_232 d_law_233 d_law_234 d_law_235 d_law_236 ?_
  refine l_arg C (j := 2) rfl (by decide) hi d_law_237 d_law_238 d_law_239 d_law_240 d_law_241 ?_
  refine l_arg C (j := 3) rfl (by decide) hi d_law_242 d_law_243 d_law_244 d_law_245 d_law_246 ?_
  refine l_arg C (j := 4) rfl (by decide) hi d_law_247 d_law_248 d_law_249 d_law_250 d_law_251 ?_
  refine l_arg C (j := 5) rfl (by decide) hi d_law_252 d_law_253 d_law_254 d_law_255 d_law_256 ?_
  show VL G M1 M2 257 (LOC G i) (List.reverse [.int (iI (zx G (i + 1))), .int (iI (zx G (i + 2))), .int (iI (zx G (i + 3))), .int (iI (zx G (i + 4))), .int (iI (zx G (i + 5)))] ++ .ref (G.1.2.2 0) :: [])
  refine l_callX C (As := [.int (iI (zx G (i + 1))), .int (iI (zx G (i + 2))), .int (iI (zx G (i + 3))), .int (iI (zx G (i + 4))), .int (iI (zx G (i + 5)))]) (st := []) (maxL := 6) (fr2 := 3) (lc2 := 73) (y := y_O_beam) (bytes := b_O_beam) rfl rfl k_232 k_235 k_233 (by decide) (Nat.le_of_ble_eq_true rfl) d_law_257 k_234 k_1 hd_O_beam (c_O_beam _ _ _ S h1 hO (zx G (i + 1)) (zx G (i + 2)) (zx G (i + 3)) (zx G (i + 4)) (zx G (i + 5)) (zx_r G _) (zx_r G _) (zx_r G _) (zx_r G _) (zx_r G _)) (fun v M1' h => ?_)
  obtain ⟨r1, rfl, hz1, hR1⟩ := h
  show VL G M1' M2 260 (LOC G i) [.int (iI r1)]
  refine l_ald2 C d_law_260 ?_
  refine l_arg C (j := 1) rfl (by decide) hi d_law_261 d_law_262 d_law_263 d_law_264 d_law_265 ?_
  refine l_arg C (j := 2) rfl (by decide) hi d_law_266 d_law_267 d_law_268 d_law_269 d_law_270 ?_
  refine l_arg C (j := 3) rfl (by decide) hi d_law_271 d_law_272 d_law_273 d_law_274 d_law_275 ?_
  refine l_arg C (j := 4) rfl (by decide) hi d_law_276 d_law_277 d_law_278 d_law_279 d_law_280 ?_
  refine l_arg C (j := 5) rfl (by decide) hi d_law_281 d_law_282 d_law_283 d_law_284 d_law_285 ?_
  show VL G M1' M2 286 (LOC G i) (List.reverse [.int (iI (zx G (i + 1))), .int (iI (zx G (i + 2))), .int (iI (zx G (i + 3))), .int (iI (zx G (i + 4))), .int (iI (zx G (i + 5)))] ++ .ref (G.2.1.2.2 0) :: [.int (iI r1)])
  refine l_callM C (As := [.int (iI (zx G (i + 1))), .int (iI (zx G (i + 2))), .int (iI (zx G (i + 3))), .int (iI (zx G (i + 4))), .int (iI (zx G (i + 5)))]) (st := [.int (iI r1)]) (maxL := 7) (fr2 := 2) (lc2 := 45) (y := y_M_beam) (bytes := b_M_beam) rfl rfl k_785 k_788 k_786 (by decide) (Nat.le_of_ble_eq_true rfl) d_law_286 k_787 k_6 hd_M_beam (c_M_beam _ _ _ S h2 hO (zx G (i + 1)) (zx G (i + 2)) (zx G (i + 3)) (zx G (i + 4)) (zx G (i + 5)) (zx_r G _) (zx_r G _) (zx_r G _) (zx_r G _) (zx_r G _)) (fun v M2' h => ?_)
  obtain ⟨r2, rfl, hz2, hR2⟩ := h
  show VL G M1' M2' 289 (LOC G i) [.int (iI r2), .int (iI r1)]
  exact l_eqI C (tgt := 1634) (hz1.trans hz2.symm) d_law_289 (by decide) (k _ _ _ (og_beam hO _ _ _ _ _) hR1 hR2)
theorem law_2 {G : zLG} (C : zLC G) {M1 M2 : zM} {S : zS} {i : Nat} (hi : i + 6 ≤ G.2.2.2.2.2.2.2.2.2.2.2.1) (hO : ok S) (h1 : RX S M1) (h2 : RM S M2) (k : zLk G i) : VL G M1 M2 294 (LOC G i) [] := by
  refine l_ald1 C d_law_294 ?_
  refine l_arg C (j := 1) rfl (by decide) hi d_law_295 d_law_296 d_law_297 d_law_298 d_law_299 ?_
  refine l_arg C (j := 2) rfl (by decide) hi d_law_300 d_law_301 d_law_302 d_law_303 d_law_304 ?_
  refine l_arg C (j := 3) rfl (by decide) hi d_law_305 d_law_306 d_law_307 d_law_308 d_law_309 ?_
  refine l_arg C (j := 4) rfl (by decide) hi d_law_310 d_law_311 d_law_312 d_law_313 d_law_314 ?_
  refine l_arg C (j := 5) rfl (by decide) hi d_law_315 d_law_316 d_law_317 d_law_318 d_law_319 ?_
  show VL G M1 M2 320 (LOC G i) (List.reverse [.int (iI (zx G (i + 1))), .int (iI (zx G (i + 2))), .int (iI (zx G (i + 3))), .int (iI (zx G (i + 4))), .int (iI (zx G (i + 5)))] ++ .ref (G.1.2.2 0) :: [])
  refine l_callX C (As := [.int (iI (zx G (i + 1))), .int (iI (zx G (i + 2))), .int (iI (zx G (i + 3))), .int (iI (zx G (i + 4))), .int (iI (zx G (i + 5)))]) (st := []) (maxL := 8) (fr2 := 3) (lc2 := 65) (y := y_O_seat) (bytes := b_O_seat) rfl rfl k_253 k_256 k_254 (by decide) (Nat.le_of_ble_eq_true rfl) d_law_320 k_255 k_1 hd_O_seat (c_O_seat _ _ _ S h1 hO (zx G (i + 1)) (zx G (i + 2)) (zx G (i + 3)) (zx G (i + 4)) (zx G (i + 5)) (zx_r G _) (zx_r G _) (zx_r G _) (zx_r G _) (zx_r G _)) (fun v M1' h => ?_)
  obtain ⟨r1, rfl, hz1, hR1⟩ := h
  show VL G M1' M2 323 (LOC G i) [.int (iI r1)]
  refine l_ald2 C d_law_323 ?_
  refine l_arg C (j := 1) rfl (by decide) hi d_law_324 d_law_325 d_law_326 d_law_327 d_law_328 ?_
  refine l_arg C (j := 2) rfl (by decide) hi d_law_329 d_law_330 d_law_331 d_law_332 d_law_333 ?_
  refine l_arg C (j := 3) rfl (by decide) hi d_law_334 d_law_335 d_law_336 d_law_337 d_law_338 ?_
  refine l_arg C (j := 4) rfl (by decide) hi d_law_339 d_law_340 d_law_341 d_law_342 d_law_343 ?_
  refine l_arg C (j := 5) rfl (by decide) hi d_law_344 d_law_345 d_law_346 d_law_347 d_law_348 ?_
  show VL G M1' M2 349 (LOC G i) (List.reverse [.int (iI (zx G (i + 1))), .int (iI (zx G (i + 2))), .int (iI (zx G (i + 3))), .int (iI (zx G (i + 4))), .int (iI (zx G (i + 5)))] ++ .ref (G.2.1.2.2 0) :: [.int (iI r1)])
  refine l_callM C (As := [.int (iI (zx G (i + 1))), .int (iI (zx G (i + 2))), .int (iI (zx G (i + 3))), .int (iI (zx G (i + 4))), .int (iI (zx G (i + 5)))]) (st := [.int (iI r1)]) (maxL := 10) (fr2 := 2) (lc2 := 46) (y := y_M_seat) (bytes := b_M_seat) rfl rfl k_797 k_800 k_798 (by decide) (Nat.le_of_ble_eq_true rfl) d_law_349 k_799 k_6 hd_M_seat (c_M_seat _ _ _ S h2 hO (zx G (i + 1)) (zx G (i + 2)) (zx G (i + 3)) (zx G (i + 4)) (zx G (i + 5)) (zx_r G _) (zx_r G _) (zx_r G _) (zx_r G _) (zx_r G _)) (fun v M2' h => ?_)
  obtain ⟨r2, rfl, hz2, hR2⟩ := h
  show VL G M1' M2' 352 (LOC G i) [.int (iI r2), .int (iI r1)]
  exact l_eqI C (tgt := 1634) (hz1.trans hz2.symm) d_law_352 (by decide) (k _ _ _ (og_seat hO _ _ _ _ _) hR1 hR2)
theorem law_3 {G : zLG} (C : zLC G) {M1 M2 : zM} {S : zS} {i : Nat} (hi : i + 6 ≤ G.2.2.2.2.2.2.2.2.2.2.2.1) (hO : ok S) (h1 : RX S M1) (h2 : RM S M2) (k : zLk G i) : VL G M1 M2 357 (LOC G i) [] := by
  refine l_ald1 C d_law_357 ?_
  refine l_arg C (j := 1) rfl (by decide) hi d_law_358 d_law_359 d_law_360 d_law_361 d_law_362 ?_
  refine l_arg C (j := 2) rfl (by decide) hi d_law_363 d_law_364 d_law_365 d_law_366 d_law_367 ?_
  show VL G M1 M2 368 (LOC G i) (List.reverse [.int (iI (zx G (i + 1))), .int (iI (zx G (i + 2)))] ++ .ref (G.1.2.2 0) :: [])
  refine l_callX C (As := [.int (iI (zx G (i + 1))), .int (iI (zx G (i + 2)))]) (st := []) (maxL := 4) (fr2 := 4) (lc2 := 87) (y := y_O_about) (bytes := b_O_about) rfl rfl k_274 k_277 k_275 (by decide) (Nat.le_of_ble_eq_true rfl) d_law_368 k_276 k_1 hd_O_about (c_O_about _ _ _ S h1 hO (zx G (i + 1)) (zx G (i + 2)) (zx_r G _) (zx_r G _)) (fun v M1' h => ?_)
  obtain ⟨r1, rfl, hz1, hR1⟩ := h
  show VL G M1' M2 371 (LOC G i) [.int (iI r1)]
  refine l_ald2 C d_law_371 ?_
  refine l_arg C (j := 1) rfl (by decide) hi d_law_372 d_law_373 d_law_374 d_law_375 d_law_376 ?_
  refine l_arg C (j := 2) rfl (by decide) hi d_law_377 d_law_378 d_law_379 d_law_380 d_law_381 ?_
  show VL G M1' M2 382 (LOC G i) (List.reverse [.int (iI (zx G (i + 1))), .int (iI (zx G (i + 2)))] ++ .ref (G.2.1.2.2 0) :: [.int (iI r1)])
  refine l_callM C (As := [.int (iI (zx G (i + 1))), .int (iI (zx G (i + 2)))]) (st := [.int (iI r1)]) (maxL := 3) (fr2 := 4) (lc2 := 92) (y := y_M_about) (bytes := b_M_about) rfl rfl k_806 k_809 k_807 (by decide) (Nat.le_of_ble_eq_true rfl) d_law_382 k_808 k_6 hd_M_about (c_M_about _ _ _ S h2 hO (zx G (i + 1)) (zx G (i + 2)) (zx_r G _) (zx_r G _)) (fun v M2' h => ?_)
  obtain ⟨r2, rfl, hz2, hR2⟩ := h
  show VL G M1' M2' 385 (LOC G i) [.int (iI r2), .int (iI r1)]
  exact l_eqI C (tgt := 1634) (hz1.trans hz2.symm) d_law_385 (by decide) (k _ _ _ hO hR1 hR2)
theorem law_4 {G : zLG} (C : zLC G) {M1 M2 : zM} {S : zS} {i : Nat} (hi : i + 6 ≤ G.2.2.2.2.2.2.2.2.2.2.2.1) (hO : ok S) (h1 : RX S M1) (h2 : RM S M2) (k : zLk G i) : VL G M1 M2 390 (LOC G i) [] := by
  refine l_ald1 C d_law_390 ?_
  refine l_arg C (j := 1) rfl (by decide) hi d_law_391 d_law_392 d_law_393 d_law_394 d_law_395 ?_
  refine l_arg C (j := 2) rfl (by decide) hi d_law_396 d_law_397 d_law_398 d_law_399 d_law_400 ?_
  refine l_bool C (zx_r G _) d_law_401 rfl d_law_404 d_law_405 rfl d_law_408 ?_
  show VL G M1 M2 409 (LOC G i) (List.reverse [.int (iI (zx G (i + 1))), .int (iI (if zx G (i + 2) = 0 then 0 else 1))] ++ .ref (G.1.2.2 0) :: [])
  refine l_callX C (As := [.int (iI (zx G (i + 1))), .int (iI (if zx G (i + 2) = 0 then 0 else 1))]) (st := []) (maxL := 5) (fr2 := 2) (lc2 := 43) (y := y_O_wet) (bytes := b_O_wet) rfl rfl k_300 k_303 k_301 (by decide) (Nat.le_of_ble_eq_true rfl) d_law_409 k_302 k_1 hd_O_wet (c_O_wet _ _ _ S h1 hO (zx G (i + 1)) (if zx G (i + 2) = 0 then 0 else 1) (zx_r G _) (zb01 _)) (fun v M1' h => ?_)
  obtain ⟨r1, rfl, hz1, hR1⟩ := h
  show VL G M1' M2 412 (LOC G i) [.int (iI r1)]
  refine l_ald2 C d_law_412 ?_
  refine l_arg C (j := 1) rfl (by decide) hi d_law_413 d_law_414 d_law_415 d_law_416 d_law_417 ?_
  refine l_arg C (j := 2) rfl (by decide) hi d_law_418 d_law_419 d_law_420 d_law_421 d_law_422 ?_
  refine l_bool C (zx_r G _) d_law_423 rfl d_law_426 d_law_427 rfl d_law_430 ?_
  show VL G M1' M2 431 (LOC G i) (List.reverse [.int (iI (zx G (i + 1))), .int (iI (if zx G (i + 2) = 0 then 0 else 1))] ++ .ref (G.2.1.2.2 0) :: [.int (iI r1)])
  refine l_callM C (As := [.int (iI (zx G (i + 1))), .int (iI (if zx G (i + 2) = 0 then 0 else 1))]) (st := [.int (iI r1)]) (maxL := 4) (fr2 := 2) (lc2 := 46) (y := y_M_wet) (bytes := b_M_wet) rfl rfl k_845 k_848 k_846 (by decide) (Nat.le_of_ble_eq_true rfl) d_law_431 k_847 k_6 hd_M_wet (c_M_wet _ _ _ S h2 hO (zx G (i + 1)) (if zx G (i + 2) = 0 then 0 else 1) (zx_r G _) (zb01 _)) (fun v M2' h => ?_)
  obtain ⟨r2, rfl, hz2, hR2⟩ := h
  show VL G M1' M2' 434 (LOC G i) [.int (iI r2), .int (iI r1)]
  exact l_eqI C (tgt := 1634) (hz1.trans hz2.symm) d_law_434 (by decide) (k _ _ _ (og_wet hO _ _ (zb01 _)) hR1 hR2)
theorem law_5 {G : zLG} (C : zLC G) {M1 M2 : zM} {S : zS} {i : Nat} (hi : i + 6 ≤ G.2.2.2.2.2.2.2.2.2.2.2.1) (hO : ok S) (h1 : RX S M1) (h2 : RM S M2) (k : zLk G i) : VL G M1 M2 439 (LOC G i) [] := by
  refine l_ald1 C d_law_439 ?_
  refine l_arg C (j := 1) rfl (by decide) hi d_law_440 d_law_441 d_law_442 d_law_443 d_law_444 ?_
  refine l_arg C (j := 2) rfl (by decide) hi d_law_445 d_law_446 d_law_447 d_law_448 d_law_449 ?_
  refine l_arg C (j := 3) rfl (by decide) hi d_law_450 d_law_451 d_law_452 d_law_453 d_law_454 ?_
  show VL G M1 M2 455 (LOC G i) (List.reverse [.int (iI (zx G (i + 1))), .int (iI (zx G (i + 2))), .int (iI (zx G (i + 3)))] ++ .ref (G.1.2.2 0) :: [])
  refine l_callX C (As := [.int (iI (zx G (i + 1))), .int (iI (zx G (i + 2))), .int (iI (zx G (i + 3)))]) (st := []) (maxL := 4) (fr2 := 3) (lc2 := 65) (y := y_O_load) (bytes := b_O_load) rfl rfl k_304 k_307 k_305 (by decide) (Nat.le_of_ble_eq_true rfl) d_law_455 k_306 k_1 hd_O_load (c_O_load _ _ _ S h1 hO (zx G (i + 1)) (zx G (i + 2)) (zx G (i + 3)) (zx_r G _) (zx_r G _) (zx_r G _)) (fun v M1' h => ?_)
  obtain ⟨r1, rfl, hz1, hR1⟩ := h
  show VL G M1' M2 458 (LOC G i) [.int (iI r1)]
  refine l_ald2 C d_law_458 ?_
  refine l_arg C (j := 1) rfl (by decide) hi d_law_459 d_law_460 d_law_461 d_law_462 d_law_463 ?_
  refine l_arg C (j := 2) rfl (by decide) hi d_law_464 d_law_465 d_law_466 d_law_467 d_law_468 ?_
  refine l_arg C (j := 3) rfl (by decide) hi d_law_469 d_law_470 d_law_471 d_law_472 d_law_473 ?_
  show VL G M1' M2 474 (LOC G i) (List.reverse [.int (iI (zx G (i + 1))), .int (iI (zx G (i + 2))), .int (iI (zx G (i + 3)))] ++ .ref (G.2.1.2.2 0) :: [.int (iI r1)])
  refine l_callM C (As := [.int (iI (zx G (i + 1))), .int (iI (zx G (i + 2))), .int (iI (zx G (i + 3)))]) (st := [.int (iI r1)]) (maxL := 4) (fr2 := 2) (lc2 := 46) (y := y_M_load) (bytes := b_M_load) rfl rfl k_849 k_852 k_850 (by decide) (Nat.le_of_ble_eq_true rfl) d_law_474 k_851 k_6 hd_M_load (c_M_load _ _ _ S h2 hO (zx G (i + 1)) (zx G (i + 2)) (zx G (i + 3)) (zx_r G _) (zx_r G _) (zx_r G _)) (fun v M2' h => ?_)
  obtain ⟨r2, rfl, hz2, hR2⟩ := h
  show VL G M1' M2' 477 (LOC G i) [.int (iI r2), .int (iI r1)]
  exact l_eqI C (tgt := 1634) (hz1.trans hz2.symm) d_law_477 (by decide) (k _ _ _ (og_load hO _ _ _) hR1 hR2)
theorem law_6 {G : zLG} (C : zLC G) {M1 M2 : zM} {S : zS} {i : Nat} (hi : i + 6 ≤ G.2.2.2.2.2.2.2.2.2.2.2.1) (hO : ok S) (h1 : RX S M1) (h2 : RM S M2) (k : zLk G i) : VL G M1 M2 482 (LOC G i) [] := by
  refine l_ald1 C d_law_482 ?_
  refine l_arg C (j := 1) rfl (by decide) hi d_law_483 d_law_484 d_law_485 d_law_486 d_law_487 ?_
  show VL G M1 M2 488 (LOC G i) (List.reverse [.int (iI (zx G (i + 1)))] ++ .ref (G.1.2.2 0) :: [])
  refine l_callX C (As := [.int (iI (zx G (i + 1)))]) (st := []) (maxL := 2) (fr2 := 1) (lc2 := 22) (y := y_O_takeOff) (bytes := b_O_takeOff) rfl rfl k_312 k_315 k_313 (by decide) (Nat.le_of_ble_eq_true rfl) d_law_488 k_314 k_1 hd_O_takeOff (c_O_takeOff _ _ _ S h1 hO (zx G (i + 1)) (zx_r G _)) (fun v M1' h => ?_)
  obtain ⟨r1, rfl, hz1, hR1⟩ := h
  show VL G M1' M2 491 (LOC G i) [.int (iI r1)]
  refine l_ald2 C d_law_491 ?_
  refine l_arg C (j := 1) rfl (by decide) hi d_law_492 d_law_493 d_law_494 d_law_495 d_law_496 ?_
  show VL G M1' M2 497 (LOC G i) (List.reverse [.int (iI (zx G (i + 1)))] ++ .ref (G.2.1.2.2 0) :: [.int (iI r1)])
  refine l_callM C (As := [.int (iI (zx G (i + 1)))]) (st := [.int (iI r1)]) (maxL := 2) (fr2 := 1) (lc2 := 25) (y := y_M_takeOff) (bytes := b_M_takeOff) rfl rfl k_854 k_857 k_855 (by decide) (Nat.le_of_ble_eq_true rfl) d_law_497 k_856 k_6 hd_M_takeOff (c_M_takeOff _ _ _ S h2 hO (zx G (i + 1)) (zx_r G _)) (fun v M2' h => ?_)
  obtain ⟨r2, rfl, hz2, hR2⟩ := h
  show VL G M1' M2' 500 (LOC G i) [.int (iI r2), .int (iI r1)]
  exact l_eqI C (tgt := 1634) (hz1.trans hz2.symm) d_law_500 (by decide) (k _ _ _ (og_off hO _) hR1 hR2)
theorem law_7 {G : zLG} (C : zLC G) {M1 M2 : zM} {S : zS} {i : Nat} (hi : i + 6 ≤ G.2.2.2.2.2.2.2.2.2.2.2.1) (hO : ok S) (h1 : RX S M1) (h2 : RM S M2) (k : zLk G i) : VL G M1 M2 505 (LOC G i) [] := by
  refine l_ald1 C d_law_505 ?_
  refine l_arg C (j := 1) rfl (by decide) hi d_law_506 d_law_507 d_law_508 d_law_509 d_law_510 ?_
  show VL G M1 M2 511 (LOC G i) (List.reverse [.int (iI (zx G (i + 1)))] ++ .ref (G.1.2.2 0) :: [])
  refine l_callX C (As := [.int (iI (zx G (i + 1)))]) (st := []) (maxL := 2) (fr2 := 3) (lc2 := 66) (y := y_O_fall) (bytes := b_O_fall) rfl rfl k_320 k_323 k_321 (by decide) (Nat.le_of_ble_eq_true rfl) d_law_511 k_322 k_1 hd_O_fall (c_O_fall _ _ _ S h1 hO (zx G (i + 1)) (zx_r G _)) (fun v M1' h => ?_)
  obtain ⟨r1, rfl, hz1, hR1⟩ := h
  show VL G M1' M2 514 (LOC G i) [.int (iI r1)]
  refine l_ald2 C d_law_514 ?_
  refine l_arg C (j := 1) rfl (by decide) hi d_law_515 d_law_516 d_law_517 d_law_518 d_law_519 ?_
  show VL G M1' M2 520 (LOC G i) (List.reverse [.int (iI (zx G (i + 1)))] ++ .ref (G.2.1.2.2 0) :: [.int (iI r1)])
  refine l_callM C (As := [.int (iI (zx G (i + 1)))]) (st := [.int (iI r1)]) (maxL := 2) (fr2 := 4) (lc2 := 92) (y := y_M_fall) (bytes := b_M_fall) rfl rfl k_866 k_869 k_867 (by decide) (Nat.le_of_ble_eq_true rfl) d_law_520 k_868 k_6 hd_M_fall (c_M_fall _ _ _ S h2 hO (zx G (i + 1)) (zx_r G _)) (fun v M2' h => ?_)
  obtain ⟨r2, rfl, hz2, hR2⟩ := h
  show VL G M1' M2' 523 (LOC G i) [.int (iI r2), .int (iI r1)]
  exact l_eqI C (tgt := 1634) (hz1.trans hz2.symm) d_law_523 (by decide) (k _ _ _ (og_fall hO _) hR1 hR2)
theorem law_8 {G : zLG} (C : zLC G) {M1 M2 : zM} {S : zS} {i : Nat} (hi : i + 6 ≤ G.2.2.2.2.2.2.2.2.2.2.2.1) (hO : ok S) (h1 : RX S M1) (h2 : RM S M2) (k : zLk G i) : VL G M1 M2 528 (LOC G i) [] := by
  refine l_ald1 C d_law_528 ?_
  refine l_arg C (j := 1) rfl (by decide) hi d_law_529 d_law_530 d_law_531 d_law_532 d_law_533 ?_
  refine l_arg C (j := 2) rfl (by decide) hi d_law_534 d_law_535 d_law_536 d_law_537 d_law_538 ?_
  show VL G M1 M2 539 (LOC G i) (List.reverse [.int (iI (zx G (i + 1))), .int (iI (zx G (i + 2)))] ++ .ref (G.1.2.2 0) :: [])
  refine l_callX C (As := [.int (iI (zx G (i + 1))), .int (iI (zx G (i + 2)))]) (st := []) (maxL := 4) (fr2 := 5) (lc2 := 125) (y := y_O_push) (bytes := b_O_push) rfl rfl k_332 k_335 k_333 (by decide) (Nat.le_of_ble_eq_true rfl) d_law_539 k_334 k_1 hd_O_push (c_O_push _ _ _ S h1 hO (zx G (i + 1)) (zx G (i + 2)) (zx_r G _) (zx_r G _)) (fun v M1' h => ?_)
  obtain ⟨r1, rfl, hz1, hR1⟩ := h
  show VL G M1' M2 542 (LOC G i) [.long r1]
  refine l_ald2 C d_law_542 ?_
  refine l_arg C (j := 1) rfl (by decide) hi d_law_543 d_law_544 d_law_545 d_law_546 d_law_547 ?_
  refine l_arg C (j := 2) rfl (by decide) hi d_law_548 d_law_549 d_law_550 d_law_551 d_law_552 ?_
  show VL G M1' M2 553 (LOC G i) (List.reverse [.int (iI (zx G (i + 1))), .int (iI (zx G (i + 2)))] ++ .ref (G.2.1.2.2 0) :: [.long r1])
  refine l_callM C (As := [.int (iI (zx G (i + 1))), .int (iI (zx G (i + 2)))]) (st := [.long r1]) (maxL := 4) (fr2 := 5) (lc2 := 114) (y := y_M_push) (bytes := b_M_push) rfl rfl k_874 k_877 k_875 (by decide) (Nat.le_of_ble_eq_true rfl) d_law_553 k_876 k_6 hd_M_push (c_M_push _ _ _ S h2 hO (zx G (i + 1)) (zx G (i + 2)) (zx_r G _) (zx_r G _)) (fun v M2' h => ?_)
  obtain ⟨r2, rfl, hz2, hR2⟩ := h
  show VL G M1' M2' 556 (LOC G i) [.long r2, .long r1]
  exact l_eqJ C (tgt := 1634) (hz1.trans hz2.symm) d_law_556 d_law_557 (by decide) (k _ _ _ hO hR1 hR2)
theorem law_9 {G : zLG} (C : zLC G) {M1 M2 : zM} {S : zS} {i : Nat} (hi : i + 6 ≤ G.2.2.2.2.2.2.2.2.2.2.2.1) (hO : ok S) (h1 : RX S M1) (h2 : RM S M2) (k : zLk G i) : VL G M1 M2 562 (LOC G i) [] := by
  refine l_ald1 C d_law_562 ?_
  refine l_arg C (j := 1) rfl (by decide) hi d_law_563 d_law_564 d_law_565 d_law_566 d_law_567 ?_
  refine l_arg C (j := 2) rfl (by decide) hi d_law_568 d_law_569 d_law_570 d_law_571 d_law_572 ?_
  show VL G M1 M2 573 (LOC G i) (List.reverse [.int (iI (zx G (i + 1))), .int (iI (zx G (i + 2)))] ++ .ref (G.1.2.2 0) :: [])
  refine l_callX C (As := [.int (iI (zx G (i + 1))), .int (iI (zx G (i + 2)))]) (st := []) (maxL := 4) (fr2 := 5) (lc2 := 125) (y := y_O_bending) (bytes := b_O_bending) rfl rfl k_380 k_383 k_381 (by decide) (Nat.le_of_ble_eq_true rfl) d_law_573 k_382 k_1 hd_O_bending (c_O_bending _ _ _ S h1 hO (zx G (i + 1)) (zx G (i + 2)) (zx_r G _) (zx_r G _)) (fun v M1' h => ?_)
  obtain ⟨r1, rfl, hz1, hR1⟩ := h
  show VL G M1' M2 576 (LOC G i) [.long r1]
  refine l_ald2 C d_law_576 ?_
  refine l_arg C (j := 1) rfl (by decide) hi d_law_577 d_law_578 d_law_579 d_law_580 d_law_581 ?_
  refine l_arg C (j := 2) rfl (by decide) hi d_law_582 d_law_583 d_law_584 d_law_585 d_law_586 ?_
  show VL G M1' M2 587 (LOC G i) (List.reverse [.int (iI (zx G (i + 1))), .int (iI (zx G (i + 2)))] ++ .ref (G.2.1.2.2 0) :: [.long r1])
  refine l_callM C (As := [.int (iI (zx G (i + 1))), .int (iI (zx G (i + 2)))]) (st := [.long r1]) (maxL := 4) (fr2 := 5) (lc2 := 114) (y := y_M_bending) (bytes := b_M_bending) rfl rfl k_882 k_885 k_883 (by decide) (Nat.le_of_ble_eq_true rfl) d_law_587 k_884 k_6 hd_M_bending (c_M_bending _ _ _ S h2 hO (zx G (i + 1)) (zx G (i + 2)) (zx_r G _) (zx_r G _)) (fun v M2' h => ?_)
  obtain ⟨r2, rfl, hz2, hR2⟩ := h
  show VL G M1' M2' 590 (LOC G i) [.long r2, .long r1]
  exact l_eqJ C (tgt := 1634) (hz1.trans hz2.symm) d_law_590 d_law_591 (by decide) (k _ _ _ hO hR1 hR2)
theorem law_10 {G : zLG} (C : zLC G) {M1 M2 : zM} {S : zS} {i : Nat} (hi : i + 6 ≤ G.2.2.2.2.2.2.2.2.2.2.2.1) (hO : ok S) (h1 : RX S M1) (h2 : RM S M2) (k : zLk G i) : VL G M1 M2 596 (LOC G i) [] := by
  refine l_ald1 C d_law_596 ?_
  refine l_arg C (j := 1) rfl (by decide) hi d_law_597 d_law_598 d_law_599 d_law_600 d_law_601 ?_
  refine l_arg C (j := 2) rfl (by decide) hi d_law_602 d_law_603 d_law_604 d_law_605 d_law_606 ?_
  refine l_bool C (zx_r G _) d_law_607 rfl d_law_610 d_law_611 rfl d_law_614 ?_
  show VL G M1 M2 615 (LOC G i) (List.reverse [.int (iI (zx G (i + 1))), .int (iI (if zx G (i + 2) = 0 then 0 else 1))] ++ .ref (G.1.2.2 0) :: [])
  refine l_callX C (As := [.int (iI (zx G (i + 1))), .int (iI (if zx G (i + 2) = 0 then 0 else 1))]) (st := []) (maxL := 5) (fr2 := 5) (lc2 := 125) (y := y_O_greatest) (bytes := b_O_greatest) rfl rfl k_388 k_391 k_389 (by decide) (Nat.le_of_ble_eq_true rfl) d_law_615 k_390 k_1 hd_O_greatest (c_O_greatest _ _ _ S h1 hO (zx G (i + 1)) (if zx G (i + 2) = 0 then 0 else 1) (zx_r G _) (zb01 _)) (fun v M1' h => ?_)
  obtain ⟨r1, rfl, hz1, hR1⟩ := h
  show VL G M1' M2 618 (LOC G i) [.long r1]
  refine l_ald2 C d_law_618 ?_
  refine l_arg C (j := 1) rfl (by decide) hi d_law_619 d_law_620 d_law_621 d_law_622 d_law_623 ?_
  refine l_arg C (j := 2) rfl (by decide) hi d_law_624 d_law_625 d_law_626 d_law_627 d_law_628 ?_
  refine l_bool C (zx_r G _) d_law_629 rfl d_law_632 d_law_633 rfl d_law_636 ?_
  show VL G M1' M2 637 (LOC G i) (List.reverse [.int (iI (zx G (i + 1))), .int (iI (if zx G (i + 2) = 0 then 0 else 1))] ++ .ref (G.2.1.2.2 0) :: [.long r1])
  refine l_callM C (As := [.int (iI (zx G (i + 1))), .int (iI (if zx G (i + 2) = 0 then 0 else 1))]) (st := [.long r1]) (maxL := 4) (fr2 := 5) (lc2 := 114) (y := y_M_greatest) (bytes := b_M_greatest) rfl rfl k_886 k_889 k_887 (by decide) (Nat.le_of_ble_eq_true rfl) d_law_637 k_888 k_6 hd_M_greatest (c_M_greatest _ _ _ S h2 hO (zx G (i + 1)) (if zx G (i + 2) = 0 then 0 else 1) (zx_r G _) (zb01 _)) (fun v M2' h => ?_)
  obtain ⟨r2, rfl, hz2, hR2⟩ := h
  show VL G M1' M2' 640 (LOC G i) [.long r2, .long r1]
  exact l_eqJ C (tgt := 1634) (hz1.trans hz2.symm) d_law_640 d_law_641 (by decide) (k _ _ _ hO hR1 hR2)
theorem law_11 {G : zLG} (C : zLC G) {M1 M2 : zM} {S : zS} {i : Nat} (hi : i + 6 ≤ G.2.2.2.2.2.2.2.2.2.2.2.1) (hO : ok S) (h1 : RX S M1) (h2 : RM S M2) (k : zLk G i) : VL G M1 M2 646 (LOC G i) [] := by
  refine l_ald1 C d_law_646 ?_
  refine l_arg C (j := 1) rfl (by decide) hi d_law_647 d_law_648 d_law_649 d_law_650 d_law_651 ?_
  show VL G M1 M2 652 (LOC G i) (List.reverse [.int (iI (zx G (i + 1)))] ++ .ref (G.1.2.2 0) :: [])
  refine l_callX C (As := [.int (iI (zx G (i + 1)))]) (st := []) (maxL := 3) (fr2 := 5) (lc2 := 125) (y := y_O_lifts) (bytes := b_O_lifts) rfl rfl k_392 k_395 k_393 (by decide) (Nat.le_of_ble_eq_true rfl) d_law_652 k_394 k_1 hd_O_lifts (c_O_lifts _ _ _ S h1 hO (zx G (i + 1)) (zx_r G _)) (fun v M1' h => ?_)
  obtain ⟨r1, rfl, hz1, hR1⟩ := h
  show VL G M1' M2 655 (LOC G i) [.int (iI r1)]
  refine l_ald2 C d_law_655 ?_
  refine l_arg C (j := 1) rfl (by decide) hi d_law_656 d_law_657 d_law_658 d_law_659 d_law_660 ?_
  show VL G M1' M2 661 (LOC G i) (List.reverse [.int (iI (zx G (i + 1)))] ++ .ref (G.2.1.2.2 0) :: [.int (iI r1)])
  refine l_callM C (As := [.int (iI (zx G (i + 1)))]) (st := [.int (iI r1)]) (maxL := 3) (fr2 := 5) (lc2 := 114) (y := y_M_lifts) (bytes := b_M_lifts) rfl rfl k_890 k_893 k_891 (by decide) (Nat.le_of_ble_eq_true rfl) d_law_661 k_892 k_6 hd_M_lifts (c_M_lifts _ _ _ S h2 hO (zx G (i + 1)) (zx_r G _)) (fun v M2' h => ?_)
  obtain ⟨r2, rfl, hz2, hR2⟩ := h
  show VL G M1' M2' 664 (LOC G i) [.int (iI r2), .int (iI r1)]
  exact l_eqI C (tgt := 1634) (hz1.trans hz2.symm) d_law_664 (by decide) (k _ _ _ hO hR1 hR2)
theorem law_12 {G : zLG} (C : zLC G) {M1 M2 : zM} {S : zS} {i : Nat} (hi : i + 6 ≤ G.2.2.2.2.2.2.2.2.2.2.2.1) (hO : ok S) (h1 : RX S M1) (h2 : RM S M2) (k : zLk G i) : VL G M1 M2 669 (LOC G i) [] := by
  refine l_ald1 C d_law_669 ?_
  refine l_arg C (j := 1) rfl (by decide) hi d_law_670 d_law_671 d_law_672 d_law_673 d_law_674 ?_
  refine l_arg C (j := 2) rfl (by decide) hi d_law_675 d_law_676 d_law_677 d_law_678 d_law_679 ?_
  show VL G M1 M2 680 (LOC G i) (List.reverse [.int (iI (zx G (i + 1))), .int (iI (zx G (i + 2)))] ++ .ref (G.1.2.2 0) :: [])
  refine l_callX C (As := [.int (iI (zx G (i + 1))), .int (iI (zx G (i + 2)))]) (st := []) (maxL := 4) (fr2 := 5) (lc2 := 125) (y := y_O_holds) (bytes := b_O_holds) rfl rfl k_400 k_403 k_401 (by decide) (Nat.le_of_ble_eq_true rfl) d_law_680 k_402 k_1 hd_O_holds (c_O_holds _ _ _ S h1 hO (zx G (i + 1)) (zx G (i + 2)) (zx_r G _) (zx_r G _)) (fun v M1' h => ?_)
  obtain ⟨r1, rfl, hz1, hR1⟩ := h
  show VL G M1' M2 683 (LOC G i) [.int (iI r1)]
  refine l_ald2 C d_law_683 ?_
  refine l_arg C (j := 1) rfl (by decide) hi d_law_684 d_law_685 d_law_686 d_law_687 d_law_688 ?_
  refine l_arg C (j := 2) rfl (by decide) hi d_law_689 d_law_690 d_law_691 d_law_692 d_law_693 ?_
  show VL G M1' M2 694 (LOC G i) (List.reverse [.int (iI (zx G (i + 1))), .int (iI (zx G (i + 2)))] ++ .ref (G.2.1.2.2 0) :: [.int (iI r1)])
  refine l_callM C (As := [.int (iI (zx G (i + 1))), .int (iI (zx G (i + 2)))]) (st := [.int (iI r1)]) (maxL := 4) (fr2 := 5) (lc2 := 114) (y := y_M_holds) (bytes := b_M_holds) rfl rfl k_898 k_901 k_899 (by decide) (Nat.le_of_ble_eq_true rfl) d_law_694 k_900 k_6 hd_M_holds (c_M_holds _ _ _ S h2 hO (zx G (i + 1)) (zx G (i + 2)) (zx_r G _) (zx_r G _)) (fun v M2' h => ?_)
  obtain ⟨r2, rfl, hz2, hR2⟩ := h
  show VL G M1' M2' 697 (LOC G i) [.int (iI r2), .int (iI r1)]
  exact l_eqI C (tgt := 1634) (hz1.trans hz2.symm) d_law_697 (by decide) (k _ _ _ hO hR1 hR2)
theorem law_13 {G : zLG} (C : zLC G) {M1 M2 : zM} {S : zS} {i : Nat} (hi : i + 6 ≤ G.2.2.2.2.2.2.2.2.2.2.2.1) (hO : ok S) (h1 : RX S M1) (h2 : RM S M2) (k : zLk G i) : VL G M1 M2 702 (LOC G i) [] := by
  refine l_ald1 C d_law_702 ?_
  refine l_arg C (j := 1) rfl (by decide) hi d_law_703 d_law_704 d_law_705 d_law_706 d_law_707 ?_
  show VL G M1 M2 708 (LOC G i) (List.reverse [.int (iI (zx G (i + 1)))] ++ .ref (G.1.2.2 0) :: [])
  refine l_callX C (As := [.int (iI (zx G (i + 1)))]) (st := []) (maxL := 4) (fr2 := 5) (lc2 := 125) (y := y_O_needs) (bytes := b_O_needs) rfl rfl k_410 k_413 k_411 (by decide) (Nat.le_of_ble_eq_true rfl) d_law_708 k_412 k_1 hd_O_needs (c_O_needs _ _ _ S h1 hO (zx G (i + 1)) (zx_r G _)) (fun v M1' h => ?_)
  obtain ⟨r1, rfl, hz1, hR1⟩ := h
  show VL G M1' M2 711 (LOC G i) [.int (iI r1)]
  refine l_ald2 C d_law_711 ?_
  refine l_arg C (j := 1) rfl (by decide) hi d_law_712 d_law_713 d_law_714 d_law_715 d_law_716 ?_
  show VL G M1' M2 717 (LOC G i) (List.reverse [.int (iI (zx G (i + 1)))] ++ .ref (G.2.1.2.2 0) :: [.int (iI r1)])
  refine l_callM C (As := [.int (iI (zx G (i + 1)))]) (st := [.int (iI r1)]) (maxL := 4) (fr2 := 5) (lc2 := 114) (y := y_M_needs) (bytes := b_M_needs) rfl rfl k_906 k_909 k_907 (by decide) (Nat.le_of_ble_eq_true rfl) d_law_717 k_908 k_6 hd_M_needs (c_M_needs _ _ _ S h2 hO (zx G (i + 1)) (zx_r G _)) (fun v M2' h => ?_)
  obtain ⟨r2, rfl, hz2, hR2⟩ := h
  show VL G M1' M2' 720 (LOC G i) [.int (iI r2), .int (iI r1)]
  exact l_eqI C (tgt := 1634) (hz1.trans hz2.symm) d_law_720 (by decide) (k _ _ _ hO hR1 hR2)
theorem law_14 {G : zLG} (C : zLC G) {M1 M2 : zM} {S : zS} {i : Nat} (hi : i + 6 ≤ G.2.2.2.2.2.2.2.2.2.2.2.1) (hO : ok S) (h1 : RX S M1) (h2 : RM S M2) (k : zLk G i) : VL G M1 M2 725 (LOC G i) [] := by
  refine l_ald1 C d_law_725 ?_
  refine l_arg C (j := 1) rfl (by decide) hi d_law_726 d_law_727 d_law_728 d_law_729 d_law_730 ?_
  refine l_arg C (j := 2) rfl (by decide) hi d_law_731 d_law_732 d_law_733 d_law_734 d_law_735 ?_
  refine l_arg C (j := 3) rfl (by decide) hi d_law_736 d_law_737 d_law_738 d_law_739 d_law_740 ?_
  show VL G M1 M2 741 (LOC G i) (List.reverse [.int (iI (zx G (i + 1))), .int (iI (zx G (i + 2))), .int (iI (zx G (i + 3)))] ++ .ref (G.1.2.2 0) :: [])
  refine l_callX C (As := [.int (iI (zx G (i + 1))), .int (iI (zx G (i + 2))), .int (iI (zx G (i + 3)))]) (st := []) (maxL := 5) (fr2 := 2) (lc2 := 43) (y := y_O_weight) (bytes := b_O_weight) rfl rfl k_414 k_417 k_415 (by decide) (Nat.le_of_ble_eq_true rfl) d_law_741 k_416 k_1 hd_O_weight (c_O_weight _ _ _ S h1 hO (zx G (i + 1)) (zx G (i + 2)) (zx G (i + 3)) (zx_r G _) (zx_r G _) (zx_r G _)) (fun v M1' h => ?_)
  obtain ⟨r1, rfl, hz1, hR1⟩ := h
  show VL G M1' M2 744 (LOC G i) [.int (iI r1)]
  refine l_ald2 C d_law_744 ?_
  refine l_arg C (j := 1) rfl (by decide) hi d_law_745 d_law_746 d_law_747 d_law_748 d_law_749 ?_
  refine l_arg C (j := 2) rfl (by decide) hi d_law_750 d_law_751 d_law_752 d_law_753 d_law_754 ?_
  refine l_arg C (j := 3) rfl (by decide) hi d_law_755 d_law_756 d_law_757 d_law_758 d_law_759 ?_
  show VL G M1' M2 760 (LOC G i) (List.reverse [.int (iI (zx G (i + 1))), .int (iI (zx G (i + 2))), .int (iI (zx G (i + 3)))] ++ .ref (G.2.1.2.2 0) :: [.int (iI r1)])
  refine l_callM C (As := [.int (iI (zx G (i + 1))), .int (iI (zx G (i + 2))), .int (iI (zx G (i + 3)))]) (st := [.int (iI r1)]) (maxL := 6) (fr2 := 2) (lc2 := 46) (y := y_M_weight) (bytes := b_M_weight) rfl rfl k_910 k_913 k_911 (by decide) (Nat.le_of_ble_eq_true rfl) d_law_760 k_912 k_6 hd_M_weight (c_M_weight _ _ _ S h2 hO (zx G (i + 1)) (zx G (i + 2)) (zx G (i + 3)) (zx_r G _) (zx_r G _) (zx_r G _)) (fun v M2' h => ?_)
  obtain ⟨r2, rfl, hz2, hR2⟩ := h
  show VL G M1' M2' 763 (LOC G i) [.int (iI r2), .int (iI r1)]
  exact l_eqI C (tgt := 1634) (hz1.trans hz2.symm) d_law_763 (by decide) (k _ _ _ (og_weight hO _ _ _) hR1 hR2)
theorem law_15 {G : zLG} (C : zLC G) {M1 M2 : zM} {S : zS} {i : Nat} (hi : i + 6 ≤ G.2.2.2.2.2.2.2.2.2.2.2.1) (hO : ok S) (h1 : RX S M1) (h2 : RM S M2) (k : zLk G i) : VL G M1 M2 768 (LOC G i) [] := by
  refine l_ald1 C d_law_768 ?_
  refine l_arg C (j := 1) rfl (by decide) hi d_law_769 d_law_770 d_law_771 d_law_772 d_law_773 ?_
  refine l_arg C (j := 2) rfl (by decide) hi d_law_774 d_law_775 d_law_776 d_law_777 d_law_778 ?_
  refine l_arg C (j := 3) rfl (by decide) hi d_law_779 d_law_780 d_law_781 d_law_782 d_law_783 ?_
  show VL G M1 M2 784 (LOC G i) (List.reverse [.int (iI (zx G (i + 1))), .int (iI (zx G (i + 2))), .int (iI (zx G (i + 3)))] ++ .ref (G.1.2.2 0) :: [])
  refine l_callX C (As := [.int (iI (zx G (i + 1))), .int (iI (zx G (i + 2))), .int (iI (zx G (i + 3)))]) (st := []) (maxL := 5) (fr2 := 2) (lc2 := 42) (y := y_O_tool) (bytes := b_O_tool) rfl rfl k_426 k_429 k_427 (by decide) (Nat.le_of_ble_eq_true rfl) d_law_784 k_428 k_1 hd_O_tool (c_O_tool _ _ _ S h1 hO (zx G (i + 1)) (zx G (i + 2)) (zx G (i + 3)) (zx_r G _) (zx_r G _) (zx_r G _)) (fun v M1' h => ?_)
  obtain ⟨r1, rfl, hz1, hR1⟩ := h
  show VL G M1' M2 787 (LOC G i) [.int (iI r1)]
  refine l_ald2 C d_law_787 ?_
  refine l_arg C (j := 1) rfl (by decide) hi d_law_788 d_law_789 d_law_790 d_law_791 d_law_792 ?_
  refine l_arg C (j := 2) rfl (by decide) hi d_law_793 d_law_794 d_law_795 d_law_796 d_law_797 ?_
  refine l_arg C (j := 3) rfl (by decide) hi d_law_798 d_law_799 d_law_800 d_law_801 d_law_802 ?_
  show VL G M1' M2 803 (LOC G i) (List.reverse [.int (iI (zx G (i + 1))), .int (iI (zx G (i + 2))), .int (iI (zx G (i + 3)))] ++ .ref (G.2.1.2.2 0) :: [.int (iI r1)])
  refine l_callM C (As := [.int (iI (zx G (i + 1))), .int (iI (zx G (i + 2))), .int (iI (zx G (i + 3)))]) (st := [.int (iI r1)]) (maxL := 5) (fr2 := 1) (lc2 := 25) (y := y_M_tool) (bytes := b_M_tool) rfl rfl k_919 k_922 k_920 (by decide) (Nat.le_of_ble_eq_true rfl) d_law_803 k_921 k_6 hd_M_tool (c_M_tool _ _ _ S h2 hO (zx G (i + 1)) (zx G (i + 2)) (zx G (i + 3)) (zx_r G _) (zx_r G _) (zx_r G _)) (fun v M2' h => ?_)
  obtain ⟨r2, rfl, hz2, hR2⟩ := h
  show VL G M1' M2' 806 (LOC G i) [.int (iI r2), .int (iI r1)]
  exact l_eqI C (tgt := 1634) (hz1.trans hz2.symm) d_law_806 (by decide) (k _ _ _ (og_tool hO _ _ _) hR1 hR2)
theorem law_16 {G : zLG} (C : zLC G) {M1 M2 : zM} {S : zS} {i : Nat} (hi : i + 6 ≤ G.2.2.2.2.2.2.2.2.2.2.2.1) (hO : ok S) (h1 : RX S M1) (h2 : RM S M2) (k : zLk G i) : VL G M1 M2 811 (LOC G i) [] := by
  refine l_ald1 C d_law_811 ?_
  refine l_arg C (j := 1) rfl (by decide) hi d_law_812 d_law_813 d_law_814 d_law_815 d_law_816 ?_
  refine l_arg C (j := 2) rfl (by decide) hi d_law_817 d_law_818 d_law_819 d_law_820 d_law_821 ?_
  refine l_arg C (j := 3) rfl (by decide) hi d_law_822 d_law_823 d_law_824 d_law_825 d_law_826 ?_
  refine l_arg C (j := 4) rfl (by decide) hi d_law_827 d_law_828 d_law_829 d_law_830 d_law_831 ?_
  show VL G M1 M2 832 (LOC G i) (List.reverse [.int (iI (zx G (i + 1))), .int (iI (zx G (i + 2))), .int (iI (zx G (i + 3))), .int (iI (zx G (i + 4)))] ++ .ref (G.1.2.2 0) :: [])
  refine l_callX C (As := [.int (iI (zx G (i + 1))), .int (iI (zx G (i + 2))), .int (iI (zx G (i + 3))), .int (iI (zx G (i + 4)))]) (st := []) (maxL := 5) (fr2 := 2) (lc2 := 43) (y := y_O_look) (bytes := b_O_look) rfl rfl k_437 k_440 k_438 (by decide) (Nat.le_of_ble_eq_true rfl) d_law_832 k_439 k_1 hd_O_look (c_O_look _ _ _ S h1 hO (zx G (i + 1)) (zx G (i + 2)) (zx G (i + 3)) (zx G (i + 4)) (zx_r G _) (zx_r G _) (zx_r G _) (zx_r G _)) (fun v M1' h => ?_)
  obtain ⟨r1, rfl, hz1, hR1⟩ := h
  show VL G M1' M2 835 (LOC G i) [.int (iI r1)]
  refine l_ald2 C d_law_835 ?_
  refine l_arg C (j := 1) rfl (by decide) hi d_law_836 d_law_837 d_law_838 d_law_839 d_law_840 ?_
  refine l_arg C (j := 2) rfl (by decide) hi d_law_841 d_law_842 d_law_843 d_law_844 d_law_845 ?_
  refine l_arg C (j := 3) rfl (by decide) hi d_law_846 d_law_847 d_law_848 d_law_849 d_law_850 ?_
  refine l_arg C (j := 4) rfl (by decide) hi d_law_851 d_law_852 d_law_853 d_law_854 d_law_855 ?_
  show VL G M1' M2 856 (LOC G i) (List.reverse [.int (iI (zx G (i + 1))), .int (iI (zx G (i + 2))), .int (iI (zx G (i + 3))), .int (iI (zx G (i + 4)))] ++ .ref (G.2.1.2.2 0) :: [.int (iI r1)])
  refine l_callM C (As := [.int (iI (zx G (i + 1))), .int (iI (zx G (i + 2))), .int (iI (zx G (i + 3))), .int (iI (zx G (i + 4)))]) (st := [.int (iI r1)]) (maxL := 5) (fr2 := 2) (lc2 := 46) (y := y_M_look) (bytes := b_M_look) rfl rfl k_924 k_927 k_925 (by decide) (Nat.le_of_ble_eq_true rfl) d_law_856 k_926 k_6 hd_M_look (c_M_look _ _ _ S h2 hO (zx G (i + 1)) (zx G (i + 2)) (zx G (i + 3)) (zx G (i + 4)) (zx_r G _) (zx_r G _) (zx_r G _) (zx_r G _)) (fun v M2' h => ?_)
  obtain ⟨r2, rfl, hz2, hR2⟩ := h
  show VL G M1' M2' 859 (LOC G i) [.int (iI r2), .int (iI r1)]
  exact l_eqI C (tgt := 1634) (hz1.trans hz2.symm) d_law_859 (by decide) (k _ _ _ (og_look hO _ _ _ _) hR1 hR2)
theorem law_17 {G : zLG} (C : zLC G) {M1 M2 : zM} {S : zS} {i : Nat} (hi : i + 6 ≤ G.2.2.2.2.2.2.2.2.2.2.2.1) (hO : ok S) (h1 : RX S M1) (h2 : RM S M2) (k : zLk G i) : VL G M1 M2 864 (LOC G i) [] := by
  refine l_ald1 C d_law_864 ?_
  refine l_arg C (j := 1) rfl (by decide) hi d_law_865 d_law_866 d_law_867 d_law_868 d_law_869 ?_
  refine l_arg C (j := 2) rfl (by decide) hi d_law_870 d_law_871 d_law_872 d_law_873 d_law_874 ?_
  refine l_arg C (j := 3) rfl (by decide) hi d_law_875 d_law_876 d_law_877 d_law_878 d_law_879 ?_
  show VL G M1 M2 880 (LOC G i) (List.reverse [.int (iI (zx G (i + 1))), .int (iI (zx G (i + 2))), .int (iI (zx G (i + 3)))] ++ .ref (G.1.2.2 0) :: [])
  refine l_callX C (As := [.int (iI (zx G (i + 1))), .int (iI (zx G (i + 2))), .int (iI (zx G (i + 3)))]) (st := []) (maxL := 4) (fr2 := 3) (lc2 := 81) (y := y_O_odds) (bytes := b_O_odds) rfl rfl k_449 k_452 k_450 (by decide) (Nat.le_of_ble_eq_true rfl) d_law_880 k_451 k_1 hd_O_odds (c_O_odds _ _ _ S h1 hO (zx G (i + 1)) (zx G (i + 2)) (zx G (i + 3)) (zx_r G _) (zx_r G _) (zx_r G _)) (fun v M1' h => ?_)
  obtain ⟨r1, rfl, hz1, hR1⟩ := h
  show VL G M1' M2 883 (LOC G i) [.long r1]
  refine l_ald2 C d_law_883 ?_
  refine l_arg C (j := 1) rfl (by decide) hi d_law_884 d_law_885 d_law_886 d_law_887 d_law_888 ?_
  refine l_arg C (j := 2) rfl (by decide) hi d_law_889 d_law_890 d_law_891 d_law_892 d_law_893 ?_
  refine l_arg C (j := 3) rfl (by decide) hi d_law_894 d_law_895 d_law_896 d_law_897 d_law_898 ?_
  show VL G M1' M2 899 (LOC G i) (List.reverse [.int (iI (zx G (i + 1))), .int (iI (zx G (i + 2))), .int (iI (zx G (i + 3)))] ++ .ref (G.2.1.2.2 0) :: [.long r1])
  refine l_callM C (As := [.int (iI (zx G (i + 1))), .int (iI (zx G (i + 2))), .int (iI (zx G (i + 3)))]) (st := [.long r1]) (maxL := 4) (fr2 := 3) (lc2 := 76) (y := y_M_odds) (bytes := b_M_odds) rfl rfl k_928 k_931 k_929 (by decide) (Nat.le_of_ble_eq_true rfl) d_law_899 k_930 k_6 hd_M_odds (c_M_odds _ _ _ S h2 hO (zx G (i + 1)) (zx G (i + 2)) (zx G (i + 3)) (zx_r G _) (zx_r G _) (zx_r G _)) (fun v M2' h => ?_)
  obtain ⟨r2, rfl, hz2, hR2⟩ := h
  show VL G M1' M2' 902 (LOC G i) [.long r2, .long r1]
  exact l_eqJ C (tgt := 1634) (hz1.trans hz2.symm) d_law_902 d_law_903 (by decide) (k _ _ _ hO hR1 hR2)
theorem law_18 {G : zLG} (C : zLC G) {M1 M2 : zM} {S : zS} {i : Nat} (hi : i + 6 ≤ G.2.2.2.2.2.2.2.2.2.2.2.1) (hO : ok S) (h1 : RX S M1) (h2 : RM S M2) (k : zLk G i) : VL G M1 M2 908 (LOC G i) [] := by
  refine l_ald1 C d_law_908 ?_
  refine l_arg C (j := 1) rfl (by decide) hi d_law_909 d_law_910 d_law_911 d_law_912 d_law_913 ?_
  refine l_arg C (j := 2) rfl (by decide) hi d_law_914 d_law_915 d_law_916 d_law_917 d_law_918 ?_
  show VL G M1 M2 919 (LOC G i) (List.reverse [.int (iI (zx G (i + 1))), .int (iI (zx G (i + 2)))] ++ .ref (G.1.2.2 0) :: [])
  refine l_callX C (As := [.int (iI (zx G (i + 1))), .int (iI (zx G (i + 2)))]) (st := []) (maxL := 3) (fr2 := 3) (lc2 := 81) (y := y_O_quarrel) (bytes := b_O_quarrel) rfl rfl k_467 k_470 k_468 (by decide) (Nat.le_of_ble_eq_true rfl) d_law_919 k_469 k_1 hd_O_quarrel (c_O_quarrel _ _ _ S h1 hO (zx G (i + 1)) (zx G (i + 2)) (zx_r G _) (zx_r G _)) (fun v M1' h => ?_)
  obtain ⟨r1, rfl, hz1, hR1⟩ := h
  show VL G M1' M2 922 (LOC G i) [.int (iI r1)]
  refine l_ald2 C d_law_922 ?_
  refine l_arg C (j := 1) rfl (by decide) hi d_law_923 d_law_924 d_law_925 d_law_926 d_law_927 ?_
  refine l_arg C (j := 2) rfl (by decide) hi d_law_928 d_law_929 d_law_930 d_law_931 d_law_932 ?_
  show VL G M1' M2 933 (LOC G i) (List.reverse [.int (iI (zx G (i + 1))), .int (iI (zx G (i + 2)))] ++ .ref (G.2.1.2.2 0) :: [.int (iI r1)])
  refine l_callM C (As := [.int (iI (zx G (i + 1))), .int (iI (zx G (i + 2)))]) (st := [.int (iI r1)]) (maxL := 3) (fr2 := 3) (lc2 := 76) (y := y_M_quarrel) (bytes := b_M_quarrel) rfl rfl k_949 k_952 k_950 (by decide) (Nat.le_of_ble_eq_true rfl) d_law_933 k_951 k_6 hd_M_quarrel (c_M_quarrel _ _ _ S h2 hO (zx G (i + 1)) (zx G (i + 2)) (zx_r G _) (zx_r G _)) (fun v M2' h => ?_)
  obtain ⟨r2, rfl, hz2, hR2⟩ := h
  show VL G M1' M2' 936 (LOC G i) [.int (iI r2), .int (iI r1)]
  exact l_eqI C (tgt := 1634) (hz1.trans hz2.symm) d_law_936 (by decide) (k _ _ _ hO hR1 hR2)
theorem law_19 {G : zLG} (C : zLC G) {M1 M2 : zM} {S : zS} {i : Nat} (hi : i + 6 ≤ G.2.2.2.2.2.2.2.2.2.2.2.1) (hO : ok S) (h1 : RX S M1) (h2 : RM S M2) (k : zLk G i) : VL G M1 M2 941 (LOC G i) [] := by
  refine l_ald1 C d_law_941 ?_
  refine l_arg C (j := 1) rfl (by decide) hi d_law_942 d_law_943 d_law_944 d_law_945 d_law_946 ?_
  refine l_arg C (j := 2) rfl (by decide) hi d_law_947 d_law_948 d_law_949 d_law_950 d_law_951 ?_
  refine l_arg C (j := 3) rfl (by decide) hi d_law_952 d_law_953 d_law_954 d_law_955 d_law_956 ?_
  refine l_arg C (j := 4) rfl (by decide) hi d_law_957 d_law_958 d_law_959 d_law_960 d_law_961 ?_
  refine l_bool C (zx_r G _) d_law_962 rfl d_law_965 d_law_966 rfl d_law_969 ?_
  show VL G M1 M2 970 (LOC G i) (List.reverse [.int (iI (zx G (i + 1))), .int (iI (zx G (i + 2))), .int (iI (zx G (i + 3))), .int (iI (if zx G (i + 4) = 0 then 0 else 1))] ++ .ref (G.1.2.2 0) :: [])
  refine l_callX C (As := [.int (iI (zx G (i + 1))), .int (iI (zx G (i + 2))), .int (iI (zx G (i + 3))), .int (iI (if zx G (i + 4) = 0 then 0 else 1))]) (st := []) (maxL := 5) (fr2 := 4) (lc2 := 106) (y := y_O_share) (bytes := b_O_share) rfl rfl k_471 k_474 k_472 (by decide) (Nat.le_of_ble_eq_true rfl) d_law_970 k_473 k_1 hd_O_share (c_O_share _ _ _ S h1 hO (zx G (i + 1)) (zx G (i + 2)) (zx G (i + 3)) (if zx G (i + 4) = 0 then 0 else 1) (zx_r G _) (zx_r G _) (zx_r G _) (zb01 _)) (fun v M1' h => ?_)
  obtain ⟨r1, rfl, hz1, hR1⟩ := h
  show VL G M1' M2 973 (LOC G i) [.int (iI r1)]
  refine l_ald2 C d_law_973 ?_
  refine l_arg C (j := 1) rfl (by decide) hi d_law_974 d_law_975 d_law_976 d_law_977 d_law_978 ?_
  refine l_arg C (j := 2) rfl (by decide) hi d_law_979 d_law_980 d_law_981 d_law_982 d_law_983 ?_
  refine l_arg C (j := 3) rfl (by decide) hi d_law_984 d_law_985 d_law_986 d_law_987 d_law_988 ?_
  refine l_arg C (j := 4) rfl (by decide) hi d_law_989 d_law_990 d_law_991 d_law_992 d_law_993 ?_
  refine l_bool C (zx_r G _) d_law_994 rfl d_law_997 d_law_998 rfl d_law_1001 ?_
  show VL G M1' M2 1002 (LOC G i) (List.reverse [.int (iI (zx G (i + 1))), .int (iI (zx G (i + 2))), .int (iI (zx G (i + 3))), .int (iI (if zx G (i + 4) = 0 then 0 else 1))] ++ .ref (G.2.1.2.2 0) :: [.int (iI r1)])
  refine l_callM C (As := [.int (iI (zx G (i + 1))), .int (iI (zx G (i + 2))), .int (iI (zx G (i + 3))), .int (iI (if zx G (i + 4) = 0 then 0 else 1))]) (st := [.int (iI r1)]) (maxL := 5) (fr2 := 4) (lc2 := 102) (y := y_M_share) (bytes := b_M_share) rfl rfl k_953 k_956 k_954 (by decide) (Nat.le_of_ble_eq_true rfl) d_law_1002 k_955 k_6 hd_M_share (c_M_share _ _ _ S h2 hO (zx G (i + 1)) (zx G (i + 2)) (zx G (i + 3)) (if zx G (i + 4) = 0 then 0 else 1) (zx_r G _) (zx_r G _) (zx_r G _) (zb01 _)) (fun v M2' h => ?_)
  obtain ⟨r2, rfl, hz2, hR2⟩ := h
  show VL G M1' M2' 1005 (LOC G i) [.int (iI r2), .int (iI r1)]
  exact l_eqI C (tgt := 1634) (hz1.trans hz2.symm) d_law_1005 (by decide) (k _ _ _ hO hR1 hR2)
theorem law_20 {G : zLG} (C : zLC G) {M1 M2 : zM} {S : zS} {i : Nat} (hi : i + 6 ≤ G.2.2.2.2.2.2.2.2.2.2.2.1) (hO : ok S) (h1 : RX S M1) (h2 : RM S M2) (k : zLk G i) : VL G M1 M2 1010 (LOC G i) [] := by
  refine l_ald1 C d_law_1010 ?_
  refine l_arg C (j := 1) rfl (by decide) hi d_law_1011 d_law_1012 d_law_1013 d_law_1014 d_law_1015 ?_
  refine l_arg C (j := 2) rfl (by decide) hi d_law_1016 d_law_1017 d_law_1018 d_law_1019 d_law_1020 ?_
  refine l_arg C (j := 3) rfl (by decide) hi d_law_1021 d_law_1022 d_law_1023 d_law_1024 d_law_1025 ?_
  refine l_bool C (zx_r G _) d_law_1026 rfl d_law_1029 d_law_1030 rfl d_law_1033 ?_
  show VL G M1 M2 1034 (LOC G i) (List.reverse [.int (iI (zx G (i + 1))), .int (iI (zx G (i + 2))), .int (iI (if zx G (i + 3) = 0 then 0 else 1))] ++ .ref (G.1.2.2 0) :: [])
  refine l_callX C (As := [.int (iI (zx G (i + 1))), .int (iI (zx G (i + 2))), .int (iI (if zx G (i + 3) = 0 then 0 else 1))]) (st := []) (maxL := 4) (fr2 := 5) (lc2 := 129) (y := y_O_stands) (bytes := b_O_stands) rfl rfl k_490 k_493 k_491 (by decide) (Nat.le_of_ble_eq_true rfl) d_law_1034 k_492 k_1 hd_O_stands (c_O_stands _ _ _ S h1 hO (zx G (i + 1)) (zx G (i + 2)) (if zx G (i + 3) = 0 then 0 else 1) (zx_r G _) (zx_r G _) (zb01 _)) (fun v M1' h => ?_)
  obtain ⟨r1, rfl, hz1, hR1⟩ := h
  show VL G M1' M2 1037 (LOC G i) [.int (iI r1)]
  refine l_ald2 C d_law_1037 ?_
  refine l_arg C (j := 1) rfl (by decide) hi d_law_1038 d_law_1039 d_law_1040 d_law_1041 d_law_1042 ?_
  refine l_arg C (j := 2) rfl (by decide) hi d_law_1043 d_law_1044 d_law_1045 d_law_1046 d_law_1047 ?_
  refine l_arg C (j := 3) rfl (by decide) hi d_law_1048 d_law_1049 d_law_1050 d_law_1051 d_law_1052 ?_
  refine l_bool C (zx_r G _) d_law_1053 rfl d_law_1056 d_law_1057 rfl d_law_1060 ?_
  show VL G M1' M2 1061 (LOC G i) (List.reverse [.int (iI (zx G (i + 1))), .int (iI (zx G (i + 2))), .int (iI (if zx G (i + 3) = 0 then 0 else 1))] ++ .ref (G.2.1.2.2 0) :: [.int (iI r1)])
  refine l_callM C (As := [.int (iI (zx G (i + 1))), .int (iI (zx G (i + 2))), .int (iI (if zx G (i + 3) = 0 then 0 else 1))]) (st := [.int (iI r1)]) (maxL := 4) (fr2 := 5) (lc2 := 127) (y := y_M_stands) (bytes := b_M_stands) rfl rfl k_964 k_967 k_965 (by decide) (Nat.le_of_ble_eq_true rfl) d_law_1061 k_966 k_6 hd_M_stands (c_M_stands _ _ _ S h2 hO (zx G (i + 1)) (zx G (i + 2)) (if zx G (i + 3) = 0 then 0 else 1) (zx_r G _) (zx_r G _) (zb01 _)) (fun v M2' h => ?_)
  obtain ⟨r2, rfl, hz2, hR2⟩ := h
  show VL G M1' M2' 1064 (LOC G i) [.int (iI r2), .int (iI r1)]
  exact l_eqI C (tgt := 1634) (hz1.trans hz2.symm) d_law_1064 (by decide) (k _ _ _ hO hR1 hR2)
theorem law_21 {G : zLG} (C : zLC G) {M1 M2 : zM} {S : zS} {i : Nat} (hi : i + 6 ≤ G.2.2.2.2.2.2.2.2.2.2.2.1) (hO : ok S) (h1 : RX S M1) (h2 : RM S M2) (k : zLk G i) : VL G M1 M2 1069 (LOC G i) [] := by
  refine l_ald1 C d_law_1069 ?_
  refine l_arg C (j := 1) rfl (by decide) hi d_law_1070 d_law_1071 d_law_1072 d_law_1073 d_law_1074 ?_
  refine l_arg C (j := 2) rfl (by decide) hi d_law_1075 d_law_1076 d_law_1077 d_law_1078 d_law_1079 ?_
  refine l_bool C (zx_r G _) d_law_1080 rfl d_law_1083 d_law_1084 rfl d_law_1087 ?_
  show VL G M1 M2 1088 (LOC G i) (List.reverse [.int (iI (zx G (i + 1))), .int (iI (if zx G (i + 2) = 0 then 0 else 1))] ++ .ref (G.1.2.2 0) :: [])
  refine l_callX C (As := [.int (iI (zx G (i + 1))), .int (iI (if zx G (i + 2) = 0 then 0 else 1))]) (st := []) (maxL := 5) (fr2 := 5) (lc2 := 129) (y := y_O_until) (bytes := b_O_until) rfl rfl k_502 k_505 k_503 (by decide) (Nat.le_of_ble_eq_true rfl) d_law_1088 k_504 k_1 hd_O_until (c_O_until _ _ _ S h1 hO (zx G (i + 1)) (if zx G (i + 2) = 0 then 0 else 1) (zx_r G _) (zb01 _)) (fun v M1' h => ?_)
  obtain ⟨r1, rfl, hz1, hR1⟩ := h
  show VL G M1' M2 1091 (LOC G i) [.int (iI r1)]
  refine l_ald2 C d_law_1091 ?_
  refine l_arg C (j := 1) rfl (by decide) hi d_law_1092 d_law_1093 d_law_1094 d_law_1095 d_law_1096 ?_
  refine l_arg C (j := 2) rfl (by decide) hi d_law_1097 d_law_1098 d_law_1099 d_law_1100 d_law_1101 ?_
  refine l_bool C (zx_r G _) d_law_1102 rfl d_law_1105 d_law_1106 rfl d_law_1109 ?_
  show VL G M1' M2 1110 (LOC G i) (List.reverse [.int (iI (zx G (i + 1))), .int (iI (if zx G (i + 2) = 0 then 0 else 1))] ++ .ref (G.2.1.2.2 0) :: [.int (iI r1)])
  refine l_callM C (As := [.int (iI (zx G (i + 1))), .int (iI (if zx G (i + 2) = 0 then 0 else 1))]) (st := [.int (iI r1)]) (maxL := 5) (fr2 := 5) (lc2 := 127) (y := y_M_until) (bytes := b_M_until) rfl rfl k_972 k_975 k_973 (by decide) (Nat.le_of_ble_eq_true rfl) d_law_1110 k_974 k_6 hd_M_until (c_M_until _ _ _ S h2 hO (zx G (i + 1)) (if zx G (i + 2) = 0 then 0 else 1) (zx_r G _) (zb01 _)) (fun v M2' h => ?_)
  obtain ⟨r2, rfl, hz2, hR2⟩ := h
  show VL G M1' M2' 1113 (LOC G i) [.int (iI r2), .int (iI r1)]
  exact l_eqI C (tgt := 1634) (hz1.trans hz2.symm) d_law_1113 (by decide) (k _ _ _ hO hR1 hR2)
theorem law_22 {G : zLG} (C : zLC G) {M1 M2 : zM} {S : zS} {i : Nat} (hi : i + 6 ≤ G.2.2.2.2.2.2.2.2.2.2.2.1) (hO : ok S) (h1 : RX S M1) (h2 : RM S M2) (k : zLk G i) : VL G M1 M2 1118 (LOC G i) [] := by
  refine l_ald1 C d_law_1118 ?_
  refine l_arg C (j := 1) rfl (by decide) hi d_law_1119 d_law_1120 d_law_1121 d_law_1122 d_law_1123 ?_
  refine l_arg C (j := 2) rfl (by decide) hi d_law_1124 d_law_1125 d_law_1126 d_law_1127 d_law_1128 ?_
  refine l_arg C (j := 3) rfl (by decide) hi d_law_1129 d_law_1130 d_law_1131 d_law_1132 d_law_1133 ?_
  refine l_bool C (zx_r G _) d_law_1134 rfl d_law_1137 d_law_1138 rfl d_law_1141 ?_
  show VL G M1 M2 1142 (LOC G i) (List.reverse [.int (iI (zx G (i + 1))), .int (iI (zx G (i + 2))), .int (iI (if zx G (i + 3) = 0 then 0 else 1))] ++ .ref (G.1.2.2 0) :: [])
  refine l_callX C (As := [.int (iI (zx G (i + 1))), .int (iI (zx G (i + 2))), .int (iI (if zx G (i + 3) = 0 then 0 else 1))]) (st := []) (maxL := 5) (fr2 := 5) (lc2 := 125) (y := y_O_chance) (bytes := b_O_chance) rfl rfl k_506 k_509 k_507 (by decide) (Nat.le_of_ble_eq_true rfl) d_law_1142 k_508 k_1 hd_O_chance (c_O_chance _ _ _ S h1 hO (zx G (i + 1)) (zx G (i + 2)) (if zx G (i + 3) = 0 then 0 else 1) (zx_r G _) (zx_r G _) (zb01 _)) (fun v M1' h => ?_)
  obtain ⟨r1, rfl, hz1, hR1⟩ := h
  show VL G M1' M2 1145 (LOC G i) [.long r1]
  refine l_ald2 C d_law_1145 ?_
  refine l_arg C (j := 1) rfl (by decide) hi d_law_1146 d_law_1147 d_law_1148 d_law_1149 d_law_1150 ?_
  refine l_arg C (j := 2) rfl (by decide) hi d_law_1151 d_law_1152 d_law_1153 d_law_1154 d_law_1155 ?_
  refine l_arg C (j := 3) rfl (by decide) hi d_law_1156 d_law_1157 d_law_1158 d_law_1159 d_law_1160 ?_
  refine l_bool C (zx_r G _) d_law_1161 rfl d_law_1164 d_law_1165 rfl d_law_1168 ?_
  show VL G M1' M2 1169 (LOC G i) (List.reverse [.int (iI (zx G (i + 1))), .int (iI (zx G (i + 2))), .int (iI (if zx G (i + 3) = 0 then 0 else 1))] ++ .ref (G.2.1.2.2 0) :: [.long r1])
  refine l_callM C (As := [.int (iI (zx G (i + 1))), .int (iI (zx G (i + 2))), .int (iI (if zx G (i + 3) = 0 then 0 else 1))]) (st := [.long r1]) (maxL := 5) (fr2 := 5) (lc2 := 114) (y := y_M_chance) (bytes := b_M_chance) rfl rfl k_976 k_979 k_977 (by decide) (Nat.le_of_ble_eq_true rfl) d_law_1169 k_978 k_6 hd_M_chance (c_M_chance _ _ _ S h2 hO (zx G (i + 1)) (zx G (i + 2)) (if zx G (i + 3) = 0 then 0 else 1) (zx_r G _) (zx_r G _) (zb01 _)) (fun v M2' h => ?_)
  obtain ⟨r2, rfl, hz2, hR2⟩ := h
  show VL G M1' M2' 1172 (LOC G i) [.long r2, .long r1]
  exact l_eqJ C (tgt := 1634) (hz1.trans hz2.symm) d_law_1172 d_law_1173 (by decide) (k _ _ _ hO hR1 hR2)
theorem law_23 {G : zLG} (C : zLC G) {M1 M2 : zM} {S : zS} {i : Nat} (hi : i + 6 ≤ G.2.2.2.2.2.2.2.2.2.2.2.1) (hO : ok S) (h1 : RX S M1) (h2 : RM S M2) (k : zLk G i) : VL G M1 M2 1178 (LOC G i) [] := by
  refine l_ald1 C d_law_1178 ?_
  refine l_arg C (j := 1) rfl (by decide) hi d_law_1179 d_law_1180 d_law_1181 d_law_1182 d_law_1183 ?_
  show VL G M1 M2 1184 (LOC G i) (List.reverse [.int (iI (zx G (i + 1)))] ++ .ref (G.1.2.2 0) :: [])
  refine l_callX C (As := [.int (iI (zx G (i + 1)))]) (st := []) (maxL := 4) (fr2 := 5) (lc2 := 125) (y := y_O_weakest) (bytes := b_O_weakest) rfl rfl k_531 k_534 k_532 (by decide) (Nat.le_of_ble_eq_true rfl) d_law_1184 k_533 k_1 hd_O_weakest (c_O_weakest _ _ _ S h1 hO (zx G (i + 1)) (zx_r G _)) (fun v M1' h => ?_)
  obtain ⟨r1, rfl, hz1, hR1⟩ := h
  show VL G M1' M2 1187 (LOC G i) [.int (iI r1)]
  refine l_ald2 C d_law_1187 ?_
  refine l_arg C (j := 1) rfl (by decide) hi d_law_1188 d_law_1189 d_law_1190 d_law_1191 d_law_1192 ?_
  show VL G M1' M2 1193 (LOC G i) (List.reverse [.int (iI (zx G (i + 1)))] ++ .ref (G.2.1.2.2 0) :: [.int (iI r1)])
  refine l_callM C (As := [.int (iI (zx G (i + 1)))]) (st := [.int (iI r1)]) (maxL := 8) (fr2 := 4) (lc2 := 99) (y := y_M_weakest) (bytes := b_M_weakest) rfl rfl k_987 k_990 k_988 (by decide) (Nat.le_of_ble_eq_true rfl) d_law_1193 k_989 k_6 hd_M_weakest (c_M_weakest _ _ _ S h2 hO (zx G (i + 1)) (zx_r G _)) (fun v M2' h => ?_)
  obtain ⟨r2, rfl, hz2, hR2⟩ := h
  show VL G M1' M2' 1196 (LOC G i) [.int (iI r2), .int (iI r1)]
  exact l_eqI C (tgt := 1634) (hz1.trans hz2.symm) d_law_1196 (by decide) (k _ _ _ hO hR1 hR2)
theorem law_24 {G : zLG} (C : zLC G) {M1 M2 : zM} {S : zS} {i : Nat} (hi : i + 6 ≤ G.2.2.2.2.2.2.2.2.2.2.2.1) (hO : ok S) (h1 : RX S M1) (h2 : RM S M2) (k : zLk G i) : VL G M1 M2 1201 (LOC G i) [] := by
  refine l_ald1 C d_law_1201 ?_
  refine l_arg C (j := 1) rfl (by decide) hi d_law_1202 d_law_1203 d_law_1204 d_law_1205 d_law_1206 ?_
  refine l_arg C (j := 2) rfl (by decide) hi d_law_1207 d_law_1208 d_law_1209 d_law_1210 d_law_1211 ?_
  show VL G M1 M2 1212 (LOC G i) (List.reverse [.int (iI (zx G (i + 1))), .int (iI (zx G (i + 2)))] ++ .ref (G.1.2.2 0) :: [])
  refine l_callX C (As := [.int (iI (zx G (i + 1))), .int (iI (zx G (i + 2)))]) (st := []) (maxL := 4) (fr2 := 6) (lc2 := 154) (y := y_O_chain) (bytes := b_O_chain) rfl rfl k_543 k_546 k_544 (by decide) (Nat.le_of_ble_eq_true rfl) d_law_1212 k_545 k_1 hd_O_chain (c_O_chain _ _ _ S h1 hO (zx G (i + 1)) (zx G (i + 2)) (zx_r G _) (zx_r G _)) (fun v M1' h => ?_)
  obtain ⟨r1, rfl, hz1, hR1⟩ := h
  show VL G M1' M2 1215 (LOC G i) [.int (iI r1)]
  refine l_ald2 C d_law_1215 ?_
  refine l_arg C (j := 1) rfl (by decide) hi d_law_1216 d_law_1217 d_law_1218 d_law_1219 d_law_1220 ?_
  refine l_arg C (j := 2) rfl (by decide) hi d_law_1221 d_law_1222 d_law_1223 d_law_1224 d_law_1225 ?_
  show VL G M1' M2 1226 (LOC G i) (List.reverse [.int (iI (zx G (i + 1))), .int (iI (zx G (i + 2)))] ++ .ref (G.2.1.2.2 0) :: [.int (iI r1)])
  refine l_callM C (As := [.int (iI (zx G (i + 1))), .int (iI (zx G (i + 2)))]) (st := [.int (iI r1)]) (maxL := 4) (fr2 := 6) (lc2 := 147) (y := y_M_chain) (bytes := b_M_chain) rfl rfl k_994 k_997 k_995 (by decide) (Nat.le_of_ble_eq_true rfl) d_law_1226 k_996 k_6 hd_M_chain (c_M_chain _ _ _ S h2 hO (zx G (i + 1)) (zx G (i + 2)) (zx_r G _) (zx_r G _)) (fun v M2' h => ?_)
  obtain ⟨r2, rfl, hz2, hR2⟩ := h
  show VL G M1' M2' 1229 (LOC G i) [.int (iI r2), .int (iI r1)]
  exact l_eqI C (tgt := 1634) (hz1.trans hz2.symm) d_law_1229 (by decide) (k _ _ _ hO hR1 hR2)
theorem law_25 {G : zLG} (C : zLC G) {M1 M2 : zM} {S : zS} {i : Nat} (hi : i + 6 ≤ G.2.2.2.2.2.2.2.2.2.2.2.1) (hO : ok S) (h1 : RX S M1) (h2 : RM S M2) (k : zLk G i) : VL G M1 M2 1234 (LOC G i) [] := by
  refine l_ald1 C d_law_1234 ?_
  refine l_arg C (j := 1) rfl (by decide) hi d_law_1235 d_law_1236 d_law_1237 d_law_1238 d_law_1239 ?_
  refine l_arg C (j := 2) rfl (by decide) hi d_law_1240 d_law_1241 d_law_1242 d_law_1243 d_law_1244 ?_
  refine l_arg C (j := 3) rfl (by decide) hi d_law_1245 d_law_1246 d_law_1247 d_law_1248 d_law_1249 ?_
  show VL G M1 M2 1250 (LOC G i) (List.reverse [.int (iI (zx G (i + 1))), .int (iI (zx G (i + 2))), .int (iI (zx G (i + 3)))] ++ .ref (G.1.2.2 0) :: [])
  refine l_callX C (As := [.int (iI (zx G (i + 1))), .int (iI (zx G (i + 2))), .int (iI (zx G (i + 3)))]) (st := []) (maxL := 6) (fr2 := 6) (lc2 := 154) (y := y_O_chainAt) (bytes := b_O_chainAt) rfl rfl k_556 k_559 k_557 (by decide) (Nat.le_of_ble_eq_true rfl) d_law_1250 k_558 k_1 hd_O_chainAt (c_O_chainAt _ _ _ S h1 hO (zx G (i + 1)) (zx G (i + 2)) (zx G (i + 3)) (zx_r G _) (zx_r G _) (zx_r G _)) (fun v M1' h => ?_)
  obtain ⟨r1, rfl, hz1, hR1⟩ := h
  show VL G M1' M2 1253 (LOC G i) [.int (iI r1)]
  refine l_ald2 C d_law_1253 ?_
  refine l_arg C (j := 1) rfl (by decide) hi d_law_1254 d_law_1255 d_law_1256 d_law_1257 d_law_1258 ?_
  refine l_arg C (j := 2) rfl (by decide) hi d_law_1259 d_law_1260 d_law_1261 d_law_1262 d_law_1263 ?_
  refine l_arg C (j := 3) rfl (by decide) hi d_law_1264 d_law_1265 d_law_1266 d_law_1267 d_law_1268 ?_
  show VL G M1' M2 1269 (LOC G i) (List.reverse [.int (iI (zx G (i + 1))), .int (iI (zx G (i + 2))), .int (iI (zx G (i + 3)))] ++ .ref (G.2.1.2.2 0) :: [.int (iI r1)])
  refine l_callM C (As := [.int (iI (zx G (i + 1))), .int (iI (zx G (i + 2))), .int (iI (zx G (i + 3)))]) (st := [.int (iI r1)]) (maxL := 5) (fr2 := 6) (lc2 := 147) (y := y_M_chainAt) (bytes := b_M_chainAt) rfl rfl k_1006 k_1009 k_1007 (by decide) (Nat.le_of_ble_eq_true rfl) d_law_1269 k_1008 k_6 hd_M_chainAt (c_M_chainAt _ _ _ S h2 hO (zx G (i + 1)) (zx G (i + 2)) (zx G (i + 3)) (zx_r G _) (zx_r G _) (zx_r G _)) (fun v M2' h => ?_)
  obtain ⟨r2, rfl, hz2, hR2⟩ := h
  show VL G M1' M2' 1272 (LOC G i) [.int (iI r2), .int (iI r1)]
  exact l_eqI C (tgt := 1634) (hz1.trans hz2.symm) d_law_1272 (by decide) (k _ _ _ hO hR1 hR2)
theorem law_26 {G : zLG} (C : zLC G) {M1 M2 : zM} {S : zS} {i : Nat} (hi : i + 6 ≤ G.2.2.2.2.2.2.2.2.2.2.2.1) (hO : ok S) (h1 : RX S M1) (h2 : RM S M2) (k : zLk G i) : VL G M1 M2 1277 (LOC G i) [] := by
  refine l_ald1 C d_law_1277 ?_
  refine l_arg C (j := 1) rfl (by decide) hi d_law_1278 d_law_1279 d_law_1280 d_law_1281 d_law_1282 ?_
  refine l_arg C (j := 2) rfl (by decide) hi d_law_1283 d_law_1284 d_law_1285 d_law_1286 d_law_1287 ?_
  refine l_arg C (j := 3) rfl (by decide) hi d_law_1288 d_law_1289 d_law_1290 d_law_1291 d_law_1292 ?_
  show VL G M1 M2 1293 (LOC G i) (List.reverse [.int (iI (zx G (i + 1))), .int (iI (zx G (i + 2))), .int (iI (zx G (i + 3)))] ++ .ref (G.1.2.2 0) :: [])
  refine l_callX C (As := [.int (iI (zx G (i + 1))), .int (iI (zx G (i + 2))), .int (iI (zx G (i + 3)))]) (st := []) (maxL := 4) (fr2 := 3) (lc2 := 65) (y := y_O_prop) (bytes := b_O_prop) rfl rfl k_560 k_563 k_561 (by decide) (Nat.le_of_ble_eq_true rfl) d_law_1293 k_562 k_1 hd_O_prop (c_O_prop _ _ _ S h1 hO (zx G (i + 1)) (zx G (i + 2)) (zx G (i + 3)) (zx_r G _) (zx_r G _) (zx_r G _)) (fun v M1' h => ?_)
  obtain ⟨r1, rfl, hz1, hR1⟩ := h
  show VL G M1' M2 1296 (LOC G i) [.int (iI r1)]
  refine l_ald2 C d_law_1296 ?_
  refine l_arg C (j := 1) rfl (by decide) hi d_law_1297 d_law_1298 d_law_1299 d_law_1300 d_law_1301 ?_
  refine l_arg C (j := 2) rfl (by decide) hi d_law_1302 d_law_1303 d_law_1304 d_law_1305 d_law_1306 ?_
  refine l_arg C (j := 3) rfl (by decide) hi d_law_1307 d_law_1308 d_law_1309 d_law_1310 d_law_1311 ?_
  show VL G M1' M2 1312 (LOC G i) (List.reverse [.int (iI (zx G (i + 1))), .int (iI (zx G (i + 2))), .int (iI (zx G (i + 3)))] ++ .ref (G.2.1.2.2 0) :: [.int (iI r1)])
  refine l_callM C (As := [.int (iI (zx G (i + 1))), .int (iI (zx G (i + 2))), .int (iI (zx G (i + 3)))]) (st := [.int (iI r1)]) (maxL := 4) (fr2 := 2) (lc2 := 46) (y := y_M_prop) (bytes := b_M_prop) rfl rfl k_858 k_861 k_859 (by decide) (Nat.le_of_ble_eq_true rfl) d_law_1312 k_860 k_6 hd_M_prop (c_M_prop _ _ _ S h2 hO (zx G (i + 1)) (zx G (i + 2)) (zx G (i + 3)) (zx_r G _) (zx_r G _) (zx_r G _)) (fun v M2' h => ?_)
  obtain ⟨r2, rfl, hz2, hR2⟩ := h
  show VL G M1' M2' 1315 (LOC G i) [.int (iI r2), .int (iI r1)]
  exact l_eqI C (tgt := 1634) (hz1.trans hz2.symm) d_law_1315 (by decide) (k _ _ _ (og_prop hO _ _ _) hR1 hR2)
theorem law_27 {G : zLG} (C : zLC G) {M1 M2 : zM} {S : zS} {i : Nat} (hi : i + 6 ≤ G.2.2.2.2.2.2.2.2.2.2.2.1) (hO : ok S) (h1 : RX S M1) (h2 : RM S M2) (k : zLk G i) : VL G M1 M2 1320 (LOC G i) [] := by
  refine l_ald1 C d_law_1320 ?_
  refine l_arg C (j := 1) rfl (by decide) hi d_law_1321 d_law_1322 d_law_1323 d_law_1324 d_law_1325 ?_
  refine l_arg C (j := 2) rfl (by decide) hi d_law_1326 d_law_1327 d_law_1328 d_law_1329 d_law_1330 ?_
  refine l_bool C (zx_r G _) d_law_1331 rfl d_law_1334 d_law_1335 rfl d_law_1338 ?_
  show VL G M1 M2 1339 (LOC G i) (List.reverse [.int (iI (zx G (i + 1))), .int (iI (if zx G (i + 2) = 0 then 0 else 1))] ++ .ref (G.1.2.2 0) :: [])
  refine l_callX C (As := [.int (iI (zx G (i + 1))), .int (iI (if zx G (i + 2) = 0 then 0 else 1))]) (st := []) (maxL := 5) (fr2 := 1) (lc2 := 22) (y := y_O_set) (bytes := b_O_set) rfl rfl k_568 k_571 k_569 (by decide) (Nat.le_of_ble_eq_true rfl) d_law_1339 k_570 k_1 hd_O_set (c_O_set _ _ _ S h1 hO (zx G (i + 1)) (if zx G (i + 2) = 0 then 0 else 1) (zx_r G _) (zb01 _)) (fun v M1' h => ?_)
  obtain ⟨r1, rfl, hz1, hR1⟩ := h
  show VL G M1' M2 1342 (LOC G i) [.int (iI r1)]
  refine l_ald2 C d_law_1342 ?_
  refine l_arg C (j := 1) rfl (by decide) hi d_law_1343 d_law_1344 d_law_1345 d_law_1346 d_law_1347 ?_
  refine l_arg C (j := 2) rfl (by decide) hi d_law_1348 d_law_1349 d_law_1350 d_law_1351 d_law_1352 ?_
  refine l_bool C (zx_r G _) d_law_1353 rfl d_law_1356 d_law_1357 rfl d_law_1360 ?_
  show VL G M1' M2 1361 (LOC G i) (List.reverse [.int (iI (zx G (i + 1))), .int (iI (if zx G (i + 2) = 0 then 0 else 1))] ++ .ref (G.2.1.2.2 0) :: [.int (iI r1)])
  refine l_callM C (As := [.int (iI (zx G (i + 1))), .int (iI (if zx G (i + 2) = 0 then 0 else 1))]) (st := [.int (iI r1)]) (maxL := 4) (fr2 := 1) (lc2 := 25) (y := y_M_set) (bytes := b_M_set) rfl rfl k_862 k_865 k_863 (by decide) (Nat.le_of_ble_eq_true rfl) d_law_1361 k_864 k_6 hd_M_set (c_M_set _ _ _ S h2 hO (zx G (i + 1)) (if zx G (i + 2) = 0 then 0 else 1) (zx_r G _) (zb01 _)) (fun v M2' h => ?_)
  obtain ⟨r2, rfl, hz2, hR2⟩ := h
  show VL G M1' M2' 1364 (LOC G i) [.int (iI r2), .int (iI r1)]
  exact l_eqI C (tgt := 1634) (hz1.trans hz2.symm) d_law_1364 (by decide) (k _ _ _ (og_set hO _ _ (zb01 _)) hR1 hR2)
theorem law_28 {G : zLG} (C : zLC G) {M1 M2 : zM} {S : zS} {i : Nat} (hi : i + 6 ≤ G.2.2.2.2.2.2.2.2.2.2.2.1) (hO : ok S) (h1 : RX S M1) (h2 : RM S M2) (k : zLk G i) : VL G M1 M2 1369 (LOC G i) [] := by
  refine l_ald1 C d_law_1369 ?_
  refine l_arg C (j := 1) rfl (by decide) hi d_law_1370 d_law_1371 d_law_1372 d_law_1373 d_law_1374 ?_
  show VL G M1 M2 1375 (LOC G i) (List.reverse [.int (iI (zx G (i + 1)))] ++ .ref (G.1.2.2 0) :: [])
  refine l_callX C (As := [.int (iI (zx G (i + 1)))]) (st := []) (maxL := 3) (fr2 := 5) (lc2 := 130) (y := y_O_fewest) (bytes := b_O_fewest) rfl rfl k_573 k_576 k_574 (by decide) (Nat.le_of_ble_eq_true rfl) d_law_1375 k_575 k_1 hd_O_fewest (c_O_fewest _ _ _ S h1 hO (zx G (i + 1)) (zx_r G _)) (fun v M1' h => ?_)
  obtain ⟨r1, rfl, hz1, hR1⟩ := h
  show VL G M1' M2 1378 (LOC G i) [.int (iI r1)]
  refine l_ald2 C d_law_1378 ?_
  refine l_arg C (j := 1) rfl (by decide) hi d_law_1379 d_law_1380 d_law_1381 d_law_1382 d_law_1383 ?_
  show VL G M1' M2 1384 (LOC G i) (List.reverse [.int (iI (zx G (i + 1)))] ++ .ref (G.2.1.2.2 0) :: [.int (iI r1)])
  refine l_callM C (As := [.int (iI (zx G (i + 1)))]) (st := [.int (iI r1)]) (maxL := 3) (fr2 := 6) (lc2 := 152) (y := y_M_fewest) (bytes := b_M_fewest) rfl rfl k_1010 k_1013 k_1011 (by decide) (Nat.le_of_ble_eq_true rfl) d_law_1384 k_1012 k_6 hd_M_fewest (c_M_fewest _ _ _ S h2 hO (zx G (i + 1)) (zx_r G _)) (fun v M2' h => ?_)
  obtain ⟨r2, rfl, hz2, hR2⟩ := h
  show VL G M1' M2' 1387 (LOC G i) [.int (iI r2), .int (iI r1)]
  exact l_eqI C (tgt := 1634) (hz1.trans hz2.symm) d_law_1387 (by decide) (k _ _ _ hO hR1 hR2)
theorem law_29 {G : zLG} (C : zLC G) {M1 M2 : zM} {S : zS} {i : Nat} (hi : i + 6 ≤ G.2.2.2.2.2.2.2.2.2.2.2.1) (hO : ok S) (h1 : RX S M1) (h2 : RM S M2) (k : zLk G i) : VL G M1 M2 1392 (LOC G i) [] := by
  refine l_ald1 C d_law_1392 ?_
  refine l_arg C (j := 1) rfl (by decide) hi d_law_1393 d_law_1394 d_law_1395 d_law_1396 d_law_1397 ?_
  refine l_arg C (j := 2) rfl (by decide) hi d_law_1398 d_law_1399 d_law_1400 d_law_1401 d_law_1402 ?_
  show VL G M1 M2 1403 (LOC G i) (List.reverse [.int (iI (zx G (i + 1))), .int (iI (zx G (i + 2)))] ++ .ref (G.1.2.2 0) :: [])
  refine l_callX C (As := [.int (iI (zx G (i + 1))), .int (iI (zx G (i + 2)))]) (st := []) (maxL := 6) (fr2 := 5) (lc2 := 130) (y := y_O_needed) (bytes := b_O_needed) rfl rfl k_586 k_589 k_587 (by decide) (Nat.le_of_ble_eq_true rfl) d_law_1403 k_588 k_1 hd_O_needed (c_O_needed _ _ _ S h1 hO (zx G (i + 1)) (zx G (i + 2)) (zx_r G _) (zx_r G _)) (fun v M1' h => ?_)
  obtain ⟨r1, rfl, hz1, hR1⟩ := h
  show VL G M1' M2 1406 (LOC G i) [.int (iI r1)]
  refine l_ald2 C d_law_1406 ?_
  refine l_arg C (j := 1) rfl (by decide) hi d_law_1407 d_law_1408 d_law_1409 d_law_1410 d_law_1411 ?_
  refine l_arg C (j := 2) rfl (by decide) hi d_law_1412 d_law_1413 d_law_1414 d_law_1415 d_law_1416 ?_
  show VL G M1' M2 1417 (LOC G i) (List.reverse [.int (iI (zx G (i + 1))), .int (iI (zx G (i + 2)))] ++ .ref (G.2.1.2.2 0) :: [.int (iI r1)])
  refine l_callM C (As := [.int (iI (zx G (i + 1))), .int (iI (zx G (i + 2)))]) (st := [.int (iI r1)]) (maxL := 6) (fr2 := 6) (lc2 := 152) (y := y_M_needed) (bytes := b_M_needed) rfl rfl k_1024 k_1027 k_1025 (by decide) (Nat.le_of_ble_eq_true rfl) d_law_1417 k_1026 k_6 hd_M_needed (c_M_needed _ _ _ S h2 hO (zx G (i + 1)) (zx G (i + 2)) (zx_r G _) (zx_r G _)) (fun v M2' h => ?_)
  obtain ⟨r2, rfl, hz2, hR2⟩ := h
  show VL G M1' M2' 1420 (LOC G i) [.int (iI r2), .int (iI r1)]
  exact l_eqI C (tgt := 1634) (hz1.trans hz2.symm) d_law_1420 (by decide) (k _ _ _ hO hR1 hR2)
theorem law_30 {G : zLG} (C : zLC G) {M1 M2 : zM} {S : zS} {i : Nat} (hi : i + 6 ≤ G.2.2.2.2.2.2.2.2.2.2.2.1) (hO : ok S) (h1 : RX S M1) (h2 : RM S M2) (k : zLk G i) : VL G M1 M2 1425 (LOC G i) [] := by
  refine l_ald1 C d_law_1425 ?_
  refine l_arg C (j := 1) rfl (by decide) hi d_law_1426 d_law_1427 d_law_1428 d_law_1429 d_law_1430 ?_
  refine l_arg C (j := 2) rfl (by decide) hi d_law_1431 d_law_1432 d_law_1433 d_law_1434 d_law_1435 ?_
  show VL G M1 M2 1436 (LOC G i) (List.reverse [.int (iI (zx G (i + 1))), .int (iI (zx G (i + 2)))] ++ .ref (G.1.2.2 0) :: [])
  refine l_callX C (As := [.int (iI (zx G (i + 1))), .int (iI (zx G (i + 2)))]) (st := []) (maxL := 4) (fr2 := 1) (lc2 := 22) (y := y_O_price) (bytes := b_O_price) rfl rfl k_590 k_593 k_591 (by decide) (Nat.le_of_ble_eq_true rfl) d_law_1436 k_592 k_1 hd_O_price (c_O_price _ _ _ S h1 hO (zx G (i + 1)) (zx G (i + 2)) (zx_r G _) (zx_r G _)) (fun v M1' h => ?_)
  obtain ⟨r1, rfl, hz1, hR1⟩ := h
  show VL G M1' M2 1439 (LOC G i) [.int (iI r1)]
  refine l_ald2 C d_law_1439 ?_
  refine l_arg C (j := 1) rfl (by decide) hi d_law_1440 d_law_1441 d_law_1442 d_law_1443 d_law_1444 ?_
  refine l_arg C (j := 2) rfl (by decide) hi d_law_1445 d_law_1446 d_law_1447 d_law_1448 d_law_1449 ?_
  show VL G M1' M2 1450 (LOC G i) (List.reverse [.int (iI (zx G (i + 1))), .int (iI (zx G (i + 2)))] ++ .ref (G.2.1.2.2 0) :: [.int (iI r1)])
  refine l_callM C (As := [.int (iI (zx G (i + 1))), .int (iI (zx G (i + 2)))]) (st := [.int (iI r1)]) (maxL := 4) (fr2 := 1) (lc2 := 25) (y := y_M_price) (bytes := b_M_price) rfl rfl k_1028 k_1031 k_1029 (by decide) (Nat.le_of_ble_eq_true rfl) d_law_1450 k_1030 k_6 hd_M_price (c_M_price _ _ _ S h2 hO (zx G (i + 1)) (zx G (i + 2)) (zx_r G _) (zx_r G _)) (fun v M2' h => ?_)
  obtain ⟨r2, rfl, hz2, hR2⟩ := h
  show VL G M1' M2' 1453 (LOC G i) [.int (iI r2), .int (iI r1)]
  exact l_eqI C (tgt := 1634) (hz1.trans hz2.symm) d_law_1453 (by decide) (k _ _ _ (og_price hO _ _) hR1 hR2)
theorem law_31 {G : zLG} (C : zLC G) {M1 M2 : zM} {S : zS} {i : Nat} (hi : i + 6 ≤ G.2.2.2.2.2.2.2.2.2.2.2.1) (hO : ok S) (h1 : RX S M1) (h2 : RM S M2) (k : zLk G i) : VL G M1 M2 1458 (LOC G i) [] := by
  refine l_ald1 C d_law_1458 ?_
  refine l_arg C (j := 1) rfl (by decide) hi d_law_1459 d_law_1460 d_law_1461 d_law_1462 d_law_1463 ?_
  refine l_arg C (j := 2) rfl (by decide) hi d_law_1464 d_law_1465 d_law_1466 d_law_1467 d_law_1468 ?_
  refine l_arg C (j := 3) rfl (by decide) hi d_law_1469 d_law_1470 d_law_1471 d_law_1472 d_law_1473 ?_
  refine l_bool C (zx_r G _) d_law_1474 rfl d_law_1477 d_law_1478 rfl d_law_1481 ?_
  show VL G M1 M2 1482 (LOC G i) (List.reverse [.int (iI (zx G (i + 1))), .int (iI (zx G (i + 2))), .int (iI (if zx G (i + 3) = 0 then 0 else 1))] ++ .ref (G.1.2.2 0) :: [])
  refine l_callX C (As := [.int (iI (zx G (i + 1))), .int (iI (zx G (i + 2))), .int (iI (if zx G (i + 3) = 0 then 0 else 1))]) (st := []) (maxL := 5) (fr2 := 5) (lc2 := 125) (y := y_O_mean) (bytes := b_O_mean) rfl rfl k_594 k_597 k_595 (by decide) (Nat.le_of_ble_eq_true rfl) d_law_1482 k_596 k_1 hd_O_mean (c_O_mean _ _ _ S h1 hO (zx G (i + 1)) (zx G (i + 2)) (if zx G (i + 3) = 0 then 0 else 1) (zx_r G _) (zx_r G _) (zb01 _)) (fun v M1' h => ?_)
  obtain ⟨r1, rfl, hz1, hR1⟩ := h
  show VL G M1' M2 1485 (LOC G i) [.long r1]
  refine l_ald2 C d_law_1485 ?_
  refine l_arg C (j := 1) rfl (by decide) hi d_law_1486 d_law_1487 d_law_1488 d_law_1489 d_law_1490 ?_
  refine l_arg C (j := 2) rfl (by decide) hi d_law_1491 d_law_1492 d_law_1493 d_law_1494 d_law_1495 ?_
  refine l_arg C (j := 3) rfl (by decide) hi d_law_1496 d_law_1497 d_law_1498 d_law_1499 d_law_1500 ?_
  refine l_bool C (zx_r G _) d_law_1501 rfl d_law_1504 d_law_1505 rfl d_law_1508 ?_
  show VL G M1' M2 1509 (LOC G i) (List.reverse [.int (iI (zx G (i + 1))), .int (iI (zx G (i + 2))), .int (iI (if zx G (i + 3) = 0 then 0 else 1))] ++ .ref (G.2.1.2.2 0) :: [.long r1])
  refine l_callM C (As := [.int (iI (zx G (i + 1))), .int (iI (zx G (i + 2))), .int (iI (if zx G (i + 3) = 0 then 0 else 1))]) (st := [.long r1]) (maxL := 5) (fr2 := 5) (lc2 := 114) (y := y_M_mean) (bytes := b_M_mean) rfl rfl k_1032 k_1035 k_1033 (by decide) (Nat.le_of_ble_eq_true rfl) d_law_1509 k_1034 k_6 hd_M_mean (c_M_mean _ _ _ S h2 hO (zx G (i + 1)) (zx G (i + 2)) (if zx G (i + 3) = 0 then 0 else 1) (zx_r G _) (zx_r G _) (zb01 _)) (fun v M2' h => ?_)
  obtain ⟨r2, rfl, hz2, hR2⟩ := h
  show VL G M1' M2' 1512 (LOC G i) [.long r2, .long r1]
  exact l_eqJ C (tgt := 1634) (hz1.trans hz2.symm) d_law_1512 d_law_1513 (by decide) (k _ _ _ hO hR1 hR2)
theorem law_32 {G : zLG} (C : zLC G) {M1 M2 : zM} {S : zS} {i : Nat} (hi : i + 6 ≤ G.2.2.2.2.2.2.2.2.2.2.2.1) (hO : ok S) (h1 : RX S M1) (h2 : RM S M2) (k : zLk G i) : VL G M1 M2 1518 (LOC G i) [] := by
  refine l_ald1 C d_law_1518 ?_
  refine l_arg C (j := 1) rfl (by decide) hi d_law_1519 d_law_1520 d_law_1521 d_law_1522 d_law_1523 ?_
  refine l_arg C (j := 2) rfl (by decide) hi d_law_1524 d_law_1525 d_law_1526 d_law_1527 d_law_1528 ?_
  refine l_arg C (j := 3) rfl (by decide) hi d_law_1529 d_law_1530 d_law_1531 d_law_1532 d_law_1533 ?_
  refine l_arg C (j := 4) rfl (by decide) hi d_law_1534 d_law_1535 d_law_1536 d_law_1537 d_law_1538 ?_
  refine l_bool C (zx_r G _) d_law_1539 rfl d_law_1542 d_law_1543 rfl d_law_1546 ?_
  show VL G M1 M2 1547 (LOC G i) (List.reverse [.int (iI (zx G (i + 1))), .int (iI (zx G (i + 2))), .int (iI (zx G (i + 3))), .int (iI (if zx G (i + 4) = 0 then 0 else 1))] ++ .ref (G.1.2.2 0) :: [])
  refine l_callX C (As := [.int (iI (zx G (i + 1))), .int (iI (zx G (i + 2))), .int (iI (zx G (i + 3))), .int (iI (if zx G (i + 4) = 0 then 0 else 1))]) (st := []) (maxL := 6) (fr2 := 5) (lc2 := 125) (y := y_O_worth) (bytes := b_O_worth) rfl rfl k_609 k_612 k_610 (by decide) (Nat.le_of_ble_eq_true rfl) d_law_1547 k_611 k_1 hd_O_worth (c_O_worth _ _ _ S h1 hO (zx G (i + 1)) (zx G (i + 2)) (zx G (i + 3)) (if zx G (i + 4) = 0 then 0 else 1) (zx_r G _) (zx_r G _) (zx_r G _) (zb01 _)) (fun v M1' h => ?_)
  obtain ⟨r1, rfl, hz1, hR1⟩ := h
  show VL G M1' M2 1550 (LOC G i) [.long r1]
  refine l_ald2 C d_law_1550 ?_
  refine l_arg C (j := 1) rfl (by decide) hi d_law_1551 d_law_1552 d_law_1553 d_law_1554 d_law_1555 ?_
  refine l_arg C (j := 2) rfl (by decide) hi d_law_1556 d_law_1557 d_law_1558 d_law_1559 d_law_1560 ?_
  refine l_arg C (j := 3) rfl (by decide) hi d_law_1561 d_law_1562 d_law_1563 d_law_1564 d_law_1565 ?_
  refine l_arg C (j := 4) rfl (by decide) hi d_law_1566 d_law_1567 d_law_1568 d_law_1569 d_law_1570 ?_
  refine l_bool C (zx_r G _) d_law_1571 rfl d_law_1574 d_law_1575 rfl d_law_1578 ?_
  show VL G M1' M2 1579 (LOC G i) (List.reverse [.int (iI (zx G (i + 1))), .int (iI (zx G (i + 2))), .int (iI (zx G (i + 3))), .int (iI (if zx G (i + 4) = 0 then 0 else 1))] ++ .ref (G.2.1.2.2 0) :: [.long r1])
  refine l_callM C (As := [.int (iI (zx G (i + 1))), .int (iI (zx G (i + 2))), .int (iI (zx G (i + 3))), .int (iI (if zx G (i + 4) = 0 then 0 else 1))]) (st := [.long r1]) (maxL := 6) (fr2 := 5) (lc2 := 114) (y := y_M_worth) (bytes := b_M_worth) rfl rfl k_1040 k_1043 k_1041 (by decide) (Nat.le_of_ble_eq_true rfl) d_law_1579 k_1042 k_6 hd_M_worth (c_M_worth _ _ _ S h2 hO (zx G (i + 1)) (zx G (i + 2)) (zx G (i + 3)) (if zx G (i + 4) = 0 then 0 else 1) (zx_r G _) (zx_r G _) (zx_r G _) (zb01 _)) (fun v M2' h => ?_)
  obtain ⟨r2, rfl, hz2, hR2⟩ := h
  show VL G M1' M2' 1582 (LOC G i) [.long r2, .long r1]
  exact l_eqJ C (tgt := 1634) (hz1.trans hz2.symm) d_law_1582 d_law_1583 (by decide) (k _ _ _ hO hR1 hR2)
theorem law_33 {G : zLG} (C : zLC G) {M1 M2 : zM} {S : zS} {i : Nat} (hi : i + 6 ≤ G.2.2.2.2.2.2.2.2.2.2.2.1) (hO : ok S) (h1 : RX S M1) (h2 : RM S M2) (k : zLk G i) : VL G M1 M2 1588 (LOC G i) [] := by
  refine l_ald1 C d_law_1588 ?_
  refine l_arg C (j := 1) rfl (by decide) hi d_law_1589 d_law_1590 d_law_1591 d_law_1592 d_law_1593 ?_
  show VL G M1 M2 1594 (LOC G i) (List.reverse [.int (iI (zx G (i + 1)))] ++ .ref (G.1.2.2 0) :: [])
  refine l_callX C (As := [.int (iI (zx G (i + 1)))]) (st := []) (maxL := 5) (fr2 := 5) (lc2 := 125) (y := y_O_bestLook) (bytes := b_O_bestLook) rfl rfl k_618 k_621 k_619 (by decide) (Nat.le_of_ble_eq_true rfl) d_law_1594 k_620 k_1 hd_O_bestLook (c_O_bestLook _ _ _ S h1 hO (zx G (i + 1)) (zx_r G _)) (fun v M1' h => ?_)
  obtain ⟨r1, rfl, hz1, hR1⟩ := h
  show VL G M1' M2 1597 (LOC G i) [.int (iI r1)]
  refine l_ald2 C d_law_1597 ?_
  refine l_arg C (j := 1) rfl (by decide) hi d_law_1598 d_law_1599 d_law_1600 d_law_1601 d_law_1602 ?_
  show VL G M1' M2 1603 (LOC G i) (List.reverse [.int (iI (zx G (i + 1)))] ++ .ref (G.2.1.2.2 0) :: [.int (iI r1)])
  refine l_callM C (As := [.int (iI (zx G (i + 1)))]) (st := [.int (iI r1)]) (maxL := 11) (fr2 := 4) (lc2 := 99) (y := y_M_bestLook) (bytes := b_M_bestLook) rfl rfl k_1048 k_1051 k_1049 (by decide) (Nat.le_of_ble_eq_true rfl) d_law_1603 k_1050 k_6 hd_M_bestLook (c_M_bestLook _ _ _ S h2 hO (zx G (i + 1)) (zx_r G _)) (fun v M2' h => ?_)
  obtain ⟨r2, rfl, hz2, hR2⟩ := h
  show VL G M1' M2' 1606 (LOC G i) [.int (iI r2), .int (iI r1)]
  exact l_eqI C (tgt := 1634) (hz1.trans hz2.symm) d_law_1606 (by decide) (k _ _ _ hO hR1 hR2)
theorem law_34 {G : zLG} (C : zLC G) {M1 M2 : zM} {S : zS} {i : Nat} (hi : i + 6 ≤ G.2.2.2.2.2.2.2.2.2.2.2.1) (hO : ok S) (h1 : RX S M1) (h2 : RM S M2) (k : zLk G i) : VL G M1 M2 1611 (LOC G i) [] := by
  refine l_ald1 C d_law_1611 ?_
  refine l_arg C (j := 1) rfl (by decide) hi d_law_1612 d_law_1613 d_law_1614 d_law_1615 d_law_1616 ?_
  show VL G M1 M2 1617 (LOC G i) (List.reverse [.int (iI (zx G (i + 1)))] ++ .ref (G.1.2.2 0) :: [])
  refine l_callX C (As := [.int (iI (zx G (i + 1)))]) (st := []) (maxL := 2) (fr2 := 3) (lc2 := 66) (y := y_O_count) (bytes := b_O_count) rfl rfl k_622 k_625 k_623 (by decide) (Nat.le_of_ble_eq_true rfl) d_law_1617 k_624 k_1 hd_O_count (c_O_count _ _ _ S h1 hO (zx G (i + 1)) (zx_r G _)) (fun v M1' h => ?_)
  obtain ⟨r1, rfl, hz1, hR1⟩ := h
  show VL G M1' M2 1620 (LOC G i) [.int (iI r1)]
  refine l_ald2 C d_law_1620 ?_
  refine l_arg C (j := 1) rfl (by decide) hi d_law_1621 d_law_1622 d_law_1623 d_law_1624 d_law_1625 ?_
  show VL G M1' M2 1626 (LOC G i) (List.reverse [.int (iI (zx G (i + 1)))] ++ .ref (G.2.1.2.2 0) :: [.int (iI r1)])
  refine l_callM C (As := [.int (iI (zx G (i + 1)))]) (st := [.int (iI r1)]) (maxL := 5) (fr2 := 4) (lc2 := 92) (y := y_M_count) (bytes := b_M_count) rfl rfl k_1052 k_1055 k_1053 (by decide) (Nat.le_of_ble_eq_true rfl) d_law_1626 k_1054 k_6 hd_M_count (c_M_count _ _ _ S h2 hO (zx G (i + 1)) (zx_r G _)) (fun v M2' h => ?_)
  obtain ⟨r2, rfl, hz2, hR2⟩ := h
  show VL G M1' M2' 1629 (LOC G i) [.int (iI r2), .int (iI r1)]
  exact l_eqI C (tgt := 1634) (hz1.trans hz2.symm) d_law_1629 (by decide) (k _ _ _ hO hR1 hR2)
