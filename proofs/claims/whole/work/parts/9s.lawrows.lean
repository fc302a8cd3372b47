/-! the law's own rows -/
theorem i32_rg (x : Int32) : rg x.toInt := by
  have h1 := Int32.le_toInt x
  have h2 := Int32.toInt_lt x
  omega
theorem i64_rl (x : Int64) : rl x.toInt := by
  have h1 := Int64.le_toInt x
  have h2 := Int64.toInt_lt x
  omega
/-- an int of the script -/
abbrev sv (X : pX) (i : Nat) (c : Int) : Int := (X.2 ((i : Int) + c).toNat).toInt
theorem lg_self (x : Int64) : lg_cmp x x = 0 := by simp [lg_cmp]
section LWR
variable {X : pX} {h : Nat} {mi : MI} {pc : Nat} {ls : List (Option Value)} {st : List Value} {I J : IM} {P : Option Value → IM → IM → Prop} {i x : Int}
theorem rz_sldX (hd : decode mi.2.1 pc = .ok (.iaload, 1)) (hL : X.1 ≤ 100000) (hi : 0 ≤ i ∧ i < X.1) (kk : Rz X h mi (pc + 1) ls (zi (X.2 i.toNat).toInt :: st) I J P) : Rz X h mi pc ls (zi i :: .ref 1000 :: st) I J P :=
  rn_sld hd (by rw [iz_toInt (by omega)]; exact hi) (by rw [iz_toInt (by omega), ← iz_of (X.2 i.toNat)]; exact kk)
theorem rz_slenX (hd : decode mi.2.1 pc = .ok (.arraylength, 1)) (kk : Rz X h mi (pc + 1) ls (zi (X.1 : Int) :: st) I J P) : Rz X h mi pc ls (.ref 1000 :: st) I J P :=
  rn_slen hd (by show Rn h mi (pc + 1) ls (.int (Int32.ofNat X.1) :: st) _ _; rw [← Int32.ofInt_eq_ofNat]; exact kk)
theorem rz_isame {off : Int} {t : Nat} (hd : decode mi.2.1 pc = .ok (.if_icmp .eq off, 3)) (ht : (pc : Int) + off = (t : Int)) (k : Rz X h mi t ls st I J P) : Rz X h mi pc ls (zi x :: zi x :: st) I J P := rn_icmp_eq hd ht (fun _ => k) (fun q => absurd rfl q)
theorem rz_lsame {off : Int} {t pc2 : Nat} (hd : decode mi.2.1 pc = .ok (.lcmp, 1)) (hp : pc + 1 = pc2) (hd2 : decode mi.2.1 pc2 = .ok (.ifCond .eq off, 3)) (ht : (pc2 : Int) + off = (t : Int)) (k : Rz X h mi t ls st I J P) : Rz X h mi pc ls (zl x :: zl x :: st) I J P := by
  subst hp
  exact rn_lcmp hd (rn_if_eq hd2 ht (fun _ => k) (fun q => absurd (lg_self _) q))
theorem la_arg {n : Nat} {c : Int} (h0 : decode mi.2.1 pc = .ok (.aload_n 0, 1)) (h1 : decode mi.2.1 (pc + 1) = .ok (.iload_n 3, 1)) (h2 : decode mi.2.1 (pc + 1 + 1) = .ok (.iconst c, 1)) (h3 : decode mi.2.1 (pc + 1 + 1 + 1) = .ok (.iadd, 1)) (h4 : decode mi.2.1 (pc + 1 + 1 + 1 + 1) = .ok (.iaload, 1)) (hl0 : ls[0]? = some (some (.ref 1000))) (hl3 : ls[3]? = some (some (zi (n : Int)))) (hL : X.1 ≤ 100000) (hn : n + 6 ≤ X.1) (hc : 0 ≤ c ∧ c ≤ 5) (kk : Rz X h mi (pc + 1 + 1 + 1 + 1 + 1) ls (zi (sv X n c) :: st) I J P) : Rz X h mi pc ls st I J P :=
  rz_aload_n h0 hl0 (rz_iload_n h1 hl3 (rz_iconst h2 (rz_iadd h3 (rz_sldX h4 hL (by omega) kk))))
end LWR
abbrev lsL (n : Nat) : List (Option Value) := [some (.ref 1000), some (.ref 0), some (.ref 81), some (zi (n : Int))]
theorem lc_0 {X : pX} {h n : Nat} {I J : IM} {P : Option Value → IM → IM → Prop} (hL : X.1 ≤ 100000) (hn : n + 6 ≤ X.1) (hI : Inv I J) (hk : ∀ A B : IM, Inv A B → Rz X (h + 100 + 1) mL_law 1332 (lsL n) [] A B P) : Rz X (h + 100 + 1) mL_law 196 (lsL n) [] I J P := by
  refine rz_aload_n dL_law_196 rfl ?_
  refine la_arg dL_law_197 dL_law_198 dL_law_199 dL_law_200 dL_law_201 rfl rfl hL hn (by decide) ?_
  refine la_arg dL_law_202 dL_law_203 dL_law_204 dL_law_205 dL_law_206 rfl rfl hL hn (by decide) ?_
  refine rz_cVIq dL_law_207 kl_RL_13 hd_0 ⟨_, _, rfl⟩ (op_village (X := X) (h := h) _ _ (i32_rg _) (i32_rg _) I J hI) rfl rfl (Nat.le_of_ble_eq_true rfl) (Nat.le_of_ble_eq_true rfl) ?_
  rintro z A B q
  refine rz_aload_n dL_law_210 rfl ?_
  refine la_arg dL_law_211 dL_law_212 dL_law_213 dL_law_214 dL_law_215 rfl rfl hL hn (by decide) ?_
  refine la_arg dL_law_216 dL_law_217 dL_law_218 dL_law_219 dL_law_220 rfl rfl hL hn (by decide) ?_
  refine rz_cVIq dL_law_221 kl_RL_17 hd_81 ⟨_, _, rfl⟩ q rfl rfl (Nat.le_of_ble_eq_true rfl) (Nat.le_of_ble_eq_true rfl) ?_
  rintro z2 A2 B2 ⟨rfl, hI2⟩
  refine rz_isame (t := 1332) dL_law_224 rfl ?_
  exact hk A2 B2 hI2
theorem lc_1 {X : pX} {h n : Nat} {I J : IM} {P : Option Value → IM → IM → Prop} (hL : X.1 ≤ 100000) (hn : n + 6 ≤ X.1) (hI : Inv I J) (hk : ∀ A B : IM, Inv A B → Rz X (h + 100 + 1) mL_law 1332 (lsL n) [] A B P) : Rz X (h + 100 + 1) mL_law 229 (lsL n) [] I J P := by
  refine rz_aload_n dL_law_229 rfl ?_
  refine la_arg dL_law_230 dL_law_231 dL_law_232 dL_law_233 dL_law_234 rfl rfl hL hn (by decide) ?_
  refine la_arg dL_law_235 dL_law_236 dL_law_237 dL_law_238 dL_law_239 rfl rfl hL hn (by decide) ?_
  refine la_arg dL_law_240 dL_law_241 dL_law_242 dL_law_243 dL_law_244 rfl rfl hL hn (by decide) ?_
  refine rz_cVIq dL_law_245 kl_RL_18 hd_0 ⟨_, _, rfl⟩ (op_mend (X := X) (h := h) _ _ _ (i32_rg _) (i32_rg _) (i32_rg _) I J hI) rfl rfl (Nat.le_of_ble_eq_true rfl) (Nat.le_of_ble_eq_true rfl) ?_
  rintro z A B q
  refine rz_aload_n dL_law_248 rfl ?_
  refine la_arg dL_law_249 dL_law_250 dL_law_251 dL_law_252 dL_law_253 rfl rfl hL hn (by decide) ?_
  refine la_arg dL_law_254 dL_law_255 dL_law_256 dL_law_257 dL_law_258 rfl rfl hL hn (by decide) ?_
  refine la_arg dL_law_259 dL_law_260 dL_law_261 dL_law_262 dL_law_263 rfl rfl hL hn (by decide) ?_
  refine rz_cVIq dL_law_264 kl_RL_22 hd_81 ⟨_, _, rfl⟩ q rfl rfl (Nat.le_of_ble_eq_true rfl) (Nat.le_of_ble_eq_true rfl) ?_
  rintro z2 A2 B2 ⟨rfl, hI2⟩
  refine rz_isame (t := 1332) dL_law_267 rfl ?_
  exact hk A2 B2 hI2
theorem lc_2 {X : pX} {h n : Nat} {I J : IM} {P : Option Value → IM → IM → Prop} (hL : X.1 ≤ 100000) (hn : n + 6 ≤ X.1) (hI : Inv I J) (hk : ∀ A B : IM, Inv A B → Rz X (h + 100 + 1) mL_law 1332 (lsL n) [] A B P) : Rz X (h + 100 + 1) mL_law 272 (lsL n) [] I J P := by
  refine rz_aload_n dL_law_272 rfl ?_
  refine la_arg dL_law_273 dL_law_274 dL_law_275 dL_law_276 dL_law_277 rfl rfl hL hn (by decide) ?_
  refine la_arg dL_law_278 dL_law_279 dL_law_280 dL_law_281 dL_law_282 rfl rfl hL hn (by decide) ?_
  refine rz_cVIq dL_law_283 kl_RL_23 hd_0 ⟨_, _, rfl⟩ (op_of (X := X) (h := h) _ _ (i32_rg _) (i32_rg _) I J hI) rfl rfl (Nat.le_of_ble_eq_true rfl) (Nat.le_of_ble_eq_true rfl) ?_
  rintro z A B q
  refine rz_aload_n dL_law_286 rfl ?_
  refine la_arg dL_law_287 dL_law_288 dL_law_289 dL_law_290 dL_law_291 rfl rfl hL hn (by decide) ?_
  refine la_arg dL_law_292 dL_law_293 dL_law_294 dL_law_295 dL_law_296 rfl rfl hL hn (by decide) ?_
  refine rz_cVIq dL_law_297 kl_RL_26 hd_81 ⟨_, _, rfl⟩ q rfl rfl (Nat.le_of_ble_eq_true rfl) (Nat.le_of_ble_eq_true rfl) ?_
  rintro z2 A2 B2 ⟨rfl, hI2⟩
  refine rz_isame (t := 1332) dL_law_300 rfl ?_
  exact hk A2 B2 hI2
theorem lc_3 {X : pX} {h n : Nat} {I J : IM} {P : Option Value → IM → IM → Prop} (hL : X.1 ≤ 100000) (hn : n + 6 ≤ X.1) (hI : Inv I J) (hk : ∀ A B : IM, Inv A B → Rz X (h + 100 + 1) mL_law 1332 (lsL n) [] A B P) : Rz X (h + 100 + 1) mL_law 305 (lsL n) [] I J P := by
  refine rz_aload_n dL_law_305 rfl ?_
  refine la_arg dL_law_306 dL_law_307 dL_law_308 dL_law_309 dL_law_310 rfl rfl hL hn (by decide) ?_
  refine la_arg dL_law_311 dL_law_312 dL_law_313 dL_law_314 dL_law_315 rfl rfl hL hn (by decide) ?_
  refine la_arg dL_law_316 dL_law_317 dL_law_318 dL_law_319 dL_law_320 rfl rfl hL hn (by decide) ?_
  refine rz_cVIq dL_law_321 kl_RL_27 hd_0 ⟨_, _, rfl⟩ (op_mix (X := X) (h := h) _ _ _ (i32_rg _) (i32_rg _) (i32_rg _) I J hI) rfl rfl (Nat.le_of_ble_eq_true rfl) (Nat.le_of_ble_eq_true rfl) ?_
  rintro z A B q
  refine rz_aload_n dL_law_324 rfl ?_
  refine la_arg dL_law_325 dL_law_326 dL_law_327 dL_law_328 dL_law_329 rfl rfl hL hn (by decide) ?_
  refine la_arg dL_law_330 dL_law_331 dL_law_332 dL_law_333 dL_law_334 rfl rfl hL hn (by decide) ?_
  refine la_arg dL_law_335 dL_law_336 dL_law_337 dL_law_338 dL_law_339 rfl rfl hL hn (by decide) ?_
  refine rz_cVIq dL_law_340 kl_RL_30 hd_81 ⟨_, _, rfl⟩ q rfl rfl (Nat.le_of_ble_eq_true rfl) (Nat.le_of_ble_eq_true rfl) ?_
  rintro z2 A2 B2 ⟨rfl, hI2⟩
  refine rz_isame (t := 1332) dL_law_343 rfl ?_
  exact hk A2 B2 hI2
theorem lc_4 {X : pX} {h n : Nat} {I J : IM} {P : Option Value → IM → IM → Prop} (hL : X.1 ≤ 100000) (hn : n + 6 ≤ X.1) (hI : Inv I J) (hk : ∀ A B : IM, Inv A B → Rz X (h + 100 + 1) mL_law 1332 (lsL n) [] A B P) : Rz X (h + 100 + 1) mL_law 348 (lsL n) [] I J P := by
  refine rz_aload_n dL_law_348 rfl ?_
  refine la_arg dL_law_349 dL_law_350 dL_law_351 dL_law_352 dL_law_353 rfl rfl hL hn (by decide) ?_
  refine la_arg dL_law_354 dL_law_355 dL_law_356 dL_law_357 dL_law_358 rfl rfl hL hn (by decide) ?_
  refine la_arg dL_law_359 dL_law_360 dL_law_361 dL_law_362 dL_law_363 rfl rfl hL hn (by decide) ?_
  refine rz_cVIq dL_law_364 kl_RL_31 hd_0 ⟨_, _, rfl⟩ (op_mixes (X := X) (h := h) _ _ _ (i32_rg _) (i32_rg _) (i32_rg _) I J hI) rfl rfl (Nat.le_of_ble_eq_true rfl) (Nat.le_of_ble_eq_true rfl) ?_
  rintro z A B q
  refine rz_aload_n dL_law_367 rfl ?_
  refine la_arg dL_law_368 dL_law_369 dL_law_370 dL_law_371 dL_law_372 rfl rfl hL hn (by decide) ?_
  refine la_arg dL_law_373 dL_law_374 dL_law_375 dL_law_376 dL_law_377 rfl rfl hL hn (by decide) ?_
  refine la_arg dL_law_378 dL_law_379 dL_law_380 dL_law_381 dL_law_382 rfl rfl hL hn (by decide) ?_
  refine rz_cVIq dL_law_383 kl_RL_34 hd_81 ⟨_, _, rfl⟩ q rfl rfl (Nat.le_of_ble_eq_true rfl) (Nat.le_of_ble_eq_true rfl) ?_
  rintro z2 A2 B2 ⟨rfl, hI2⟩
  refine rz_isame (t := 1332) dL_law_386 rfl ?_
  exact hk A2 B2 hI2
theorem lc_5 {X : pX} {h n : Nat} {I J : IM} {P : Option Value → IM → IM → Prop} (hL : X.1 ≤ 100000) (hn : n + 6 ≤ X.1) (hI : Inv I J) (hk : ∀ A B : IM, Inv A B → Rz X (h + 100 + 1) mL_law 1332 (lsL n) [] A B P) : Rz X (h + 100 + 1) mL_law 391 (lsL n) [] I J P := by
  refine rz_aload_n dL_law_391 rfl ?_
  refine la_arg dL_law_392 dL_law_393 dL_law_394 dL_law_395 dL_law_396 rfl rfl hL hn (by decide) ?_
  refine rz_cVIq dL_law_397 kl_RL_35 hd_0 ⟨_, _, rfl⟩ (op_feed (X := X) (h := h) _ (i32_rg _) I J hI) rfl rfl (Nat.le_of_ble_eq_true rfl) (Nat.le_of_ble_eq_true rfl) ?_
  rintro z A B q
  refine rz_aload_n dL_law_400 rfl ?_
  refine la_arg dL_law_401 dL_law_402 dL_law_403 dL_law_404 dL_law_405 rfl rfl hL hn (by decide) ?_
  refine rz_cVIq dL_law_406 kl_RL_39 hd_81 ⟨_, _, rfl⟩ q rfl rfl (Nat.le_of_ble_eq_true rfl) (Nat.le_of_ble_eq_true rfl) ?_
  rintro z2 A2 B2 ⟨rfl, hI2⟩
  refine rz_isame (t := 1332) dL_law_409 rfl ?_
  exact hk A2 B2 hI2
theorem lc_6 {X : pX} {h n : Nat} {I J : IM} {P : Option Value → IM → IM → Prop} (hL : X.1 ≤ 100000) (hn : n + 6 ≤ X.1) (hI : Inv I J) (hk : ∀ A B : IM, Inv A B → Rz X (h + 100 + 1) mL_law 1332 (lsL n) [] A B P) : Rz X (h + 100 + 1) mL_law 414 (lsL n) [] I J P := by
  refine rz_aload_n dL_law_414 rfl ?_
  refine rz_cVIq dL_law_415 kl_RL_40 hd_0 ⟨_, _, rfl⟩ (op_law (X := X) (h := h)   I J hI) rfl rfl (Nat.le_of_ble_eq_true rfl) (Nat.le_of_ble_eq_true rfl) ?_
  rintro z A B q
  refine rz_aload_n dL_law_418 rfl ?_
  refine rz_cVIq dL_law_419 kl_RL_44 hd_81 ⟨_, _, rfl⟩ q rfl rfl (Nat.le_of_ble_eq_true rfl) (Nat.le_of_ble_eq_true rfl) ?_
  rintro z2 A2 B2 ⟨rfl, hI2⟩
  refine rz_isame (t := 1332) dL_law_422 rfl ?_
  exact hk A2 B2 hI2
theorem lc_7 {X : pX} {h n : Nat} {I J : IM} {P : Option Value → IM → IM → Prop} (hL : X.1 ≤ 100000) (hn : n + 6 ≤ X.1) (hI : Inv I J) (hk : ∀ A B : IM, Inv A B → Rz X (h + 100 + 1) mL_law 1332 (lsL n) [] A B P) : Rz X (h + 100 + 1) mL_law 427 (lsL n) [] I J P := by
  refine rz_aload_n dL_law_427 rfl ?_
  refine la_arg dL_law_428 dL_law_429 dL_law_430 dL_law_431 dL_law_432 rfl rfl hL hn (by decide) ?_
  refine la_arg dL_law_433 dL_law_434 dL_law_435 dL_law_436 dL_law_437 rfl rfl hL hn (by decide) ?_
  refine rz_cVIq dL_law_438 kl_RL_45 hd_0 ⟨_, _, rfl⟩ (op_won (X := X) (h := h) _ _ (i32_rg _) (i32_rg _) I J hI) rfl rfl (Nat.le_of_ble_eq_true rfl) (Nat.le_of_ble_eq_true rfl) ?_
  rintro z A B q
  refine rz_aload_n dL_law_441 rfl ?_
  refine la_arg dL_law_442 dL_law_443 dL_law_444 dL_law_445 dL_law_446 rfl rfl hL hn (by decide) ?_
  refine la_arg dL_law_447 dL_law_448 dL_law_449 dL_law_450 dL_law_451 rfl rfl hL hn (by decide) ?_
  refine rz_cVIq dL_law_452 kl_RL_48 hd_81 ⟨_, _, rfl⟩ q rfl rfl (Nat.le_of_ble_eq_true rfl) (Nat.le_of_ble_eq_true rfl) ?_
  rintro z2 A2 B2 ⟨rfl, hI2⟩
  refine rz_isame (t := 1332) dL_law_455 rfl ?_
  exact hk A2 B2 hI2
theorem lc_8 {X : pX} {h n : Nat} {I J : IM} {P : Option Value → IM → IM → Prop} (hL : X.1 ≤ 100000) (hn : n + 6 ≤ X.1) (hI : Inv I J) (hk : ∀ A B : IM, Inv A B → Rz X (h + 100 + 1) mL_law 1332 (lsL n) [] A B P) : Rz X (h + 100 + 1) mL_law 460 (lsL n) [] I J P := by
  refine rz_aload_n dL_law_460 rfl ?_
  refine la_arg dL_law_461 dL_law_462 dL_law_463 dL_law_464 dL_law_465 rfl rfl hL hn (by decide) ?_
  refine la_arg dL_law_466 dL_law_467 dL_law_468 dL_law_469 dL_law_470 rfl rfl hL hn (by decide) ?_
  refine rz_cVIq dL_law_471 kl_RL_49 hd_0 ⟨_, _, rfl⟩ (op_score (X := X) (h := h) _ _ (i32_rg _) (i32_rg _) I J hI) rfl rfl (Nat.le_of_ble_eq_true rfl) (Nat.le_of_ble_eq_true rfl) ?_
  rintro z A B q
  refine rz_aload_n dL_law_474 rfl ?_
  refine la_arg dL_law_475 dL_law_476 dL_law_477 dL_law_478 dL_law_479 rfl rfl hL hn (by decide) ?_
  refine la_arg dL_law_480 dL_law_481 dL_law_482 dL_law_483 dL_law_484 rfl rfl hL hn (by decide) ?_
  refine rz_cVIq dL_law_485 kl_RL_52 hd_81 ⟨_, _, rfl⟩ q rfl rfl (Nat.le_of_ble_eq_true rfl) (Nat.le_of_ble_eq_true rfl) ?_
  rintro z2 A2 B2 ⟨rfl, hI2⟩
  refine rz_isame (t := 1332) dL_law_488 rfl ?_
  exact hk A2 B2 hI2
theorem lc_9 {X : pX} {h n : Nat} {I J : IM} {P : Option Value → IM → IM → Prop} (hL : X.1 ≤ 100000) (hn : n + 6 ≤ X.1) (hI : Inv I J) (hk : ∀ A B : IM, Inv A B → Rz X (h + 100 + 1) mL_law 1332 (lsL n) [] A B P) : Rz X (h + 100 + 1) mL_law 493 (lsL n) [] I J P := by
  refine rz_aload_n dL_law_493 rfl ?_
  refine la_arg dL_law_494 dL_law_495 dL_law_496 dL_law_497 dL_law_498 rfl rfl hL hn (by decide) ?_
  refine rz_cVLq dL_law_499 kl_RL_53 hd_0 ⟨_, _, rfl⟩ (op_mean (X := X) (h := h) _ (i32_rg _) I J hI) rfl rfl (Nat.le_of_ble_eq_true rfl) (Nat.le_of_ble_eq_true rfl) ?_
  rintro z A B q
  refine rz_aload_n dL_law_502 rfl ?_
  refine la_arg dL_law_503 dL_law_504 dL_law_505 dL_law_506 dL_law_507 rfl rfl hL hn (by decide) ?_
  refine rz_cVLq dL_law_508 kl_RL_57 hd_81 ⟨_, _, rfl⟩ q rfl rfl (Nat.le_of_ble_eq_true rfl) (Nat.le_of_ble_eq_true rfl) ?_
  rintro z2 A2 B2 ⟨rfl, hI2⟩
  refine rz_lsame (t := 1332) dL_law_511 rfl dL_law_512 rfl ?_
  exact hk A2 B2 hI2
theorem lc_10 {X : pX} {h n : Nat} {I J : IM} {P : Option Value → IM → IM → Prop} (hL : X.1 ≤ 100000) (hn : n + 6 ≤ X.1) (hI : Inv I J) (hk : ∀ A B : IM, Inv A B → Rz X (h + 100 + 1) mL_law 1332 (lsL n) [] A B P) : Rz X (h + 100 + 1) mL_law 517 (lsL n) [] I J P := by
  refine rz_aload_n dL_law_517 rfl ?_
  refine la_arg dL_law_518 dL_law_519 dL_law_520 dL_law_521 dL_law_522 rfl rfl hL hn (by decide) ?_
  refine rz_cVIq dL_law_523 kl_RL_58 hd_0 ⟨_, _, rfl⟩ (op_best (X := X) (h := h) _ (i32_rg _) I J hI) rfl rfl (Nat.le_of_ble_eq_true rfl) (Nat.le_of_ble_eq_true rfl) ?_
  rintro z A B q
  refine rz_aload_n dL_law_526 rfl ?_
  refine la_arg dL_law_527 dL_law_528 dL_law_529 dL_law_530 dL_law_531 rfl rfl hL hn (by decide) ?_
  refine rz_cVIq dL_law_532 kl_RL_61 hd_81 ⟨_, _, rfl⟩ q rfl rfl (Nat.le_of_ble_eq_true rfl) (Nat.le_of_ble_eq_true rfl) ?_
  rintro z2 A2 B2 ⟨rfl, hI2⟩
  refine rz_isame (t := 1332) dL_law_535 rfl ?_
  exact hk A2 B2 hI2
theorem lc_11 {X : pX} {h n : Nat} {I J : IM} {P : Option Value → IM → IM → Prop} (hL : X.1 ≤ 100000) (hn : n + 6 ≤ X.1) (hI : Inv I J) (hk : ∀ A B : IM, Inv A B → Rz X (h + 100 + 1) mL_law 1332 (lsL n) [] A B P) : Rz X (h + 100 + 1) mL_law 540 (lsL n) [] I J P := by
  refine rz_aload_n dL_law_540 rfl ?_
  refine la_arg dL_law_541 dL_law_542 dL_law_543 dL_law_544 dL_law_545 rfl rfl hL hn (by decide) ?_
  refine la_arg dL_law_546 dL_law_547 dL_law_548 dL_law_549 dL_law_550 rfl rfl hL hn (by decide) ?_
  refine la_arg dL_law_551 dL_law_552 dL_law_553 dL_law_554 dL_law_555 rfl rfl hL hn (by decide) ?_
  refine rz_cVLq dL_law_556 kl_RL_62 hd_0 ⟨_, _, rfl⟩ (op_line (X := X) (h := h) _ _ _ (i32_rg _) (i32_rg _) (i32_rg _) I J hI) rfl rfl (Nat.le_of_ble_eq_true rfl) (Nat.le_of_ble_eq_true rfl) ?_
  rintro z A B q
  refine rz_aload_n dL_law_559 rfl ?_
  refine la_arg dL_law_560 dL_law_561 dL_law_562 dL_law_563 dL_law_564 rfl rfl hL hn (by decide) ?_
  refine la_arg dL_law_565 dL_law_566 dL_law_567 dL_law_568 dL_law_569 rfl rfl hL hn (by decide) ?_
  refine la_arg dL_law_570 dL_law_571 dL_law_572 dL_law_573 dL_law_574 rfl rfl hL hn (by decide) ?_
  refine rz_cVLq dL_law_575 kl_RL_66 hd_81 ⟨_, _, rfl⟩ q rfl rfl (Nat.le_of_ble_eq_true rfl) (Nat.le_of_ble_eq_true rfl) ?_
  rintro z2 A2 B2 ⟨rfl, hI2⟩
  refine rz_lsame (t := 1332) dL_law_578 rfl dL_law_579 rfl ?_
  exact hk A2 B2 hI2
theorem lc_12 {X : pX} {h n : Nat} {I J : IM} {P : Option Value → IM → IM → Prop} (hL : X.1 ≤ 100000) (hn : n + 6 ≤ X.1) (hI : Inv I J) (hk : ∀ A B : IM, Inv A B → Rz X (h + 100 + 1) mL_law 1332 (lsL n) [] A B P) : Rz X (h + 100 + 1) mL_law 584 (lsL n) [] I J P := by
  refine rz_aload_n dL_law_584 rfl ?_
  refine la_arg dL_law_585 dL_law_586 dL_law_587 dL_law_588 dL_law_589 rfl rfl hL hn (by decide) ?_
  refine la_arg dL_law_590 dL_law_591 dL_law_592 dL_law_593 dL_law_594 rfl rfl hL hn (by decide) ?_
  refine rz_cVLq dL_law_595 kl_RL_67 hd_0 ⟨_, _, rfl⟩ (op_spy (X := X) (h := h) _ _ (i32_rg _) (i32_rg _) I J hI) rfl rfl (Nat.le_of_ble_eq_true rfl) (Nat.le_of_ble_eq_true rfl) ?_
  rintro z A B q
  refine rz_aload_n dL_law_598 rfl ?_
  refine la_arg dL_law_599 dL_law_600 dL_law_601 dL_law_602 dL_law_603 rfl rfl hL hn (by decide) ?_
  refine la_arg dL_law_604 dL_law_605 dL_law_606 dL_law_607 dL_law_608 rfl rfl hL hn (by decide) ?_
  refine rz_cVLq dL_law_609 kl_RL_71 hd_81 ⟨_, _, rfl⟩ q rfl rfl (Nat.le_of_ble_eq_true rfl) (Nat.le_of_ble_eq_true rfl) ?_
  rintro z2 A2 B2 ⟨rfl, hI2⟩
  refine rz_lsame (t := 1332) dL_law_612 rfl dL_law_613 rfl ?_
  exact hk A2 B2 hI2
theorem lc_13 {X : pX} {h n : Nat} {I J : IM} {P : Option Value → IM → IM → Prop} (hL : X.1 ≤ 100000) (hn : n + 6 ≤ X.1) (hI : Inv I J) (hk : ∀ A B : IM, Inv A B → Rz X (h + 100 + 1) mL_law 1332 (lsL n) [] A B P) : Rz X (h + 100 + 1) mL_law 618 (lsL n) [] I J P := by
  refine rz_aload_n dL_law_618 rfl ?_
  refine la_arg dL_law_619 dL_law_620 dL_law_621 dL_law_622 dL_law_623 rfl rfl hL hn (by decide) ?_
  refine la_arg dL_law_624 dL_law_625 dL_law_626 dL_law_627 dL_law_628 rfl rfl hL hn (by decide) ?_
  refine rz_cVLq dL_law_629 kl_RL_72 hd_0 ⟨_, _, rfl⟩ (op_broke (X := X) (h := h) _ _ (i32_rg _) (i32_rg _) I J hI) rfl rfl (Nat.le_of_ble_eq_true rfl) (Nat.le_of_ble_eq_true rfl) ?_
  rintro z A B q
  refine rz_aload_n dL_law_632 rfl ?_
  refine la_arg dL_law_633 dL_law_634 dL_law_635 dL_law_636 dL_law_637 rfl rfl hL hn (by decide) ?_
  refine la_arg dL_law_638 dL_law_639 dL_law_640 dL_law_641 dL_law_642 rfl rfl hL hn (by decide) ?_
  refine rz_cVLq dL_law_643 kl_RL_75 hd_81 ⟨_, _, rfl⟩ q rfl rfl (Nat.le_of_ble_eq_true rfl) (Nat.le_of_ble_eq_true rfl) ?_
  rintro z2 A2 B2 ⟨rfl, hI2⟩
  refine rz_lsame (t := 1332) dL_law_646 rfl dL_law_647 rfl ?_
  exact hk A2 B2 hI2
theorem lc_14 {X : pX} {h n : Nat} {I J : IM} {P : Option Value → IM → IM → Prop} (hL : X.1 ≤ 100000) (hn : n + 6 ≤ X.1) (hI : Inv I J) (hk : ∀ A B : IM, Inv A B → Rz X (h + 100 + 1) mL_law 1332 (lsL n) [] A B P) : Rz X (h + 100 + 1) mL_law 652 (lsL n) [] I J P := by
  refine rz_aload_n dL_law_652 rfl ?_
  refine la_arg dL_law_653 dL_law_654 dL_law_655 dL_law_656 dL_law_657 rfl rfl hL hn (by decide) ?_
  refine la_arg dL_law_658 dL_law_659 dL_law_660 dL_law_661 dL_law_662 rfl rfl hL hn (by decide) ?_
  refine rz_cVIq dL_law_663 kl_RL_76 hd_0 ⟨_, _, rfl⟩ (op_beaten (X := X) (h := h) _ _ (i32_rg _) (i32_rg _) I J hI) rfl rfl (Nat.le_of_ble_eq_true rfl) (Nat.le_of_ble_eq_true rfl) ?_
  rintro z A B q
  refine rz_aload_n dL_law_666 rfl ?_
  refine la_arg dL_law_667 dL_law_668 dL_law_669 dL_law_670 dL_law_671 rfl rfl hL hn (by decide) ?_
  refine la_arg dL_law_672 dL_law_673 dL_law_674 dL_law_675 dL_law_676 rfl rfl hL hn (by decide) ?_
  refine rz_cVIq dL_law_677 kl_RL_79 hd_81 ⟨_, _, rfl⟩ q rfl rfl (Nat.le_of_ble_eq_true rfl) (Nat.le_of_ble_eq_true rfl) ?_
  rintro z2 A2 B2 ⟨rfl, hI2⟩
  refine rz_isame (t := 1332) dL_law_680 rfl ?_
  exact hk A2 B2 hI2
theorem lc_15 {X : pX} {h n : Nat} {I J : IM} {P : Option Value → IM → IM → Prop} (hL : X.1 ≤ 100000) (hn : n + 6 ≤ X.1) (hI : Inv I J) (hk : ∀ A B : IM, Inv A B → Rz X (h + 100 + 1) mL_law 1332 (lsL n) [] A B P) : Rz X (h + 100 + 1) mL_law 685 (lsL n) [] I J P := by
  refine rz_aload_n dL_law_685 rfl ?_
  refine la_arg dL_law_686 dL_law_687 dL_law_688 dL_law_689 dL_law_690 rfl rfl hL hn (by decide) ?_
  refine la_arg dL_law_691 dL_law_692 dL_law_693 dL_law_694 dL_law_695 rfl rfl hL hn (by decide) ?_
  refine rz_cVIq dL_law_696 kl_RL_80 hd_0 ⟨_, _, rfl⟩ (op_safest (X := X) (h := h) _ _ (i32_rg _) (i32_rg _) I J hI) rfl rfl (Nat.le_of_ble_eq_true rfl) (Nat.le_of_ble_eq_true rfl) ?_
  rintro z A B q
  refine rz_aload_n dL_law_699 rfl ?_
  refine la_arg dL_law_700 dL_law_701 dL_law_702 dL_law_703 dL_law_704 rfl rfl hL hn (by decide) ?_
  refine la_arg dL_law_705 dL_law_706 dL_law_707 dL_law_708 dL_law_709 rfl rfl hL hn (by decide) ?_
  refine rz_cVIq dL_law_710 kl_RL_83 hd_81 ⟨_, _, rfl⟩ q rfl rfl (Nat.le_of_ble_eq_true rfl) (Nat.le_of_ble_eq_true rfl) ?_
  rintro z2 A2 B2 ⟨rfl, hI2⟩
  refine rz_isame (t := 1332) dL_law_713 rfl ?_
  exact hk A2 B2 hI2
theorem lc_16 {X : pX} {h n : Nat} {I J : IM} {P : Option Value → IM → IM → Prop} (hL : X.1 ≤ 100000) (hn : n + 6 ≤ X.1) (hI : Inv I J) (hk : ∀ A B : IM, Inv A B → Rz X (h + 100 + 1) mL_law 1332 (lsL n) [] A B P) : Rz X (h + 100 + 1) mL_law 718 (lsL n) [] I J P := by
  refine rz_aload_n dL_law_718 rfl ?_
  refine la_arg dL_law_719 dL_law_720 dL_law_721 dL_law_722 dL_law_723 rfl rfl hL hn (by decide) ?_
  refine rz_cVIq dL_law_724 kl_RL_84 hd_0 ⟨_, _, rfl⟩ (op_ring (X := X) (h := h) _ (i32_rg _) I J hI) rfl rfl (Nat.le_of_ble_eq_true rfl) (Nat.le_of_ble_eq_true rfl) ?_
  rintro z A B q
  refine rz_aload_n dL_law_727 rfl ?_
  refine la_arg dL_law_728 dL_law_729 dL_law_730 dL_law_731 dL_law_732 rfl rfl hL hn (by decide) ?_
  refine rz_cVIq dL_law_733 kl_RL_87 hd_81 ⟨_, _, rfl⟩ q rfl rfl (Nat.le_of_ble_eq_true rfl) (Nat.le_of_ble_eq_true rfl) ?_
  rintro z2 A2 B2 ⟨rfl, hI2⟩
  refine rz_isame (t := 1332) dL_law_736 rfl ?_
  exact hk A2 B2 hI2
theorem lc_17 {X : pX} {h n : Nat} {I J : IM} {P : Option Value → IM → IM → Prop} (hL : X.1 ≤ 100000) (hn : n + 6 ≤ X.1) (hI : Inv I J) (hk : ∀ A B : IM, Inv A B → Rz X (h + 100 + 1) mL_law 1332 (lsL n) [] A B P) : Rz X (h + 100 + 1) mL_law 741 (lsL n) [] I J P := by
  refine rz_aload_n dL_law_741 rfl ?_
  refine la_arg dL_law_742 dL_law_743 dL_law_744 dL_law_745 dL_law_746 rfl rfl hL hn (by decide) ?_
  refine rz_cVIq dL_law_747 kl_RL_88 hd_0 ⟨_, _, rfl⟩ (op_rest (X := X) (h := h) _ (i32_rg _) I J hI) rfl rfl (Nat.le_of_ble_eq_true rfl) (Nat.le_of_ble_eq_true rfl) ?_
  rintro z A B q
  refine rz_aload_n dL_law_750 rfl ?_
  refine la_arg dL_law_751 dL_law_752 dL_law_753 dL_law_754 dL_law_755 rfl rfl hL hn (by decide) ?_
  refine rz_cVIq dL_law_756 kl_RL_91 hd_81 ⟨_, _, rfl⟩ q rfl rfl (Nat.le_of_ble_eq_true rfl) (Nat.le_of_ble_eq_true rfl) ?_
  rintro z2 A2 B2 ⟨rfl, hI2⟩
  refine rz_isame (t := 1332) dL_law_759 rfl ?_
  exact hk A2 B2 hI2
theorem lc_18 {X : pX} {h n : Nat} {I J : IM} {P : Option Value → IM → IM → Prop} (hL : X.1 ≤ 100000) (hn : n + 6 ≤ X.1) (hI : Inv I J) (hk : ∀ A B : IM, Inv A B → Rz X (h + 100 + 1) mL_law 1332 (lsL n) [] A B P) : Rz X (h + 100 + 1) mL_law 764 (lsL n) [] I J P := by
  refine rz_aload_n dL_law_764 rfl ?_
  refine la_arg dL_law_765 dL_law_766 dL_law_767 dL_law_768 dL_law_769 rfl rfl hL hn (by decide) ?_
  refine rz_cVIq dL_law_770 kl_RL_92 hd_0 ⟨_, _, rfl⟩ (op_sure (X := X) (h := h) _ (i32_rg _) I J hI) rfl rfl (Nat.le_of_ble_eq_true rfl) (Nat.le_of_ble_eq_true rfl) ?_
  rintro z A B q
  refine rz_aload_n dL_law_773 rfl ?_
  refine la_arg dL_law_774 dL_law_775 dL_law_776 dL_law_777 dL_law_778 rfl rfl hL hn (by decide) ?_
  refine rz_cVIq dL_law_779 kl_RL_95 hd_81 ⟨_, _, rfl⟩ q rfl rfl (Nat.le_of_ble_eq_true rfl) (Nat.le_of_ble_eq_true rfl) ?_
  rintro z2 A2 B2 ⟨rfl, hI2⟩
  refine rz_isame (t := 1332) dL_law_782 rfl ?_
  exact hk A2 B2 hI2
theorem lc_19 {X : pX} {h n : Nat} {I J : IM} {P : Option Value → IM → IM → Prop} (hL : X.1 ≤ 100000) (hn : n + 6 ≤ X.1) (hI : Inv I J) (hk : ∀ A B : IM, Inv A B → Rz X (h + 100 + 1) mL_law 1332 (lsL n) [] A B P) : Rz X (h + 100 + 1) mL_law 787 (lsL n) [] I J P := by
  refine rz_aload_n dL_law_787 rfl ?_
  refine la_arg dL_law_788 dL_law_789 dL_law_790 dL_law_791 dL_law_792 rfl rfl hL hn (by decide) ?_
  refine rz_cVIq dL_law_793 kl_RL_96 hd_0 ⟨_, _, rfl⟩ (op_most (X := X) (h := h) _ (i32_rg _) I J hI) rfl rfl (Nat.le_of_ble_eq_true rfl) (Nat.le_of_ble_eq_true rfl) ?_
  rintro z A B q
  refine rz_aload_n dL_law_796 rfl ?_
  refine la_arg dL_law_797 dL_law_798 dL_law_799 dL_law_800 dL_law_801 rfl rfl hL hn (by decide) ?_
  refine rz_cVIq dL_law_802 kl_RL_99 hd_81 ⟨_, _, rfl⟩ q rfl rfl (Nat.le_of_ble_eq_true rfl) (Nat.le_of_ble_eq_true rfl) ?_
  rintro z2 A2 B2 ⟨rfl, hI2⟩
  refine rz_isame (t := 1332) dL_law_805 rfl ?_
  exact hk A2 B2 hI2
theorem lc_20 {X : pX} {h n : Nat} {I J : IM} {P : Option Value → IM → IM → Prop} (hL : X.1 ≤ 100000) (hn : n + 6 ≤ X.1) (hI : Inv I J) (hk : ∀ A B : IM, Inv A B → Rz X (h + 100 + 1) mL_law 1332 (lsL n) [] A B P) : Rz X (h + 100 + 1) mL_law 810 (lsL n) [] I J P := by
  refine rz_aload_n dL_law_810 rfl ?_
  refine la_arg dL_law_811 dL_law_812 dL_law_813 dL_law_814 dL_law_815 rfl rfl hL hn (by decide) ?_
  refine rz_cVIq dL_law_816 kl_RL_100 hd_0 ⟨_, _, rfl⟩ (op_fewest (X := X) (h := h) _ (i32_rg _) I J hI) rfl rfl (Nat.le_of_ble_eq_true rfl) (Nat.le_of_ble_eq_true rfl) ?_
  rintro z A B q
  refine rz_aload_n dL_law_819 rfl ?_
  refine la_arg dL_law_820 dL_law_821 dL_law_822 dL_law_823 dL_law_824 rfl rfl hL hn (by decide) ?_
  refine rz_cVIq dL_law_825 kl_RL_103 hd_81 ⟨_, _, rfl⟩ q rfl rfl (Nat.le_of_ble_eq_true rfl) (Nat.le_of_ble_eq_true rfl) ?_
  rintro z2 A2 B2 ⟨rfl, hI2⟩
  refine rz_isame (t := 1332) dL_law_828 rfl ?_
  exact hk A2 B2 hI2
theorem lc_21 {X : pX} {h n : Nat} {I J : IM} {P : Option Value → IM → IM → Prop} (hL : X.1 ≤ 100000) (hn : n + 6 ≤ X.1) (hI : Inv I J) (hk : ∀ A B : IM, Inv A B → Rz X (h + 100 + 1) mL_law 1332 (lsL n) [] A B P) : Rz X (h + 100 + 1) mL_law 833 (lsL n) [] I J P := by
  refine rz_aload_n dL_law_833 rfl ?_
  refine la_arg dL_law_834 dL_law_835 dL_law_836 dL_law_837 dL_law_838 rfl rfl hL hn (by decide) ?_
  refine la_arg dL_law_839 dL_law_840 dL_law_841 dL_law_842 dL_law_843 rfl rfl hL hn (by decide) ?_
  refine rz_cVIq dL_law_844 kl_RL_104 hd_0 ⟨_, _, rfl⟩ (op_year (X := X) (h := h) _ _ (i32_rg _) (i32_rg _) I J hI) rfl rfl (Nat.le_of_ble_eq_true rfl) (Nat.le_of_ble_eq_true rfl) ?_
  rintro z A B q
  refine rz_aload_n dL_law_847 rfl ?_
  refine la_arg dL_law_848 dL_law_849 dL_law_850 dL_law_851 dL_law_852 rfl rfl hL hn (by decide) ?_
  refine la_arg dL_law_853 dL_law_854 dL_law_855 dL_law_856 dL_law_857 rfl rfl hL hn (by decide) ?_
  refine rz_cVIq dL_law_858 kl_RL_107 hd_81 ⟨_, _, rfl⟩ q rfl rfl (Nat.le_of_ble_eq_true rfl) (Nat.le_of_ble_eq_true rfl) ?_
  rintro z2 A2 B2 ⟨rfl, hI2⟩
  refine rz_isame (t := 1332) dL_law_861 rfl ?_
  exact hk A2 B2 hI2
theorem lc_22 {X : pX} {h n : Nat} {I J : IM} {P : Option Value → IM → IM → Prop} (hL : X.1 ≤ 100000) (hn : n + 6 ≤ X.1) (hI : Inv I J) (hk : ∀ A B : IM, Inv A B → Rz X (h + 100 + 1) mL_law 1332 (lsL n) [] A B P) : Rz X (h + 100 + 1) mL_law 866 (lsL n) [] I J P := by
  refine rz_aload_n dL_law_866 rfl ?_
  refine la_arg dL_law_867 dL_law_868 dL_law_869 dL_law_870 dL_law_871 rfl rfl hL hn (by decide) ?_
  refine rz_cVIq dL_law_872 kl_RL_108 hd_0 ⟨_, _, rfl⟩ (op_years (X := X) (h := h) _ (i32_rg _) I J hI) rfl rfl (Nat.le_of_ble_eq_true rfl) (Nat.le_of_ble_eq_true rfl) ?_
  rintro z A B q
  refine rz_aload_n dL_law_875 rfl ?_
  refine la_arg dL_law_876 dL_law_877 dL_law_878 dL_law_879 dL_law_880 rfl rfl hL hn (by decide) ?_
  refine rz_cVIq dL_law_881 kl_RL_111 hd_81 ⟨_, _, rfl⟩ q rfl rfl (Nat.le_of_ble_eq_true rfl) (Nat.le_of_ble_eq_true rfl) ?_
  rintro z2 A2 B2 ⟨rfl, hI2⟩
  refine rz_isame (t := 1332) dL_law_884 rfl ?_
  exact hk A2 B2 hI2
theorem lc_23 {X : pX} {h n : Nat} {I J : IM} {P : Option Value → IM → IM → Prop} (hL : X.1 ≤ 100000) (hn : n + 6 ≤ X.1) (hI : Inv I J) (hk : ∀ A B : IM, Inv A B → Rz X (h + 100 + 1) mL_law 1332 (lsL n) [] A B P) : Rz X (h + 100 + 1) mL_law 889 (lsL n) [] I J P := by
  refine rz_aload_n dL_law_889 rfl ?_
  refine rz_cVIq dL_law_890 kl_RL_112 hd_0 ⟨_, _, rfl⟩ (op_image (X := X) (h := h)   I J hI) rfl rfl (Nat.le_of_ble_eq_true rfl) (Nat.le_of_ble_eq_true rfl) ?_
  rintro z A B q
  refine rz_aload_n dL_law_893 rfl ?_
  refine rz_cVIq dL_law_894 kl_RL_115 hd_81 ⟨_, _, rfl⟩ q rfl rfl (Nat.le_of_ble_eq_true rfl) (Nat.le_of_ble_eq_true rfl) ?_
  rintro z2 A2 B2 ⟨rfl, hI2⟩
  refine rz_isame (t := 1332) dL_law_897 rfl ?_
  exact hk A2 B2 hI2
theorem lc_24 {X : pX} {h n : Nat} {I J : IM} {P : Option Value → IM → IM → Prop} (hL : X.1 ≤ 100000) (hn : n + 6 ≤ X.1) (hI : Inv I J) (hk : ∀ A B : IM, Inv A B → Rz X (h + 100 + 1) mL_law 1332 (lsL n) [] A B P) : Rz X (h + 100 + 1) mL_law 902 (lsL n) [] I J P := by
  refine rz_aload_n dL_law_902 rfl ?_
  refine rz_cVIq dL_law_903 kl_RL_116 hd_0 ⟨_, _, rfl⟩ (op_back (X := X) (h := h)   I J hI) rfl rfl (Nat.le_of_ble_eq_true rfl) (Nat.le_of_ble_eq_true rfl) ?_
  rintro z A B q
  refine rz_aload_n dL_law_906 rfl ?_
  refine rz_cVIq dL_law_907 kl_RL_119 hd_81 ⟨_, _, rfl⟩ q rfl rfl (Nat.le_of_ble_eq_true rfl) (Nat.le_of_ble_eq_true rfl) ?_
  rintro z2 A2 B2 ⟨rfl, hI2⟩
  refine rz_isame (t := 1332) dL_law_910 rfl ?_
  exact hk A2 B2 hI2
theorem lc_25 {X : pX} {h n : Nat} {I J : IM} {P : Option Value → IM → IM → Prop} (hL : X.1 ≤ 100000) (hn : n + 6 ≤ X.1) (hI : Inv I J) (hk : ∀ A B : IM, Inv A B → Rz X (h + 100 + 1) mL_law 1332 (lsL n) [] A B P) : Rz X (h + 100 + 1) mL_law 915 (lsL n) [] I J P := by
  refine rz_aload_n dL_law_915 rfl ?_
  refine rz_cVIq dL_law_916 kl_RL_120 hd_0 ⟨_, _, rfl⟩ (op_undo (X := X) (h := h)   I J hI) rfl rfl (Nat.le_of_ble_eq_true rfl) (Nat.le_of_ble_eq_true rfl) ?_
  rintro z A B q
  refine rz_aload_n dL_law_919 rfl ?_
  refine rz_cVIq dL_law_920 kl_RL_123 hd_81 ⟨_, _, rfl⟩ q rfl rfl (Nat.le_of_ble_eq_true rfl) (Nat.le_of_ble_eq_true rfl) ?_
  rintro z2 A2 B2 ⟨rfl, hI2⟩
  refine rz_isame (t := 1332) dL_law_923 rfl ?_
  exact hk A2 B2 hI2
theorem lc_26 {X : pX} {h n : Nat} {I J : IM} {P : Option Value → IM → IM → Prop} (hL : X.1 ≤ 100000) (hn : n + 6 ≤ X.1) (hI : Inv I J) (hk : ∀ A B : IM, Inv A B → Rz X (h + 100 + 1) mL_law 1332 (lsL n) [] A B P) : Rz X (h + 100 + 1) mL_law 928 (lsL n) [] I J P := by
  refine rz_aload_n dL_law_928 rfl ?_
  refine rz_cVIq dL_law_929 kl_RL_124 hd_0 ⟨_, _, rfl⟩ (op_redo (X := X) (h := h)   I J hI) rfl rfl (Nat.le_of_ble_eq_true rfl) (Nat.le_of_ble_eq_true rfl) ?_
  rintro z A B q
  refine rz_aload_n dL_law_932 rfl ?_
  refine rz_cVIq dL_law_933 kl_RL_127 hd_81 ⟨_, _, rfl⟩ q rfl rfl (Nat.le_of_ble_eq_true rfl) (Nat.le_of_ble_eq_true rfl) ?_
  rintro z2 A2 B2 ⟨rfl, hI2⟩
  refine rz_isame (t := 1332) dL_law_936 rfl ?_
  exact hk A2 B2 hI2
theorem lc_27 {X : pX} {h n : Nat} {I J : IM} {P : Option Value → IM → IM → Prop} (hL : X.1 ≤ 100000) (hn : n + 6 ≤ X.1) (hI : Inv I J) (hk : ∀ A B : IM, Inv A B → Rz X (h + 100 + 1) mL_law 1332 (lsL n) [] A B P) : Rz X (h + 100 + 1) mL_law 941 (lsL n) [] I J P := by
  refine rz_aload_n dL_law_941 rfl ?_
  refine la_arg dL_law_942 dL_law_943 dL_law_944 dL_law_945 dL_law_946 rfl rfl hL hn (by decide) ?_
  refine rz_cVIq dL_law_947 kl_RL_128 hd_0 ⟨_, _, rfl⟩ (op_body (X := X) (h := h) _ (i32_rg _) I J hI) rfl rfl (Nat.le_of_ble_eq_true rfl) (Nat.le_of_ble_eq_true rfl) ?_
  rintro z A B q
  refine rz_aload_n dL_law_950 rfl ?_
  refine la_arg dL_law_951 dL_law_952 dL_law_953 dL_law_954 dL_law_955 rfl rfl hL hn (by decide) ?_
  refine rz_cVIq dL_law_956 kl_RL_131 hd_81 ⟨_, _, rfl⟩ q rfl rfl (Nat.le_of_ble_eq_true rfl) (Nat.le_of_ble_eq_true rfl) ?_
  rintro z2 A2 B2 ⟨rfl, hI2⟩
  refine rz_isame (t := 1332) dL_law_959 rfl ?_
  exact hk A2 B2 hI2
theorem lc_28 {X : pX} {h n : Nat} {I J : IM} {P : Option Value → IM → IM → Prop} (hL : X.1 ≤ 100000) (hn : n + 6 ≤ X.1) (hI : Inv I J) (hk : ∀ A B : IM, Inv A B → Rz X (h + 100 + 1) mL_law 1332 (lsL n) [] A B P) : Rz X (h + 100 + 1) mL_law 964 (lsL n) [] I J P := by
  refine rz_aload_n dL_law_964 rfl ?_
  refine la_arg dL_law_965 dL_law_966 dL_law_967 dL_law_968 dL_law_969 rfl rfl hL hn (by decide) ?_
  refine la_arg dL_law_970 dL_law_971 dL_law_972 dL_law_973 dL_law_974 rfl rfl hL hn (by decide) ?_
  refine la_arg dL_law_975 dL_law_976 dL_law_977 dL_law_978 dL_law_979 rfl rfl hL hn (by decide) ?_
  refine rz_cVIq dL_law_980 kl_RL_132 hd_0 ⟨_, _, rfl⟩ (op_act (X := X) (h := h) _ _ _ (i32_rg _) (i32_rg _) (i32_rg _) I J hI) rfl rfl (Nat.le_of_ble_eq_true rfl) (Nat.le_of_ble_eq_true rfl) ?_
  rintro z A B q
  refine rz_aload_n dL_law_983 rfl ?_
  refine la_arg dL_law_984 dL_law_985 dL_law_986 dL_law_987 dL_law_988 rfl rfl hL hn (by decide) ?_
  refine la_arg dL_law_989 dL_law_990 dL_law_991 dL_law_992 dL_law_993 rfl rfl hL hn (by decide) ?_
  refine la_arg dL_law_994 dL_law_995 dL_law_996 dL_law_997 dL_law_998 rfl rfl hL hn (by decide) ?_
  refine rz_cVIq dL_law_999 kl_RL_135 hd_81 ⟨_, _, rfl⟩ q rfl rfl (Nat.le_of_ble_eq_true rfl) (Nat.le_of_ble_eq_true rfl) ?_
  rintro z2 A2 B2 ⟨rfl, hI2⟩
  refine rz_isame (t := 1332) dL_law_1002 rfl ?_
  exact hk A2 B2 hI2
theorem lc_29 {X : pX} {h n : Nat} {I J : IM} {P : Option Value → IM → IM → Prop} (hL : X.1 ≤ 100000) (hn : n + 6 ≤ X.1) (hI : Inv I J) (hk : ∀ A B : IM, Inv A B → Rz X (h + 100 + 1) mL_law 1332 (lsL n) [] A B P) : Rz X (h + 100 + 1) mL_law 1007 (lsL n) [] I J P := by
  refine rz_aload_n dL_law_1007 rfl ?_
  refine la_arg dL_law_1008 dL_law_1009 dL_law_1010 dL_law_1011 dL_law_1012 rfl rfl hL hn (by decide) ?_
  refine rz_cVIq dL_law_1013 kl_RL_136 hd_0 ⟨_, _, rfl⟩ (op_trace (X := X) (h := h) _ (i32_rg _) I J hI) rfl rfl (Nat.le_of_ble_eq_true rfl) (Nat.le_of_ble_eq_true rfl) ?_
  rintro z A B q
  refine rz_aload_n dL_law_1016 rfl ?_
  refine la_arg dL_law_1017 dL_law_1018 dL_law_1019 dL_law_1020 dL_law_1021 rfl rfl hL hn (by decide) ?_
  refine rz_cVIq dL_law_1022 kl_RL_139 hd_81 ⟨_, _, rfl⟩ q rfl rfl (Nat.le_of_ble_eq_true rfl) (Nat.le_of_ble_eq_true rfl) ?_
  rintro z2 A2 B2 ⟨rfl, hI2⟩
  refine rz_isame (t := 1332) dL_law_1025 rfl ?_
  exact hk A2 B2 hI2
theorem lc_30 {X : pX} {h n : Nat} {I J : IM} {P : Option Value → IM → IM → Prop} (hL : X.1 ≤ 100000) (hn : n + 6 ≤ X.1) (hI : Inv I J) (hk : ∀ A B : IM, Inv A B → Rz X (h + 100 + 1) mL_law 1332 (lsL n) [] A B P) : Rz X (h + 100 + 1) mL_law 1030 (lsL n) [] I J P := by
  refine rz_aload_n dL_law_1030 rfl ?_
  refine la_arg dL_law_1031 dL_law_1032 dL_law_1033 dL_law_1034 dL_law_1035 rfl rfl hL hn (by decide) ?_
  refine la_arg dL_law_1036 dL_law_1037 dL_law_1038 dL_law_1039 dL_law_1040 rfl rfl hL hn (by decide) ?_
  refine rz_cVIq dL_law_1041 kl_RL_140 hd_0 ⟨_, _, rfl⟩ (op_keep (X := X) (h := h) _ _ (i32_rg _) (i32_rg _) I J hI) rfl rfl (Nat.le_of_ble_eq_true rfl) (Nat.le_of_ble_eq_true rfl) ?_
  rintro z A B q
  refine rz_aload_n dL_law_1044 rfl ?_
  refine la_arg dL_law_1045 dL_law_1046 dL_law_1047 dL_law_1048 dL_law_1049 rfl rfl hL hn (by decide) ?_
  refine la_arg dL_law_1050 dL_law_1051 dL_law_1052 dL_law_1053 dL_law_1054 rfl rfl hL hn (by decide) ?_
  refine rz_cVIq dL_law_1055 kl_RL_143 hd_81 ⟨_, _, rfl⟩ q rfl rfl (Nat.le_of_ble_eq_true rfl) (Nat.le_of_ble_eq_true rfl) ?_
  rintro z2 A2 B2 ⟨rfl, hI2⟩
  refine rz_isame (t := 1332) dL_law_1058 rfl ?_
  exact hk A2 B2 hI2
theorem lc_31 {X : pX} {h n : Nat} {I J : IM} {P : Option Value → IM → IM → Prop} (hL : X.1 ≤ 100000) (hn : n + 6 ≤ X.1) (hI : Inv I J) (hk : ∀ A B : IM, Inv A B → Rz X (h + 100 + 1) mL_law 1332 (lsL n) [] A B P) : Rz X (h + 100 + 1) mL_law 1063 (lsL n) [] I J P := by
  refine rz_aload_n dL_law_1063 rfl ?_
  refine la_arg dL_law_1064 dL_law_1065 dL_law_1066 dL_law_1067 dL_law_1068 rfl rfl hL hn (by decide) ?_
  refine la_arg dL_law_1069 dL_law_1070 dL_law_1071 dL_law_1072 dL_law_1073 rfl rfl hL hn (by decide) ?_
  refine la_arg dL_law_1074 dL_law_1075 dL_law_1076 dL_law_1077 dL_law_1078 rfl rfl hL hn (by decide) ?_
  refine rz_cVIq dL_law_1079 kl_RL_144 hd_0 ⟨_, _, rfl⟩ (op_row (X := X) (h := h) _ _ _ (i32_rg _) (i32_rg _) (i32_rg _) I J hI) rfl rfl (Nat.le_of_ble_eq_true rfl) (Nat.le_of_ble_eq_true rfl) ?_
  rintro z A B q
  refine rz_aload_n dL_law_1082 rfl ?_
  refine la_arg dL_law_1083 dL_law_1084 dL_law_1085 dL_law_1086 dL_law_1087 rfl rfl hL hn (by decide) ?_
  refine la_arg dL_law_1088 dL_law_1089 dL_law_1090 dL_law_1091 dL_law_1092 rfl rfl hL hn (by decide) ?_
  refine la_arg dL_law_1093 dL_law_1094 dL_law_1095 dL_law_1096 dL_law_1097 rfl rfl hL hn (by decide) ?_
  refine rz_cVIq dL_law_1098 kl_RL_147 hd_81 ⟨_, _, rfl⟩ q rfl rfl (Nat.le_of_ble_eq_true rfl) (Nat.le_of_ble_eq_true rfl) ?_
  rintro z2 A2 B2 ⟨rfl, hI2⟩
  refine rz_isame (t := 1332) dL_law_1101 rfl ?_
  exact hk A2 B2 hI2
theorem lc_32 {X : pX} {h n : Nat} {I J : IM} {P : Option Value → IM → IM → Prop} (hL : X.1 ≤ 100000) (hn : n + 6 ≤ X.1) (hI : Inv I J) (hk : ∀ A B : IM, Inv A B → Rz X (h + 100 + 1) mL_law 1332 (lsL n) [] A B P) : Rz X (h + 100 + 1) mL_law 1106 (lsL n) [] I J P := by
  refine rz_aload_n dL_law_1106 rfl ?_
  refine la_arg dL_law_1107 dL_law_1108 dL_law_1109 dL_law_1110 dL_law_1111 rfl rfl hL hn (by decide) ?_
  refine la_arg dL_law_1112 dL_law_1113 dL_law_1114 dL_law_1115 dL_law_1116 rfl rfl hL hn (by decide) ?_
  refine la_arg dL_law_1117 dL_law_1118 dL_law_1119 dL_law_1120 dL_law_1121 rfl rfl hL hn (by decide) ?_
  refine rz_i2l dL_law_1122 (i32_rg _) ?_
  refine rz_bipush dL_law_1123 (by decide) ?_
  refine rz_lshl dL_law_1125 ?_
  refine la_arg dL_law_1126 dL_law_1127 dL_law_1128 dL_law_1129 dL_law_1130 rfl rfl hL hn (by decide) ?_
  refine rz_i2l dL_law_1131 (i32_rg _) ?_
  refine rz_ldc2 (x := 4294967295) dL_law_1132 kk_RL_148 (by decide) ?_
  refine rz_land dL_law_1135 ?_
  refine rz_lor dL_law_1136 ?_
  refine rz_cVIq dL_law_1137 kl_RL_150 hd_0 ⟨_, _, rfl⟩ (op_put (X := X) (h := h) _ _ _ (i32_rg _) (i32_rg _) (i64_rl _) I J hI) rfl rfl (Nat.le_of_ble_eq_true rfl) (Nat.le_of_ble_eq_true rfl) ?_
  rintro z A B q
  refine rz_aload_n dL_law_1140 rfl ?_
  refine la_arg dL_law_1141 dL_law_1142 dL_law_1143 dL_law_1144 dL_law_1145 rfl rfl hL hn (by decide) ?_
  refine la_arg dL_law_1146 dL_law_1147 dL_law_1148 dL_law_1149 dL_law_1150 rfl rfl hL hn (by decide) ?_
  refine la_arg dL_law_1151 dL_law_1152 dL_law_1153 dL_law_1154 dL_law_1155 rfl rfl hL hn (by decide) ?_
  refine rz_i2l dL_law_1156 (i32_rg _) ?_
  refine rz_bipush dL_law_1157 (by decide) ?_
  refine rz_lshl dL_law_1159 ?_
  refine la_arg dL_law_1160 dL_law_1161 dL_law_1162 dL_law_1163 dL_law_1164 rfl rfl hL hn (by decide) ?_
  refine rz_i2l dL_law_1165 (i32_rg _) ?_
  refine rz_ldc2 (x := 4294967295) dL_law_1166 kk_RL_148 (by decide) ?_
  refine rz_land dL_law_1169 ?_
  refine rz_lor dL_law_1170 ?_
  refine rz_cVIq dL_law_1171 kl_RL_154 hd_81 ⟨_, _, rfl⟩ q rfl rfl (Nat.le_of_ble_eq_true rfl) (Nat.le_of_ble_eq_true rfl) ?_
  rintro z2 A2 B2 ⟨rfl, hI2⟩
  refine rz_isame (t := 1332) dL_law_1174 rfl ?_
  exact hk A2 B2 hI2
theorem lc_33 {X : pX} {h n : Nat} {I J : IM} {P : Option Value → IM → IM → Prop} (hL : X.1 ≤ 100000) (hn : n + 6 ≤ X.1) (hI : Inv I J) (hk : ∀ A B : IM, Inv A B → Rz X (h + 100 + 1) mL_law 1332 (lsL n) [] A B P) : Rz X (h + 100 + 1) mL_law 1179 (lsL n) [] I J P := by
  refine rz_aload_n dL_law_1179 rfl ?_
  refine la_arg dL_law_1180 dL_law_1181 dL_law_1182 dL_law_1183 dL_law_1184 rfl rfl hL hn (by decide) ?_
  refine la_arg dL_law_1185 dL_law_1186 dL_law_1187 dL_law_1188 dL_law_1189 rfl rfl hL hn (by decide) ?_
  refine rz_cVLq dL_law_1190 kl_RL_155 hd_0 ⟨_, _, rfl⟩ (op_element (X := X) (h := h) _ _ (i32_rg _) (i32_rg _) I J hI) rfl rfl (Nat.le_of_ble_eq_true rfl) (Nat.le_of_ble_eq_true rfl) ?_
  rintro z A B q
  refine rz_aload_n dL_law_1193 rfl ?_
  refine la_arg dL_law_1194 dL_law_1195 dL_law_1196 dL_law_1197 dL_law_1198 rfl rfl hL hn (by decide) ?_
  refine la_arg dL_law_1199 dL_law_1200 dL_law_1201 dL_law_1202 dL_law_1203 rfl rfl hL hn (by decide) ?_
  refine rz_cVLq dL_law_1204 kl_RL_158 hd_81 ⟨_, _, rfl⟩ q rfl rfl (Nat.le_of_ble_eq_true rfl) (Nat.le_of_ble_eq_true rfl) ?_
  rintro z2 A2 B2 ⟨rfl, hI2⟩
  refine rz_lsame (t := 1332) dL_law_1207 rfl dL_law_1208 rfl ?_
  exact hk A2 B2 hI2
theorem lc_34 {X : pX} {h n : Nat} {I J : IM} {P : Option Value → IM → IM → Prop} (hL : X.1 ≤ 100000) (hn : n + 6 ≤ X.1) (hI : Inv I J) (hk : ∀ A B : IM, Inv A B → Rz X (h + 100 + 1) mL_law 1332 (lsL n) [] A B P) : Rz X (h + 100 + 1) mL_law 1213 (lsL n) [] I J P := by
  refine rz_aload_n dL_law_1213 rfl ?_
  refine la_arg dL_law_1214 dL_law_1215 dL_law_1216 dL_law_1217 dL_law_1218 rfl rfl hL hn (by decide) ?_
  refine la_arg dL_law_1219 dL_law_1220 dL_law_1221 dL_law_1222 dL_law_1223 rfl rfl hL hn (by decide) ?_
  refine la_arg dL_law_1224 dL_law_1225 dL_law_1226 dL_law_1227 dL_law_1228 rfl rfl hL hn (by decide) ?_
  refine la_arg dL_law_1229 dL_law_1230 dL_law_1231 dL_law_1232 dL_law_1233 rfl rfl hL hn (by decide) ?_
  refine la_arg dL_law_1234 dL_law_1235 dL_law_1236 dL_law_1237 dL_law_1238 rfl rfl hL hn (by decide) ?_
  refine rz_cVIq dL_law_1239 kl_RL_159 hd_0 ⟨_, _, rfl⟩ (op_shift (X := X) (h := h) _ _ _ _ _ (i32_rg _) (i32_rg _) (i32_rg _) (i32_rg _) (i32_rg _) I J hI) rfl rfl (Nat.le_of_ble_eq_true rfl) (Nat.le_of_ble_eq_true rfl) ?_
  rintro z A B q
  refine rz_aload_n dL_law_1242 rfl ?_
  refine la_arg dL_law_1243 dL_law_1244 dL_law_1245 dL_law_1246 dL_law_1247 rfl rfl hL hn (by decide) ?_
  refine la_arg dL_law_1248 dL_law_1249 dL_law_1250 dL_law_1251 dL_law_1252 rfl rfl hL hn (by decide) ?_
  refine la_arg dL_law_1253 dL_law_1254 dL_law_1255 dL_law_1256 dL_law_1257 rfl rfl hL hn (by decide) ?_
  refine la_arg dL_law_1258 dL_law_1259 dL_law_1260 dL_law_1261 dL_law_1262 rfl rfl hL hn (by decide) ?_
  refine la_arg dL_law_1263 dL_law_1264 dL_law_1265 dL_law_1266 dL_law_1267 rfl rfl hL hn (by decide) ?_
  refine rz_cVIq dL_law_1268 kl_RL_163 hd_81 ⟨_, _, rfl⟩ q rfl rfl (Nat.le_of_ble_eq_true rfl) (Nat.le_of_ble_eq_true rfl) ?_
  rintro z2 A2 B2 ⟨rfl, hI2⟩
  refine rz_isame (t := 1332) dL_law_1271 rfl ?_
  exact hk A2 B2 hI2
theorem lc_35 {X : pX} {h n : Nat} {I J : IM} {P : Option Value → IM → IM → Prop} (hL : X.1 ≤ 100000) (hn : n + 6 ≤ X.1) (hI : Inv I J) (hk : ∀ A B : IM, Inv A B → Rz X (h + 100 + 1) mL_law 1332 (lsL n) [] A B P) : Rz X (h + 100 + 1) mL_law 1276 (lsL n) [] I J P := by
  refine rz_aload_n dL_law_1276 rfl ?_
  refine la_arg dL_law_1277 dL_law_1278 dL_law_1279 dL_law_1280 dL_law_1281 rfl rfl hL hn (by decide) ?_
  refine la_arg dL_law_1282 dL_law_1283 dL_law_1284 dL_law_1285 dL_law_1286 rfl rfl hL hn (by decide) ?_
  refine rz_cVIq dL_law_1287 kl_RL_164 hd_0 ⟨_, _, rfl⟩ (op_taken (X := X) (h := h) _ _ (i32_rg _) (i32_rg _) I J hI) rfl rfl (Nat.le_of_ble_eq_true rfl) (Nat.le_of_ble_eq_true rfl) ?_
  rintro z A B q
  refine rz_aload_n dL_law_1290 rfl ?_
  refine la_arg dL_law_1291 dL_law_1292 dL_law_1293 dL_law_1294 dL_law_1295 rfl rfl hL hn (by decide) ?_
  refine la_arg dL_law_1296 dL_law_1297 dL_law_1298 dL_law_1299 dL_law_1300 rfl rfl hL hn (by decide) ?_
  refine rz_cVIq dL_law_1301 kl_RL_167 hd_81 ⟨_, _, rfl⟩ q rfl rfl (Nat.le_of_ble_eq_true rfl) (Nat.le_of_ble_eq_true rfl) ?_
  rintro z2 A2 B2 ⟨rfl, hI2⟩
  refine rz_isame (t := 1332) dL_law_1304 rfl ?_
  exact hk A2 B2 hI2
theorem lc_36 {X : pX} {h n : Nat} {I J : IM} {P : Option Value → IM → IM → Prop} (hL : X.1 ≤ 100000) (hn : n + 6 ≤ X.1) (hI : Inv I J) (hk : ∀ A B : IM, Inv A B → Rz X (h + 100 + 1) mL_law 1332 (lsL n) [] A B P) : Rz X (h + 100 + 1) mL_law 1309 (lsL n) [] I J P := by
  refine rz_aload_n dL_law_1309 rfl ?_
  refine la_arg dL_law_1310 dL_law_1311 dL_law_1312 dL_law_1313 dL_law_1314 rfl rfl hL hn (by decide) ?_
  refine rz_cVIq dL_law_1315 kl_RL_168 hd_0 ⟨_, _, rfl⟩ (op_count (X := X) (h := h) _ (i32_rg _) I J hI) rfl rfl (Nat.le_of_ble_eq_true rfl) (Nat.le_of_ble_eq_true rfl) ?_
  rintro z A B q
  refine rz_aload_n dL_law_1318 rfl ?_
  refine la_arg dL_law_1319 dL_law_1320 dL_law_1321 dL_law_1322 dL_law_1323 rfl rfl hL hn (by decide) ?_
  refine rz_cVIq dL_law_1324 kl_RL_171 hd_81 ⟨_, _, rfl⟩ q rfl rfl (Nat.le_of_ble_eq_true rfl) (Nat.le_of_ble_eq_true rfl) ?_
  rintro z2 A2 B2 ⟨rfl, hI2⟩
  refine rz_isame (t := 1332) dL_law_1327 rfl ?_
  exact hk A2 B2 hI2
