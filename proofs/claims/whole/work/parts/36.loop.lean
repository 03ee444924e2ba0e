def SC (x : Cx) (b L : Nat) (xs : Nat → Int32) : Prop := match x with
  | (_, _, _, s, _, _, _, _, _, _, _, _, A) => va_X b L xs s s.heap ∧ b < s.heap.size ∧ ¬ A b
section LA
variable {K : Kt} {x : Cx} {cc : ByteArray} {nL d : Nat} {own : String} {Rp : Option Int32 → Mem → Prop} {pc : Nat} {lv : List (Nat × Value)} {st : List Value} {M : Mem} {b L : Nat} {xs : Nat → Int32}
theorem G_sald (C : Cok K x own cc nL d Rp) (S : SC x b L xs) (hL : L ≤ 3072) {j : Nat} (hj : j < L) (hd : decode cc pc = .ok (.iaload, 1)) (k9 : G K x nL (pc + 1) lv (.int (xs j) :: st) M) : G K x nL pc lv (.int (nI j) :: .ref b :: st) M := by
  obtain ⟨p, e, R, s, m, args, below, meth, c, cells, slots, Q, A⟩ := x
  obtain ⟨hx, hb, hml, hown, hts, hK, hA, hE, hd1, hd2, hd3, hd4, hrI, hrV⟩ := C
  obtain ⟨s1, s2, s3⟩ := S
  intro H locs ls hP hD hS hl
  refine va_sld hx hb s1 s2 s3 hS (vp_in_nI hj (by omega)) hd ?_
  rw [nI_clamp (by omega)]
  exact k9 H locs ls hP hD hS hl
theorem G_slen (C : Cok K x own cc nL d Rp) (S : SC x b L xs) (hd : decode cc pc = .ok (.arraylength, 1)) (k9 : G K x nL (pc + 1) lv (.int (nI L) :: st) M) : G K x nL pc lv (.ref b :: st) M := by
  obtain ⟨p, e, R, s, m, args, below, meth, c, cells, slots, Q, A⟩ := x
  obtain ⟨hx, hb, hml, hown, hts, hK, hA, hE, hd1, hd2, hd3, hd4, hrI, hrV⟩ := C
  obtain ⟨s1, s2, s3⟩ := S
  intro H locs ls hP hD hS hl
  exact va_slen hx hb s1 s2 s3 hS hd (k9 H locs ls hP hD hS hl)
def lvL (K : Kt) (b i : Nat) : List (Nat × Value) := [(0, .ref b), (1, rf K 0), (2, rf K 36), (3, .int (nI i))]
theorem G_arg (C : Cok K x own cc 4 d Rp) (S : SC x b L xs) (hL : L ≤ 3072) {i k : Nat} {z : Int} (hk : i + k < L) (h1 : decode cc pc = .ok (.aload_n 0, 1)) (h2 : decode cc (pc + 1) = .ok (.iload_n 3, 1)) (h3 : decode cc (pc + 2) = .ok (.iconst z, 1)) (hz : Int32.ofInt z = nI k) (h4 : decode cc (pc + 3) = .ok (.iadd, 1)) (h5 : decode cc (pc + 4) = .ok (.iaload, 1)) (k9 : G K x 4 (pc + 5) (lvL K b i) (.int (xs (i + k)) :: st) M) : G K x 4 pc (lvL K b i) st M := by
  refine G_aload_n C h1 rfl ?_
  refine G_iload_n C h2 rfl ?_
  refine G_iconst C (nI k) h3 hz ?_
  refine G_iadd C h4 ?_
  refine G_is (nI (i + k)) (nI_add i k) ?_
  exact G_sald C S hL hk h5 k9
set_option maxHeartbeats 4000000 in
set_option maxRecDepth 100000 in
theorem O_change (C : Cok K x RL cL_law 4 13 Rp) (S : SC x b L xs) (hL : L ≤ 3072) {i : Nat} (hi : i + 6 ≤ L) (hp : Pair K mX9_change mX10_change [.int (xs (i + 1)), .int (xs (i + 2)), .int (xs (i + 3))] M) (k9 : ∀ N, IVe N → G K x 4 1215 (lvL K b i) [] N) : G K x 4 172 (lvL K b i) [] M := by
  obtain ⟨Q, h1, h2⟩ := hp
  refine G_aload_r C dL_law_172 rfl ?_
  refine G_arg C S hL (k := 1) (by omega) dL_law_173 dL_law_174 dL_law_175 (by decide) dL_law_176 dL_law_177 ?_
  refine G_arg C S hL (k := 2) (by omega) dL_law_178 dL_law_179 dL_law_180 (by decide) dL_law_181 dL_law_182 ?_
  refine G_arg C S hL (k := 3) (by omega) dL_law_183 dL_law_184 dL_law_185 (by decide) dL_law_186 dL_law_187 ?_
  refine G_cVi3 C ok_X9_change lk_L_13 rfl rfl h1 (Nat.le_of_ble_eq_true rfl) dL_law_188 (fun r N hq => ?_)
  refine G_aload_r C dL_law_191 rfl ?_
  refine G_arg C S hL (k := 1) (by omega) dL_law_192 dL_law_193 dL_law_194 (by decide) dL_law_195 dL_law_196 ?_
  refine G_arg C S hL (k := 2) (by omega) dL_law_197 dL_law_198 dL_law_199 (by decide) dL_law_200 dL_law_201 ?_
  refine G_arg C S hL (k := 3) (by omega) dL_law_202 dL_law_203 dL_law_204 (by decide) dL_law_205 dL_law_206 ?_
  refine G_cVi3 C ok_X10_change lk_L_17 rfl rfl (h2 r N hq) (Nat.le_of_ble_eq_true rfl) dL_law_207 (fun r2 N2 hq2 => ?_)
  exact G_icmp_eq C 1215 dL_law_210 (by decide) (fun _ => k9 N2 hq2.2) (fun z => absurd hq2.1.symm z)
set_option maxHeartbeats 4000000 in
set_option maxRecDepth 100000 in
theorem O_isOf (C : Cok K x RL cL_law 4 13 Rp) (S : SC x b L xs) (hL : L ≤ 3072) {i : Nat} (hi : i + 6 ≤ L) (hp : Pair K mX9_isOf mX10_isOf [.int (xs (i + 1)), .int (xs (i + 2))] M) (k9 : ∀ N, IVe N → G K x 4 1215 (lvL K b i) [] N) : G K x 4 215 (lvL K b i) [] M := by
  obtain ⟨Q, h1, h2⟩ := hp
  refine G_aload_r C dL_law_215 rfl ?_
  refine G_arg C S hL (k := 1) (by omega) dL_law_216 dL_law_217 dL_law_218 (by decide) dL_law_219 dL_law_220 ?_
  refine G_arg C S hL (k := 2) (by omega) dL_law_221 dL_law_222 dL_law_223 (by decide) dL_law_224 dL_law_225 ?_
  refine G_cVi2 C ok_X9_isOf lk_L_18 rfl rfl h1 (Nat.le_of_ble_eq_true rfl) dL_law_226 (fun r N hq => ?_)
  refine G_aload_r C dL_law_229 rfl ?_
  refine G_arg C S hL (k := 1) (by omega) dL_law_230 dL_law_231 dL_law_232 (by decide) dL_law_233 dL_law_234 ?_
  refine G_arg C S hL (k := 2) (by omega) dL_law_235 dL_law_236 dL_law_237 (by decide) dL_law_238 dL_law_239 ?_
  refine G_cVi2 C ok_X10_isOf lk_L_22 rfl rfl (h2 r N hq) (Nat.le_of_ble_eq_true rfl) dL_law_240 (fun r2 N2 hq2 => ?_)
  exact G_icmp_eq C 1215 dL_law_243 (by decide) (fun _ => k9 N2 hq2.2) (fun z => absurd hq2.1.symm z)
set_option maxHeartbeats 4000000 in
set_option maxRecDepth 100000 in
theorem O_takeBack (C : Cok K x RL cL_law 4 13 Rp) (S : SC x b L xs) (hL : L ≤ 3072) {i : Nat} (hi : i + 6 ≤ L) (hp : Pair K mX9_takeBack mX10_takeBack [.int (xs (i + 1))] M) (k9 : ∀ N, IVe N → G K x 4 1215 (lvL K b i) [] N) : G K x 4 248 (lvL K b i) [] M := by
  obtain ⟨Q, h1, h2⟩ := hp
  refine G_aload_r C dL_law_248 rfl ?_
  refine G_arg C S hL (k := 1) (by omega) dL_law_249 dL_law_250 dL_law_251 (by decide) dL_law_252 dL_law_253 ?_
  refine G_cVi1 C ok_X9_takeBack lk_L_23 rfl rfl h1 (Nat.le_of_ble_eq_true rfl) dL_law_254 (fun r N hq => ?_)
  refine G_aload_r C dL_law_257 rfl ?_
  refine G_arg C S hL (k := 1) (by omega) dL_law_258 dL_law_259 dL_law_260 (by decide) dL_law_261 dL_law_262 ?_
  refine G_cVi1 C ok_X10_takeBack lk_L_27 rfl rfl (h2 r N hq) (Nat.le_of_ble_eq_true rfl) dL_law_263 (fun r2 N2 hq2 => ?_)
  exact G_icmp_eq C 1215 dL_law_266 (by decide) (fun _ => k9 N2 hq2.2) (fun z => absurd hq2.1.symm z)
set_option maxHeartbeats 4000000 in
set_option maxRecDepth 100000 in
theorem O_told (C : Cok K x RL cL_law 4 13 Rp) (S : SC x b L xs) (hL : L ≤ 3072) {i : Nat} (hi : i + 6 ≤ L) (hp : Pair K mX9_told mX10_told [.int (xs (i + 1)), .int (xs (i + 2))] M) (k9 : ∀ N, IVe N → G K x 4 1215 (lvL K b i) [] N) : G K x 4 271 (lvL K b i) [] M := by
  obtain ⟨Q, h1, h2⟩ := hp
  refine G_aload_r C dL_law_271 rfl ?_
  refine G_arg C S hL (k := 1) (by omega) dL_law_272 dL_law_273 dL_law_274 (by decide) dL_law_275 dL_law_276 ?_
  refine G_arg C S hL (k := 2) (by omega) dL_law_277 dL_law_278 dL_law_279 (by decide) dL_law_280 dL_law_281 ?_
  refine G_cVi2 C ok_X9_told lk_L_28 rfl rfl h1 (Nat.le_of_ble_eq_true rfl) dL_law_282 (fun r N hq => ?_)
  refine G_aload_r C dL_law_285 rfl ?_
  refine G_arg C S hL (k := 1) (by omega) dL_law_286 dL_law_287 dL_law_288 (by decide) dL_law_289 dL_law_290 ?_
  refine G_arg C S hL (k := 2) (by omega) dL_law_291 dL_law_292 dL_law_293 (by decide) dL_law_294 dL_law_295 ?_
  refine G_cVi2 C ok_X10_told lk_L_31 rfl rfl (h2 r N hq) (Nat.le_of_ble_eq_true rfl) dL_law_296 (fun r2 N2 hq2 => ?_)
  exact G_icmp_eq C 1215 dL_law_299 (by decide) (fun _ => k9 N2 hq2.2) (fun z => absurd hq2.1.symm z)
set_option maxHeartbeats 4000000 in
set_option maxRecDepth 100000 in
theorem O_known (C : Cok K x RL cL_law 4 13 Rp) (S : SC x b L xs) (hL : L ≤ 3072) {i : Nat} (hi : i + 6 ≤ L) (hp : Pair K mX9_known mX10_known [.int (xs (i + 1)), .int (xs (i + 2)), .int (xs (i + 3))] M) (k9 : ∀ N, IVe N → G K x 4 1215 (lvL K b i) [] N) : G K x 4 304 (lvL K b i) [] M := by
  obtain ⟨Q, h1, h2⟩ := hp
  refine G_aload_r C dL_law_304 rfl ?_
  refine G_arg C S hL (k := 1) (by omega) dL_law_305 dL_law_306 dL_law_307 (by decide) dL_law_308 dL_law_309 ?_
  refine G_arg C S hL (k := 2) (by omega) dL_law_310 dL_law_311 dL_law_312 (by decide) dL_law_313 dL_law_314 ?_
  refine G_arg C S hL (k := 3) (by omega) dL_law_315 dL_law_316 dL_law_317 (by decide) dL_law_318 dL_law_319 ?_
  refine G_cVi3 C ok_X9_known lk_L_32 rfl rfl h1 (Nat.le_of_ble_eq_true rfl) dL_law_320 (fun r N hq => ?_)
  refine G_aload_r C dL_law_323 rfl ?_
  refine G_arg C S hL (k := 1) (by omega) dL_law_324 dL_law_325 dL_law_326 (by decide) dL_law_327 dL_law_328 ?_
  refine G_arg C S hL (k := 2) (by omega) dL_law_329 dL_law_330 dL_law_331 (by decide) dL_law_332 dL_law_333 ?_
  refine G_arg C S hL (k := 3) (by omega) dL_law_334 dL_law_335 dL_law_336 (by decide) dL_law_337 dL_law_338 ?_
  refine G_cVi3 C ok_X10_known lk_L_35 rfl rfl (h2 r N hq) (Nat.le_of_ble_eq_true rfl) dL_law_339 (fun r2 N2 hq2 => ?_)
  exact G_icmp_eq C 1215 dL_law_342 (by decide) (fun _ => k9 N2 hq2.2) (fun z => absurd hq2.1.symm z)
set_option maxHeartbeats 4000000 in
set_option maxRecDepth 100000 in
theorem O_school (C : Cok K x RL cL_law 4 13 Rp) (S : SC x b L xs) (hL : L ≤ 3072) {i : Nat} (hi : i + 6 ≤ L) (hp : Pair K mX9_school mX10_school [.int (xs (i + 1)), .int (xs (i + 2))] M) (k9 : ∀ N, IVe N → G K x 4 1215 (lvL K b i) [] N) : G K x 4 347 (lvL K b i) [] M := by
  obtain ⟨Q, h1, h2⟩ := hp
  refine G_aload_r C dL_law_347 rfl ?_
  refine G_arg C S hL (k := 1) (by omega) dL_law_348 dL_law_349 dL_law_350 (by decide) dL_law_351 dL_law_352 ?_
  refine G_arg C S hL (k := 2) (by omega) dL_law_353 dL_law_354 dL_law_355 (by decide) dL_law_356 dL_law_357 ?_
  refine G_cVi2 C ok_X9_school lk_L_36 rfl rfl h1 (Nat.le_of_ble_eq_true rfl) dL_law_358 (fun r N hq => ?_)
  refine G_aload_r C dL_law_361 rfl ?_
  refine G_arg C S hL (k := 1) (by omega) dL_law_362 dL_law_363 dL_law_364 (by decide) dL_law_365 dL_law_366 ?_
  refine G_arg C S hL (k := 2) (by omega) dL_law_367 dL_law_368 dL_law_369 (by decide) dL_law_370 dL_law_371 ?_
  refine G_cVi2 C ok_X10_school lk_L_39 rfl rfl (h2 r N hq) (Nat.le_of_ble_eq_true rfl) dL_law_372 (fun r2 N2 hq2 => ?_)
  exact G_icmp_eq C 1215 dL_law_375 (by decide) (fun _ => k9 N2 hq2.2) (fun z => absurd hq2.1.symm z)
set_option maxHeartbeats 4000000 in
set_option maxRecDepth 100000 in
theorem O_nights (C : Cok K x RL cL_law 4 13 Rp) (S : SC x b L xs) (hL : L ≤ 3072) {i : Nat} (hi : i + 6 ≤ L) (hp : Pair K mX9_nights mX10_nights [.int (xs (i + 1)), .int (xs (i + 2))] M) (k9 : ∀ N, IVe N → G K x 4 1215 (lvL K b i) [] N) : G K x 4 380 (lvL K b i) [] M := by
  obtain ⟨Q, h1, h2⟩ := hp
  refine G_aload_r C dL_law_380 rfl ?_
  refine G_arg C S hL (k := 1) (by omega) dL_law_381 dL_law_382 dL_law_383 (by decide) dL_law_384 dL_law_385 ?_
  refine G_arg C S hL (k := 2) (by omega) dL_law_386 dL_law_387 dL_law_388 (by decide) dL_law_389 dL_law_390 ?_
  refine G_cVi2 C ok_X9_nights lk_L_40 rfl rfl h1 (Nat.le_of_ble_eq_true rfl) dL_law_391 (fun r N hq => ?_)
  refine G_aload_r C dL_law_394 rfl ?_
  refine G_arg C S hL (k := 1) (by omega) dL_law_395 dL_law_396 dL_law_397 (by decide) dL_law_398 dL_law_399 ?_
  refine G_arg C S hL (k := 2) (by omega) dL_law_400 dL_law_401 dL_law_402 (by decide) dL_law_403 dL_law_404 ?_
  refine G_cVi2 C ok_X10_nights lk_L_43 rfl rfl (h2 r N hq) (Nat.le_of_ble_eq_true rfl) dL_law_405 (fun r2 N2 hq2 => ?_)
  exact G_icmp_eq C 1215 dL_law_408 (by decide) (fun _ => k9 N2 hq2.2) (fun z => absurd hq2.1.symm z)
set_option maxHeartbeats 4000000 in
set_option maxRecDepth 100000 in
theorem O_feed (C : Cok K x RL cL_law 4 13 Rp) (S : SC x b L xs) (hL : L ≤ 3072) {i : Nat} (hi : i + 6 ≤ L) (hp : Pair K mX9_feed mX10_feed [.int (xs (i + 1)), .int (xs (i + 2)), .int (xs (i + 3))] M) (k9 : ∀ N, IVe N → G K x 4 1215 (lvL K b i) [] N) : G K x 4 413 (lvL K b i) [] M := by
  obtain ⟨Q, h1, h2⟩ := hp
  refine G_aload_r C dL_law_413 rfl ?_
  refine G_arg C S hL (k := 1) (by omega) dL_law_414 dL_law_415 dL_law_416 (by decide) dL_law_417 dL_law_418 ?_
  refine G_arg C S hL (k := 2) (by omega) dL_law_419 dL_law_420 dL_law_421 (by decide) dL_law_422 dL_law_423 ?_
  refine G_arg C S hL (k := 3) (by omega) dL_law_424 dL_law_425 dL_law_426 (by decide) dL_law_427 dL_law_428 ?_
  refine G_cVi3 C ok_X9_feed lk_L_44 rfl rfl h1 (Nat.le_of_ble_eq_true rfl) dL_law_429 (fun r N hq => ?_)
  refine G_aload_r C dL_law_432 rfl ?_
  refine G_arg C S hL (k := 1) (by omega) dL_law_433 dL_law_434 dL_law_435 (by decide) dL_law_436 dL_law_437 ?_
  refine G_arg C S hL (k := 2) (by omega) dL_law_438 dL_law_439 dL_law_440 (by decide) dL_law_441 dL_law_442 ?_
  refine G_arg C S hL (k := 3) (by omega) dL_law_443 dL_law_444 dL_law_445 (by decide) dL_law_446 dL_law_447 ?_
  refine G_cVi3 C ok_X10_feed lk_L_47 rfl rfl (h2 r N hq) (Nat.le_of_ble_eq_true rfl) dL_law_448 (fun r2 N2 hq2 => ?_)
  exact G_icmp_eq C 1215 dL_law_451 (by decide) (fun _ => k9 N2 hq2.2) (fun z => absurd hq2.1.symm z)
set_option maxHeartbeats 4000000 in
set_option maxRecDepth 100000 in
theorem O_trim (C : Cok K x RL cL_law 4 13 Rp) (S : SC x b L xs) (hL : L ≤ 3072) {i : Nat} (hi : i + 6 ≤ L) (hp : Pair K mX9_trim mX10_trim [.int (xs (i + 1))] M) (k9 : ∀ N, IVe N → G K x 4 1215 (lvL K b i) [] N) : G K x 4 456 (lvL K b i) [] M := by
  obtain ⟨Q, h1, h2⟩ := hp
  refine G_aload_r C dL_law_456 rfl ?_
  refine G_arg C S hL (k := 1) (by omega) dL_law_457 dL_law_458 dL_law_459 (by decide) dL_law_460 dL_law_461 ?_
  refine G_cVi1 C ok_X9_trim lk_L_48 rfl rfl h1 (Nat.le_of_ble_eq_true rfl) dL_law_462 (fun r N hq => ?_)
  refine G_aload_r C dL_law_465 rfl ?_
  refine G_arg C S hL (k := 1) (by omega) dL_law_466 dL_law_467 dL_law_468 (by decide) dL_law_469 dL_law_470 ?_
  refine G_cVi1 C ok_X10_trim lk_L_51 rfl rfl (h2 r N hq) (Nat.le_of_ble_eq_true rfl) dL_law_471 (fun r2 N2 hq2 => ?_)
  exact G_icmp_eq C 1215 dL_law_474 (by decide) (fun _ => k9 N2 hq2.2) (fun z => absurd hq2.1.symm z)
set_option maxHeartbeats 4000000 in
set_option maxRecDepth 100000 in
theorem O_law (C : Cok K x RL cL_law 4 13 Rp) (S : SC x b L xs) (hL : L ≤ 3072) {i : Nat} (hi : i + 6 ≤ L) (hp : Pair K mX9_law mX10_law [.int (xs (i + 1))] M) (k9 : ∀ N, IVe N → G K x 4 1215 (lvL K b i) [] N) : G K x 4 479 (lvL K b i) [] M := by
  obtain ⟨Q, h1, h2⟩ := hp
  refine G_aload_r C dL_law_479 rfl ?_
  refine G_arg C S hL (k := 1) (by omega) dL_law_480 dL_law_481 dL_law_482 (by decide) dL_law_483 dL_law_484 ?_
  refine G_cVi1 C ok_X9_law lk_L_52 rfl rfl h1 (Nat.le_of_ble_eq_true rfl) dL_law_485 (fun r N hq => ?_)
  refine G_aload_r C dL_law_488 rfl ?_
  refine G_arg C S hL (k := 1) (by omega) dL_law_489 dL_law_490 dL_law_491 (by decide) dL_law_492 dL_law_493 ?_
  refine G_cVi1 C ok_X10_law lk_L_55 rfl rfl (h2 r N hq) (Nat.le_of_ble_eq_true rfl) dL_law_494 (fun r2 N2 hq2 => ?_)
  exact G_icmp_eq C 1215 dL_law_497 (by decide) (fun _ => k9 N2 hq2.2) (fun z => absurd hq2.1.symm z)
set_option maxHeartbeats 4000000 in
set_option maxRecDepth 100000 in
theorem O_inForce (C : Cok K x RL cL_law 4 13 Rp) (S : SC x b L xs) (hL : L ≤ 3072) {i : Nat} (hi : i + 6 ≤ L) (hp : Pair K mX9_inForce mX10_inForce [.int (xs (i + 1))] M) (k9 : ∀ N, IVe N → G K x 4 1215 (lvL K b i) [] N) : G K x 4 502 (lvL K b i) [] M := by
  obtain ⟨Q, h1, h2⟩ := hp
  refine G_aload_r C dL_law_502 rfl ?_
  refine G_arg C S hL (k := 1) (by omega) dL_law_503 dL_law_504 dL_law_505 (by decide) dL_law_506 dL_law_507 ?_
  refine G_cVi1 C ok_X9_inForce lk_L_56 rfl rfl h1 (Nat.le_of_ble_eq_true rfl) dL_law_508 (fun r N hq => ?_)
  refine G_aload_r C dL_law_511 rfl ?_
  refine G_arg C S hL (k := 1) (by omega) dL_law_512 dL_law_513 dL_law_514 (by decide) dL_law_515 dL_law_516 ?_
  refine G_cVi1 C ok_X10_inForce lk_L_59 rfl rfl (h2 r N hq) (Nat.le_of_ble_eq_true rfl) dL_law_517 (fun r2 N2 hq2 => ?_)
  exact G_icmp_eq C 1215 dL_law_520 (by decide) (fun _ => k9 N2 hq2.2) (fun z => absurd hq2.1.symm z)
set_option maxHeartbeats 4000000 in
set_option maxRecDepth 100000 in
theorem O_sum (C : Cok K x RL cL_law 4 13 Rp) (S : SC x b L xs) (hL : L ≤ 3072) {i : Nat} (hi : i + 6 ≤ L) (hp : Pair K mX9_sum mX10_sum [.int (xs (i + 1)), .int (xs (i + 2)), .int (xs (i + 3))] M) (k9 : ∀ N, IVe N → G K x 4 1215 (lvL K b i) [] N) : G K x 4 525 (lvL K b i) [] M := by
  obtain ⟨Q, h1, h2⟩ := hp
  refine G_aload_r C dL_law_525 rfl ?_
  refine G_arg C S hL (k := 1) (by omega) dL_law_526 dL_law_527 dL_law_528 (by decide) dL_law_529 dL_law_530 ?_
  refine G_arg C S hL (k := 2) (by omega) dL_law_531 dL_law_532 dL_law_533 (by decide) dL_law_534 dL_law_535 ?_
  refine G_arg C S hL (k := 3) (by omega) dL_law_536 dL_law_537 dL_law_538 (by decide) dL_law_539 dL_law_540 ?_
  refine G_cVi3 C ok_X9_sum lk_L_60 rfl rfl h1 (Nat.le_of_ble_eq_true rfl) dL_law_541 (fun r N hq => ?_)
  refine G_aload_r C dL_law_544 rfl ?_
  refine G_arg C S hL (k := 1) (by omega) dL_law_545 dL_law_546 dL_law_547 (by decide) dL_law_548 dL_law_549 ?_
  refine G_arg C S hL (k := 2) (by omega) dL_law_550 dL_law_551 dL_law_552 (by decide) dL_law_553 dL_law_554 ?_
  refine G_arg C S hL (k := 3) (by omega) dL_law_555 dL_law_556 dL_law_557 (by decide) dL_law_558 dL_law_559 ?_
  refine G_cVi3 C ok_X10_sum lk_L_63 rfl rfl (h2 r N hq) (Nat.le_of_ble_eq_true rfl) dL_law_560 (fun r2 N2 hq2 => ?_)
  exact G_icmp_eq C 1215 dL_law_563 (by decide) (fun _ => k9 N2 hq2.2) (fun z => absurd hq2.1.symm z)
set_option maxHeartbeats 4000000 in
set_option maxRecDepth 100000 in
theorem O_due (C : Cok K x RL cL_law 4 13 Rp) (S : SC x b L xs) (hL : L ≤ 3072) {i : Nat} (hi : i + 6 ≤ L) (hp : Pair K mX9_due mX10_due [.int (xs (i + 1)), .int (xs (i + 2)), .int (xs (i + 3))] M) (k9 : ∀ N, IVe N → G K x 4 1215 (lvL K b i) [] N) : G K x 4 568 (lvL K b i) [] M := by
  obtain ⟨Q, h1, h2⟩ := hp
  refine G_aload_r C dL_law_568 rfl ?_
  refine G_arg C S hL (k := 1) (by omega) dL_law_569 dL_law_570 dL_law_571 (by decide) dL_law_572 dL_law_573 ?_
  refine G_arg C S hL (k := 2) (by omega) dL_law_574 dL_law_575 dL_law_576 (by decide) dL_law_577 dL_law_578 ?_
  refine G_arg C S hL (k := 3) (by omega) dL_law_579 dL_law_580 dL_law_581 (by decide) dL_law_582 dL_law_583 ?_
  refine G_cVi3 C ok_X9_due lk_L_64 rfl rfl h1 (Nat.le_of_ble_eq_true rfl) dL_law_584 (fun r N hq => ?_)
  refine G_aload_r C dL_law_587 rfl ?_
  refine G_arg C S hL (k := 1) (by omega) dL_law_588 dL_law_589 dL_law_590 (by decide) dL_law_591 dL_law_592 ?_
  refine G_arg C S hL (k := 2) (by omega) dL_law_593 dL_law_594 dL_law_595 (by decide) dL_law_596 dL_law_597 ?_
  refine G_arg C S hL (k := 3) (by omega) dL_law_598 dL_law_599 dL_law_600 (by decide) dL_law_601 dL_law_602 ?_
  refine G_cVi3 C ok_X10_due lk_L_67 rfl rfl (h2 r N hq) (Nat.le_of_ble_eq_true rfl) dL_law_603 (fun r2 N2 hq2 => ?_)
  exact G_icmp_eq C 1215 dL_law_606 (by decide) (fun _ => k9 N2 hq2.2) (fun z => absurd hq2.1.symm z)
set_option maxHeartbeats 4000000 in
set_option maxRecDepth 100000 in
theorem O_edge (C : Cok K x RL cL_law 4 13 Rp) (S : SC x b L xs) (hL : L ≤ 3072) {i : Nat} (hi : i + 6 ≤ L) (hp : Pair K mX9_edge mX10_edge [.int (xs (i + 1)), .int (xs (i + 2))] M) (k9 : ∀ N, IVe N → G K x 4 1215 (lvL K b i) [] N) : G K x 4 611 (lvL K b i) [] M := by
  obtain ⟨Q, h1, h2⟩ := hp
  refine G_aload_r C dL_law_611 rfl ?_
  refine G_arg C S hL (k := 1) (by omega) dL_law_612 dL_law_613 dL_law_614 (by decide) dL_law_615 dL_law_616 ?_
  refine G_arg C S hL (k := 2) (by omega) dL_law_617 dL_law_618 dL_law_619 (by decide) dL_law_620 dL_law_621 ?_
  refine G_cVi2 C ok_X9_edge lk_L_68 rfl rfl h1 (Nat.le_of_ble_eq_true rfl) dL_law_622 (fun r N hq => ?_)
  refine G_aload_r C dL_law_625 rfl ?_
  refine G_arg C S hL (k := 1) (by omega) dL_law_626 dL_law_627 dL_law_628 (by decide) dL_law_629 dL_law_630 ?_
  refine G_arg C S hL (k := 2) (by omega) dL_law_631 dL_law_632 dL_law_633 (by decide) dL_law_634 dL_law_635 ?_
  refine G_cVi2 C ok_X10_edge lk_L_71 rfl rfl (h2 r N hq) (Nat.le_of_ble_eq_true rfl) dL_law_636 (fun r2 N2 hq2 => ?_)
  exact G_icmp_eq C 1215 dL_law_639 (by decide) (fun _ => k9 N2 hq2.2) (fun z => absurd hq2.1.symm z)
set_option maxHeartbeats 4000000 in
set_option maxRecDepth 100000 in
theorem O_line (C : Cok K x RL cL_law 4 13 Rp) (S : SC x b L xs) (hL : L ≤ 3072) {i : Nat} (hi : i + 6 ≤ L) (hp : Pair K mX9_line mX10_line [.int (xs (i + 1)), .int (xs (i + 2)), .int (xs (i + 3))] M) (k9 : ∀ N, IVe N → G K x 4 1215 (lvL K b i) [] N) : G K x 4 644 (lvL K b i) [] M := by
  obtain ⟨Q, h1, h2⟩ := hp
  refine G_aload_r C dL_law_644 rfl ?_
  refine G_arg C S hL (k := 1) (by omega) dL_law_645 dL_law_646 dL_law_647 (by decide) dL_law_648 dL_law_649 ?_
  refine G_arg C S hL (k := 2) (by omega) dL_law_650 dL_law_651 dL_law_652 (by decide) dL_law_653 dL_law_654 ?_
  refine G_arg C S hL (k := 3) (by omega) dL_law_655 dL_law_656 dL_law_657 (by decide) dL_law_658 dL_law_659 ?_
  refine G_cVi3 C ok_X9_line lk_L_72 rfl rfl h1 (Nat.le_of_ble_eq_true rfl) dL_law_660 (fun r N hq => ?_)
  refine G_aload_r C dL_law_663 rfl ?_
  refine G_arg C S hL (k := 1) (by omega) dL_law_664 dL_law_665 dL_law_666 (by decide) dL_law_667 dL_law_668 ?_
  refine G_arg C S hL (k := 2) (by omega) dL_law_669 dL_law_670 dL_law_671 (by decide) dL_law_672 dL_law_673 ?_
  refine G_arg C S hL (k := 3) (by omega) dL_law_674 dL_law_675 dL_law_676 (by decide) dL_law_677 dL_law_678 ?_
  refine G_cVi3 C ok_X10_line lk_L_75 rfl rfl (h2 r N hq) (Nat.le_of_ble_eq_true rfl) dL_law_679 (fun r2 N2 hq2 => ?_)
  exact G_icmp_eq C 1215 dL_law_682 (by decide) (fun _ => k9 N2 hq2.2) (fun z => absurd hq2.1.symm z)
set_option maxHeartbeats 4000000 in
set_option maxRecDepth 100000 in
theorem O_marks (C : Cok K x RL cL_law 4 13 Rp) (S : SC x b L xs) (hL : L ≤ 3072) {i : Nat} (hi : i + 6 ≤ L) (hp : Pair K mX9_marks mX10_marks [.int (xs (i + 1))] M) (k9 : ∀ N, IVe N → G K x 4 1215 (lvL K b i) [] N) : G K x 4 687 (lvL K b i) [] M := by
  obtain ⟨Q, h1, h2⟩ := hp
  refine G_aload_r C dL_law_687 rfl ?_
  refine G_arg C S hL (k := 1) (by omega) dL_law_688 dL_law_689 dL_law_690 (by decide) dL_law_691 dL_law_692 ?_
  refine G_cVi1 C ok_X9_marks lk_L_76 rfl rfl h1 (Nat.le_of_ble_eq_true rfl) dL_law_693 (fun r N hq => ?_)
  refine G_aload_r C dL_law_696 rfl ?_
  refine G_arg C S hL (k := 1) (by omega) dL_law_697 dL_law_698 dL_law_699 (by decide) dL_law_700 dL_law_701 ?_
  refine G_cVi1 C ok_X10_marks lk_L_79 rfl rfl (h2 r N hq) (Nat.le_of_ble_eq_true rfl) dL_law_702 (fun r2 N2 hq2 => ?_)
  exact G_icmp_eq C 1215 dL_law_705 (by decide) (fun _ => k9 N2 hq2.2) (fun z => absurd hq2.1.symm z)
set_option maxHeartbeats 4000000 in
set_option maxRecDepth 100000 in
theorem O_paid (C : Cok K x RL cL_law 4 13 Rp) (S : SC x b L xs) (hL : L ≤ 3072) {i : Nat} (hi : i + 6 ≤ L) (hp : Pair K mX9_paid mX10_paid [.int (xs (i + 1)), .int (xs (i + 2))] M) (k9 : ∀ N, IVe N → G K x 4 1215 (lvL K b i) [] N) : G K x 4 710 (lvL K b i) [] M := by
  obtain ⟨Q, h1, h2⟩ := hp
  refine G_aload_r C dL_law_710 rfl ?_
  refine G_arg C S hL (k := 1) (by omega) dL_law_711 dL_law_712 dL_law_713 (by decide) dL_law_714 dL_law_715 ?_
  refine G_arg C S hL (k := 2) (by omega) dL_law_716 dL_law_717 dL_law_718 (by decide) dL_law_719 dL_law_720 ?_
  refine G_cVi2 C ok_X9_paid lk_L_80 rfl rfl h1 (Nat.le_of_ble_eq_true rfl) dL_law_721 (fun r N hq => ?_)
  refine G_aload_r C dL_law_724 rfl ?_
  refine G_arg C S hL (k := 1) (by omega) dL_law_725 dL_law_726 dL_law_727 (by decide) dL_law_728 dL_law_729 ?_
  refine G_arg C S hL (k := 2) (by omega) dL_law_730 dL_law_731 dL_law_732 (by decide) dL_law_733 dL_law_734 ?_
  refine G_cVi2 C ok_X10_paid lk_L_83 rfl rfl (h2 r N hq) (Nat.le_of_ble_eq_true rfl) dL_law_735 (fun r2 N2 hq2 => ?_)
  exact G_icmp_eq C 1215 dL_law_738 (by decide) (fun _ => k9 N2 hq2.2) (fun z => absurd hq2.1.symm z)
set_option maxHeartbeats 4000000 in
set_option maxRecDepth 100000 in
theorem O_owed (C : Cok K x RL cL_law 4 13 Rp) (S : SC x b L xs) (hL : L ≤ 3072) {i : Nat} (hi : i + 6 ≤ L) (hp : Pair K mX9_owed mX10_owed [.int (xs (i + 1)), .int (xs (i + 2))] M) (k9 : ∀ N, IVe N → G K x 4 1215 (lvL K b i) [] N) : G K x 4 743 (lvL K b i) [] M := by
  obtain ⟨Q, h1, h2⟩ := hp
  refine G_aload_r C dL_law_743 rfl ?_
  refine G_arg C S hL (k := 1) (by omega) dL_law_744 dL_law_745 dL_law_746 (by decide) dL_law_747 dL_law_748 ?_
  refine G_arg C S hL (k := 2) (by omega) dL_law_749 dL_law_750 dL_law_751 (by decide) dL_law_752 dL_law_753 ?_
  refine G_cVi2 C ok_X9_owed lk_L_84 rfl rfl h1 (Nat.le_of_ble_eq_true rfl) dL_law_754 (fun r N hq => ?_)
  refine G_aload_r C dL_law_757 rfl ?_
  refine G_arg C S hL (k := 1) (by omega) dL_law_758 dL_law_759 dL_law_760 (by decide) dL_law_761 dL_law_762 ?_
  refine G_arg C S hL (k := 2) (by omega) dL_law_763 dL_law_764 dL_law_765 (by decide) dL_law_766 dL_law_767 ?_
  refine G_cVi2 C ok_X10_owed lk_L_87 rfl rfl (h2 r N hq) (Nat.le_of_ble_eq_true rfl) dL_law_768 (fun r2 N2 hq2 => ?_)
  exact G_icmp_eq C 1215 dL_law_771 (by decide) (fun _ => k9 N2 hq2.2) (fun z => absurd hq2.1.symm z)
set_option maxHeartbeats 4000000 in
set_option maxRecDepth 100000 in
theorem O_over (C : Cok K x RL cL_law 4 13 Rp) (S : SC x b L xs) (hL : L ≤ 3072) {i : Nat} (hi : i + 6 ≤ L) (hp : Pair K mX9_over mX10_over [.int (xs (i + 1)), .int (xs (i + 2))] M) (k9 : ∀ N, IVe N → G K x 4 1215 (lvL K b i) [] N) : G K x 4 776 (lvL K b i) [] M := by
  obtain ⟨Q, h1, h2⟩ := hp
  refine G_aload_r C dL_law_776 rfl ?_
  refine G_arg C S hL (k := 1) (by omega) dL_law_777 dL_law_778 dL_law_779 (by decide) dL_law_780 dL_law_781 ?_
  refine G_arg C S hL (k := 2) (by omega) dL_law_782 dL_law_783 dL_law_784 (by decide) dL_law_785 dL_law_786 ?_
  refine G_cVi2 C ok_X9_over lk_L_88 rfl rfl h1 (Nat.le_of_ble_eq_true rfl) dL_law_787 (fun r N hq => ?_)
  refine G_aload_r C dL_law_790 rfl ?_
  refine G_arg C S hL (k := 1) (by omega) dL_law_791 dL_law_792 dL_law_793 (by decide) dL_law_794 dL_law_795 ?_
  refine G_arg C S hL (k := 2) (by omega) dL_law_796 dL_law_797 dL_law_798 (by decide) dL_law_799 dL_law_800 ?_
  refine G_cVi2 C ok_X10_over lk_L_91 rfl rfl (h2 r N hq) (Nat.le_of_ble_eq_true rfl) dL_law_801 (fun r2 N2 hq2 => ?_)
  exact G_icmp_eq C 1215 dL_law_804 (by decide) (fun _ => k9 N2 hq2.2) (fun z => absurd hq2.1.symm z)
set_option maxHeartbeats 4000000 in
set_option maxRecDepth 100000 in
theorem O_left (C : Cok K x RL cL_law 4 13 Rp) (S : SC x b L xs) (hL : L ≤ 3072) {i : Nat} (hi : i + 6 ≤ L) (hp : Pair K mX9_left mX10_left [.int (xs (i + 1)), .int (xs (i + 2)), .int (xs (i + 3))] M) (k9 : ∀ N, IVe N → G K x 4 1215 (lvL K b i) [] N) : G K x 4 809 (lvL K b i) [] M := by
  obtain ⟨Q, h1, h2⟩ := hp
  refine G_aload_r C dL_law_809 rfl ?_
  refine G_arg C S hL (k := 1) (by omega) dL_law_810 dL_law_811 dL_law_812 (by decide) dL_law_813 dL_law_814 ?_
  refine G_arg C S hL (k := 2) (by omega) dL_law_815 dL_law_816 dL_law_817 (by decide) dL_law_818 dL_law_819 ?_
  refine G_arg C S hL (k := 3) (by omega) dL_law_820 dL_law_821 dL_law_822 (by decide) dL_law_823 dL_law_824 ?_
  refine G_cVi3 C ok_X9_left lk_L_92 rfl rfl h1 (Nat.le_of_ble_eq_true rfl) dL_law_825 (fun r N hq => ?_)
  refine G_aload_r C dL_law_828 rfl ?_
  refine G_arg C S hL (k := 1) (by omega) dL_law_829 dL_law_830 dL_law_831 (by decide) dL_law_832 dL_law_833 ?_
  refine G_arg C S hL (k := 2) (by omega) dL_law_834 dL_law_835 dL_law_836 (by decide) dL_law_837 dL_law_838 ?_
  refine G_arg C S hL (k := 3) (by omega) dL_law_839 dL_law_840 dL_law_841 (by decide) dL_law_842 dL_law_843 ?_
  refine G_cVi3 C ok_X10_left lk_L_95 rfl rfl (h2 r N hq) (Nat.le_of_ble_eq_true rfl) dL_law_844 (fun r2 N2 hq2 => ?_)
  exact G_icmp_eq C 1215 dL_law_847 (by decide) (fun _ => k9 N2 hq2.2) (fun z => absurd hq2.1.symm z)
set_option maxHeartbeats 4000000 in
set_option maxRecDepth 100000 in
theorem O_oldest (C : Cok K x RL cL_law 4 13 Rp) (S : SC x b L xs) (hL : L ≤ 3072) {i : Nat} (hi : i + 6 ≤ L) (hp : Pair K mX9_oldest mX10_oldest [.int (xs (i + 1)), .int (xs (i + 2))] M) (k9 : ∀ N, IVe N → G K x 4 1215 (lvL K b i) [] N) : G K x 4 852 (lvL K b i) [] M := by
  obtain ⟨Q, h1, h2⟩ := hp
  refine G_aload_r C dL_law_852 rfl ?_
  refine G_arg C S hL (k := 1) (by omega) dL_law_853 dL_law_854 dL_law_855 (by decide) dL_law_856 dL_law_857 ?_
  refine G_arg C S hL (k := 2) (by omega) dL_law_858 dL_law_859 dL_law_860 (by decide) dL_law_861 dL_law_862 ?_
  refine G_cVi2 C ok_X9_oldest lk_L_96 rfl rfl h1 (Nat.le_of_ble_eq_true rfl) dL_law_863 (fun r N hq => ?_)
  refine G_aload_r C dL_law_866 rfl ?_
  refine G_arg C S hL (k := 1) (by omega) dL_law_867 dL_law_868 dL_law_869 (by decide) dL_law_870 dL_law_871 ?_
  refine G_arg C S hL (k := 2) (by omega) dL_law_872 dL_law_873 dL_law_874 (by decide) dL_law_875 dL_law_876 ?_
  refine G_cVi2 C ok_X10_oldest lk_L_99 rfl rfl (h2 r N hq) (Nat.le_of_ble_eq_true rfl) dL_law_877 (fun r2 N2 hq2 => ?_)
  exact G_icmp_eq C 1215 dL_law_880 (by decide) (fun _ => k9 N2 hq2.2) (fun z => absurd hq2.1.symm z)
set_option maxHeartbeats 4000000 in
set_option maxRecDepth 100000 in
theorem O_payer (C : Cok K x RL cL_law 4 13 Rp) (S : SC x b L xs) (hL : L ≤ 3072) {i : Nat} (hi : i + 6 ≤ L) (hp : Pair K mX9_payer mX10_payer [.int (xs (i + 1)), .int (xs (i + 2))] M) (k9 : ∀ N, IVe N → G K x 4 1215 (lvL K b i) [] N) : G K x 4 885 (lvL K b i) [] M := by
  obtain ⟨Q, h1, h2⟩ := hp
  refine G_aload_r C dL_law_885 rfl ?_
  refine G_arg C S hL (k := 1) (by omega) dL_law_886 dL_law_887 dL_law_888 (by decide) dL_law_889 dL_law_890 ?_
  refine G_arg C S hL (k := 2) (by omega) dL_law_891 dL_law_892 dL_law_893 (by decide) dL_law_894 dL_law_895 ?_
  refine G_cVi2 C ok_X9_payer lk_L_100 rfl rfl h1 (Nat.le_of_ble_eq_true rfl) dL_law_896 (fun r N hq => ?_)
  refine G_aload_r C dL_law_899 rfl ?_
  refine G_arg C S hL (k := 1) (by omega) dL_law_900 dL_law_901 dL_law_902 (by decide) dL_law_903 dL_law_904 ?_
  refine G_arg C S hL (k := 2) (by omega) dL_law_905 dL_law_906 dL_law_907 (by decide) dL_law_908 dL_law_909 ?_
  refine G_cVi2 C ok_X10_payer lk_L_103 rfl rfl (h2 r N hq) (Nat.le_of_ble_eq_true rfl) dL_law_910 (fun r2 N2 hq2 => ?_)
  exact G_icmp_eq C 1215 dL_law_913 (by decide) (fun _ => k9 N2 hq2.2) (fun z => absurd hq2.1.symm z)
set_option maxHeartbeats 4000000 in
set_option maxRecDepth 100000 in
theorem O_interest (C : Cok K x RL cL_law 4 13 Rp) (S : SC x b L xs) (hL : L ≤ 3072) {i : Nat} (hi : i + 6 ≤ L) (hp : Pair K mX9_interest mX10_interest [.int (xs (i + 1)), .int (xs (i + 2))] M) (k9 : ∀ N, IVe N → G K x 4 1215 (lvL K b i) [] N) : G K x 4 918 (lvL K b i) [] M := by
  obtain ⟨Q, h1, h2⟩ := hp
  refine G_aload_r C dL_law_918 rfl ?_
  refine G_arg C S hL (k := 1) (by omega) dL_law_919 dL_law_920 dL_law_921 (by decide) dL_law_922 dL_law_923 ?_
  refine G_arg C S hL (k := 2) (by omega) dL_law_924 dL_law_925 dL_law_926 (by decide) dL_law_927 dL_law_928 ?_
  refine G_cVi2 C ok_X9_interest lk_L_104 rfl rfl h1 (Nat.le_of_ble_eq_true rfl) dL_law_929 (fun r N hq => ?_)
  refine G_aload_r C dL_law_932 rfl ?_
  refine G_arg C S hL (k := 1) (by omega) dL_law_933 dL_law_934 dL_law_935 (by decide) dL_law_936 dL_law_937 ?_
  refine G_arg C S hL (k := 2) (by omega) dL_law_938 dL_law_939 dL_law_940 (by decide) dL_law_941 dL_law_942 ?_
  refine G_cVi2 C ok_X10_interest lk_L_107 rfl rfl (h2 r N hq) (Nat.le_of_ble_eq_true rfl) dL_law_943 (fun r2 N2 hq2 => ?_)
  exact G_icmp_eq C 1215 dL_law_946 (by decide) (fun _ => k9 N2 hq2.2) (fun z => absurd hq2.1.symm z)
set_option maxHeartbeats 4000000 in
set_option maxRecDepth 100000 in
theorem O_forgive (C : Cok K x RL cL_law 4 13 Rp) (S : SC x b L xs) (hL : L ≤ 3072) {i : Nat} (hi : i + 6 ≤ L) (hp : Pair K mX9_forgive mX10_forgive [.int (xs (i + 1)), .int (xs (i + 2))] M) (k9 : ∀ N, IVe N → G K x 4 1215 (lvL K b i) [] N) : G K x 4 951 (lvL K b i) [] M := by
  obtain ⟨Q, h1, h2⟩ := hp
  refine G_aload_r C dL_law_951 rfl ?_
  refine G_arg C S hL (k := 1) (by omega) dL_law_952 dL_law_953 dL_law_954 (by decide) dL_law_955 dL_law_956 ?_
  refine G_arg C S hL (k := 2) (by omega) dL_law_957 dL_law_958 dL_law_959 (by decide) dL_law_960 dL_law_961 ?_
  refine G_cVi2 C ok_X9_forgive lk_L_108 rfl rfl h1 (Nat.le_of_ble_eq_true rfl) dL_law_962 (fun r N hq => ?_)
  refine G_aload_r C dL_law_965 rfl ?_
  refine G_arg C S hL (k := 1) (by omega) dL_law_966 dL_law_967 dL_law_968 (by decide) dL_law_969 dL_law_970 ?_
  refine G_arg C S hL (k := 2) (by omega) dL_law_971 dL_law_972 dL_law_973 (by decide) dL_law_974 dL_law_975 ?_
  refine G_cVi2 C ok_X10_forgive lk_L_111 rfl rfl (h2 r N hq) (Nat.le_of_ble_eq_true rfl) dL_law_976 (fun r2 N2 hq2 => ?_)
  exact G_icmp_eq C 1215 dL_law_979 (by decide) (fun _ => k9 N2 hq2.2) (fun z => absurd hq2.1.symm z)
set_option maxHeartbeats 4000000 in
set_option maxRecDepth 100000 in
theorem O_rate (C : Cok K x RL cL_law 4 13 Rp) (S : SC x b L xs) (hL : L ≤ 3072) {i : Nat} (hi : i + 6 ≤ L) (hp : Pair K mX9_rate mX10_rate [.int (xs (i + 1))] M) (k9 : ∀ N, IVe N → G K x 4 1215 (lvL K b i) [] N) : G K x 4 984 (lvL K b i) [] M := by
  obtain ⟨Q, h1, h2⟩ := hp
  refine G_aload_r C dL_law_984 rfl ?_
  refine G_arg C S hL (k := 1) (by omega) dL_law_985 dL_law_986 dL_law_987 (by decide) dL_law_988 dL_law_989 ?_
  refine G_cVi1 C ok_X9_rate lk_L_112 rfl rfl h1 (Nat.le_of_ble_eq_true rfl) dL_law_990 (fun r N hq => ?_)
  refine G_aload_r C dL_law_993 rfl ?_
  refine G_arg C S hL (k := 1) (by omega) dL_law_994 dL_law_995 dL_law_996 (by decide) dL_law_997 dL_law_998 ?_
  refine G_cVi1 C ok_X10_rate lk_L_115 rfl rfl (h2 r N hq) (Nat.le_of_ble_eq_true rfl) dL_law_999 (fun r2 N2 hq2 => ?_)
  exact G_icmp_eq C 1215 dL_law_1002 (by decide) (fun _ => k9 N2 hq2.2) (fun z => absurd hq2.1.symm z)
set_option maxHeartbeats 4000000 in
set_option maxRecDepth 100000 in
theorem O_weeks (C : Cok K x RL cL_law 4 13 Rp) (S : SC x b L xs) (hL : L ≤ 3072) {i : Nat} (hi : i + 6 ≤ L) (hp : Pair K mX9_weeks mX10_weeks [.int (xs (i + 1))] M) (k9 : ∀ N, IVe N → G K x 4 1215 (lvL K b i) [] N) : G K x 4 1007 (lvL K b i) [] M := by
  obtain ⟨Q, h1, h2⟩ := hp
  refine G_aload_r C dL_law_1007 rfl ?_
  refine G_arg C S hL (k := 1) (by omega) dL_law_1008 dL_law_1009 dL_law_1010 (by decide) dL_law_1011 dL_law_1012 ?_
  refine G_cVi1 C ok_X9_weeks lk_L_116 rfl rfl h1 (Nat.le_of_ble_eq_true rfl) dL_law_1013 (fun r N hq => ?_)
  refine G_aload_r C dL_law_1016 rfl ?_
  refine G_arg C S hL (k := 1) (by omega) dL_law_1017 dL_law_1018 dL_law_1019 (by decide) dL_law_1020 dL_law_1021 ?_
  refine G_cVi1 C ok_X10_weeks lk_L_119 rfl rfl (h2 r N hq) (Nat.le_of_ble_eq_true rfl) dL_law_1022 (fun r2 N2 hq2 => ?_)
  exact G_icmp_eq C 1215 dL_law_1025 (by decide) (fun _ => k9 N2 hq2.2) (fun z => absurd hq2.1.symm z)
set_option maxHeartbeats 4000000 in
set_option maxRecDepth 100000 in
theorem O_sheet (C : Cok K x RL cL_law 4 13 Rp) (S : SC x b L xs) (hL : L ≤ 3072) {i : Nat} (hi : i + 6 ≤ L) (hp : Pair K mX9_sheet mX10_sheet [.int (xs (i + 1)), .int (xs (i + 2))] M) (k9 : ∀ N, IVe N → G K x 4 1215 (lvL K b i) [] N) : G K x 4 1030 (lvL K b i) [] M := by
  obtain ⟨Q, h1, h2⟩ := hp
  refine G_aload_r C dL_law_1030 rfl ?_
  refine G_arg C S hL (k := 1) (by omega) dL_law_1031 dL_law_1032 dL_law_1033 (by decide) dL_law_1034 dL_law_1035 ?_
  refine G_arg C S hL (k := 2) (by omega) dL_law_1036 dL_law_1037 dL_law_1038 (by decide) dL_law_1039 dL_law_1040 ?_
  refine G_cVi2 C ok_X9_sheet lk_L_120 rfl rfl h1 (Nat.le_of_ble_eq_true rfl) dL_law_1041 (fun r N hq => ?_)
  refine G_aload_r C dL_law_1044 rfl ?_
  refine G_arg C S hL (k := 1) (by omega) dL_law_1045 dL_law_1046 dL_law_1047 (by decide) dL_law_1048 dL_law_1049 ?_
  refine G_arg C S hL (k := 2) (by omega) dL_law_1050 dL_law_1051 dL_law_1052 (by decide) dL_law_1053 dL_law_1054 ?_
  refine G_cVi2 C ok_X10_sheet lk_L_123 rfl rfl (h2 r N hq) (Nat.le_of_ble_eq_true rfl) dL_law_1055 (fun r2 N2 hq2 => ?_)
  exact G_icmp_eq C 1215 dL_law_1058 (by decide) (fun _ => k9 N2 hq2.2) (fun z => absurd hq2.1.symm z)
set_option maxHeartbeats 4000000 in
set_option maxRecDepth 100000 in
theorem O_mark (C : Cok K x RL cL_law 4 13 Rp) (S : SC x b L xs) (hL : L ≤ 3072) {i : Nat} (hi : i + 6 ≤ L) (hp : Pair K mX9_mark mX10_mark [.int (xs (i + 1)), .int (xs (i + 2)), .int (xs (i + 3))] M) (k9 : ∀ N, IVe N → G K x 4 1215 (lvL K b i) [] N) : G K x 4 1063 (lvL K b i) [] M := by
  obtain ⟨Q, h1, h2⟩ := hp
  refine G_aload_r C dL_law_1063 rfl ?_
  refine G_arg C S hL (k := 1) (by omega) dL_law_1064 dL_law_1065 dL_law_1066 (by decide) dL_law_1067 dL_law_1068 ?_
  refine G_arg C S hL (k := 2) (by omega) dL_law_1069 dL_law_1070 dL_law_1071 (by decide) dL_law_1072 dL_law_1073 ?_
  refine G_arg C S hL (k := 3) (by omega) dL_law_1074 dL_law_1075 dL_law_1076 (by decide) dL_law_1077 dL_law_1078 ?_
  refine G_cVi3 C ok_X9_mark lk_L_124 rfl rfl h1 (Nat.le_of_ble_eq_true rfl) dL_law_1079 (fun r N hq => ?_)
  refine G_aload_r C dL_law_1082 rfl ?_
  refine G_arg C S hL (k := 1) (by omega) dL_law_1083 dL_law_1084 dL_law_1085 (by decide) dL_law_1086 dL_law_1087 ?_
  refine G_arg C S hL (k := 2) (by omega) dL_law_1088 dL_law_1089 dL_law_1090 (by decide) dL_law_1091 dL_law_1092 ?_
  refine G_arg C S hL (k := 3) (by omega) dL_law_1093 dL_law_1094 dL_law_1095 (by decide) dL_law_1096 dL_law_1097 ?_
  refine G_cVi3 C ok_X10_mark lk_L_127 rfl rfl (h2 r N hq) (Nat.le_of_ble_eq_true rfl) dL_law_1098 (fun r2 N2 hq2 => ?_)
  exact G_icmp_eq C 1215 dL_law_1101 (by decide) (fun _ => k9 N2 hq2.2) (fun z => absurd hq2.1.symm z)
set_option maxHeartbeats 4000000 in
set_option maxRecDepth 100000 in
theorem O_copy (C : Cok K x RL cL_law 4 13 Rp) (S : SC x b L xs) (hL : L ≤ 3072) {i : Nat} (hi : i + 6 ≤ L) (hp : Pair K mX9_copy mX10_copy [.int (xs (i + 1)), .int (xs (i + 2)), .int (xs (i + 3)), .int (xs (i + 4)), .int (xs (i + 5))] M) (k9 : ∀ N, IVe N → G K x 4 1215 (lvL K b i) [] N) : G K x 4 1106 (lvL K b i) [] M := by
  obtain ⟨Q, h1, h2⟩ := hp
  refine G_aload_r C dL_law_1106 rfl ?_
  refine G_arg C S hL (k := 1) (by omega) dL_law_1107 dL_law_1108 dL_law_1109 (by decide) dL_law_1110 dL_law_1111 ?_
  refine G_arg C S hL (k := 2) (by omega) dL_law_1112 dL_law_1113 dL_law_1114 (by decide) dL_law_1115 dL_law_1116 ?_
  refine G_arg C S hL (k := 3) (by omega) dL_law_1117 dL_law_1118 dL_law_1119 (by decide) dL_law_1120 dL_law_1121 ?_
  refine G_arg C S hL (k := 4) (by omega) dL_law_1122 dL_law_1123 dL_law_1124 (by decide) dL_law_1125 dL_law_1126 ?_
  refine G_arg C S hL (k := 5) (by omega) dL_law_1127 dL_law_1128 dL_law_1129 (by decide) dL_law_1130 dL_law_1131 ?_
  refine G_cVi5 C ok_X9_copy lk_L_128 rfl rfl h1 (Nat.le_of_ble_eq_true rfl) dL_law_1132 (fun r N hq => ?_)
  refine G_aload_r C dL_law_1135 rfl ?_
  refine G_arg C S hL (k := 1) (by omega) dL_law_1136 dL_law_1137 dL_law_1138 (by decide) dL_law_1139 dL_law_1140 ?_
  refine G_arg C S hL (k := 2) (by omega) dL_law_1141 dL_law_1142 dL_law_1143 (by decide) dL_law_1144 dL_law_1145 ?_
  refine G_arg C S hL (k := 3) (by omega) dL_law_1146 dL_law_1147 dL_law_1148 (by decide) dL_law_1149 dL_law_1150 ?_
  refine G_arg C S hL (k := 4) (by omega) dL_law_1151 dL_law_1152 dL_law_1153 (by decide) dL_law_1154 dL_law_1155 ?_
  refine G_arg C S hL (k := 5) (by omega) dL_law_1156 dL_law_1157 dL_law_1158 (by decide) dL_law_1159 dL_law_1160 ?_
  refine G_cVi5 C ok_X10_copy lk_L_132 rfl rfl (h2 r N hq) (Nat.le_of_ble_eq_true rfl) dL_law_1161 (fun r2 N2 hq2 => ?_)
  exact G_icmp_eq C 1215 dL_law_1164 (by decide) (fun _ => k9 N2 hq2.2) (fun z => absurd hq2.1.symm z)
set_option maxHeartbeats 4000000 in
set_option maxRecDepth 100000 in
theorem O_lose (C : Cok K x RL cL_law 4 13 Rp) (S : SC x b L xs) (hL : L ≤ 3072) {i : Nat} (hi : i + 6 ≤ L) (hp : Pair K mX9_lose mX10_lose [.int (xs (i + 1))] M) (k9 : ∀ N, IVe N → G K x 4 1215 (lvL K b i) [] N) : G K x 4 1169 (lvL K b i) [] M := by
  obtain ⟨Q, h1, h2⟩ := hp
  refine G_aload_r C dL_law_1169 rfl ?_
  refine G_arg C S hL (k := 1) (by omega) dL_law_1170 dL_law_1171 dL_law_1172 (by decide) dL_law_1173 dL_law_1174 ?_
  refine G_cVi1 C ok_X9_lose lk_L_133 rfl rfl h1 (Nat.le_of_ble_eq_true rfl) dL_law_1175 (fun r N hq => ?_)
  refine G_aload_r C dL_law_1178 rfl ?_
  refine G_arg C S hL (k := 1) (by omega) dL_law_1179 dL_law_1180 dL_law_1181 (by decide) dL_law_1182 dL_law_1183 ?_
  refine G_cVi1 C ok_X10_lose lk_L_136 rfl rfl (h2 r N hq) (Nat.le_of_ble_eq_true rfl) dL_law_1184 (fun r2 N2 hq2 => ?_)
  exact G_icmp_eq C 1215 dL_law_1187 (by decide) (fun _ => k9 N2 hq2.2) (fun z => absurd hq2.1.symm z)
set_option maxHeartbeats 4000000 in
set_option maxRecDepth 100000 in
theorem O_count (C : Cok K x RL cL_law 4 13 Rp) (S : SC x b L xs) (hL : L ≤ 3072) {i : Nat} (hi : i + 6 ≤ L) (hp : Pair K mX9_count mX10_count [.int (xs (i + 1))] M) (k9 : ∀ N, IVe N → G K x 4 1215 (lvL K b i) [] N) : G K x 4 1192 (lvL K b i) [] M := by
  obtain ⟨Q, h1, h2⟩ := hp
  refine G_aload_r C dL_law_1192 rfl ?_
  refine G_arg C S hL (k := 1) (by omega) dL_law_1193 dL_law_1194 dL_law_1195 (by decide) dL_law_1196 dL_law_1197 ?_
  refine G_cVi1 C ok_X9_count lk_L_137 rfl rfl h1 (Nat.le_of_ble_eq_true rfl) dL_law_1198 (fun r N hq => ?_)
  refine G_aload_r C dL_law_1201 rfl ?_
  refine G_arg C S hL (k := 1) (by omega) dL_law_1202 dL_law_1203 dL_law_1204 (by decide) dL_law_1205 dL_law_1206 ?_
  refine G_cVi1 C ok_X10_count lk_L_140 rfl rfl (h2 r N hq) (Nat.le_of_ble_eq_true rfl) dL_law_1207 (fun r2 N2 hq2 => ?_)
  exact G_icmp_eq C 1215 dL_law_1210 (by decide) (fun _ => k9 N2 hq2.2) (fun z => absurd hq2.1.symm z)
theorem and31 (v : Int32) : ∃ j : Nat, j ≤ 31 ∧ v &&& 31 = nI j := by
  refine n_ex (b := 31) rfl (by decide) ?_
  have h1 : (v &&& 31).toBitVec = v.toBitVec &&& 31#32 := rfl
  have h2 : (v &&& 31).toBitVec.toNat ≤ 31 := by
    rw [h1, BitVec.toNat_and]
    exact Nat.and_le_right
  have h3 : (v &&& 31).toInt = (v &&& 31).toBitVec.toNat := by
    show (v &&& 31).toBitVec.toInt = _
    rw [BitVec.toInt_eq_toNat_of_lt (by omega)]
  rw [fa_le, fa_le, h3]
  constructor
  · show (0 : Int) ≤ _
    omega
  · show _ ≤ (31 : Int)
    omega
theorem six {i L : Nat} (hi : i ≤ 3072) (hL : L ≤ 3072) (h : ¬ nI L - 6 < nI i) : i + 6 ≤ L := by
  rw [fa_lt, show (6 : Int32) = nI 6 from rfl, pk_sub_toInt (by omega) (by omega), nI_toInt (by omega)] at h
  omega
set_option maxHeartbeats 4000000 in
set_option maxRecDepth 100000 in
theorem T_law {hv : (kF K).category = 1} (C : Cok K x RL cL_law 4 13 Rp) (S : SC x b L xs) (hL : L ≤ 3072) {i : Nat} (hi : i + 6 ≤ L) (hM : IVe M) (k9 : ∀ N, IVe N → G K x 4 1215 (lvL K b i) [] N) : ∀ j : Nat, j ≤ 31 → G K x 4 33 (lvL K b i) [.int (nI j)] M := by
  intro j hj
  obtain ⟨nc, nl, nb, nt, nw, hI⟩ := id hM
  rcases (show j = 0 ∨ j = 1 ∨ j = 2 ∨ j = 3 ∨ j = 4 ∨ j = 5 ∨ j = 6 ∨ j = 7 ∨ j = 8 ∨ j = 9 ∨ j = 10 ∨ j = 11 ∨ j = 12 ∨ j = 13 ∨ j = 14 ∨ j = 15 ∨ j = 16 ∨ j = 17 ∨ j = 18 ∨ j = 19 ∨ j = 20 ∨ j = 21 ∨ j = 22 ∨ j = 23 ∨ j = 24 ∨ j = 25 ∨ j = 26 ∨ j = 27 ∨ j = 28 ∨ j = 29 ∨ j = 30 ∨ j = 31 by omega) with rfl | rfl | rfl | rfl | rfl | rfl | rfl | rfl | rfl | rfl | rfl | rfl | rfl | rfl | rfl | rfl | rfl | rfl | rfl | rfl | rfl | rfl | rfl | rfl | rfl | rfl | rfl | rfl | rfl | rfl | rfl | rfl
  · refine G_tableIn C (139) 172 dL_law_33 (by decide) (by decide) rfl (by decide) ?_
    exact O_change C S hL hi (q_change hI) k9
  · refine G_tableIn C (182) 215 dL_law_33 (by decide) (by decide) rfl (by decide) ?_
    exact O_isOf C S hL hi (q_isOf hI) k9
  · refine G_tableIn C (215) 248 dL_law_33 (by decide) (by decide) rfl (by decide) ?_
    exact O_takeBack C S hL hi (q_takeBack hI) k9
  · refine G_tableIn C (238) 271 dL_law_33 (by decide) (by decide) rfl (by decide) ?_
    exact O_told C S hL hi (q_told hI) k9
  · refine G_tableIn C (271) 304 dL_law_33 (by decide) (by decide) rfl (by decide) ?_
    exact O_known C S hL hi (q_known hI) k9
  · refine G_tableIn C (314) 347 dL_law_33 (by decide) (by decide) rfl (by decide) ?_
    exact O_school C S hL hi (q_school hI) k9
  · refine G_tableIn C (347) 380 dL_law_33 (by decide) (by decide) rfl (by decide) ?_
    exact O_nights C S hL hi (q_nights hI) k9
  · refine G_tableIn C (380) 413 dL_law_33 (by decide) (by decide) rfl (by decide) ?_
    exact O_feed C S hL hi (q_feed hI) k9
  · refine G_tableIn C (423) 456 dL_law_33 (by decide) (by decide) rfl (by decide) ?_
    exact O_trim C S hL hi (q_trim hI) k9
  · refine G_tableIn C (446) 479 dL_law_33 (by decide) (by decide) rfl (by decide) ?_
    exact O_law C S hL hi (q_law hv hI) k9
  · refine G_tableIn C (469) 502 dL_law_33 (by decide) (by decide) rfl (by decide) ?_
    exact O_inForce C S hL hi (q_inForce hI) k9
  · refine G_tableIn C (492) 525 dL_law_33 (by decide) (by decide) rfl (by decide) ?_
    exact O_sum C S hL hi (q_sum hI) k9
  · refine G_tableIn C (535) 568 dL_law_33 (by decide) (by decide) rfl (by decide) ?_
    exact O_due C S hL hi (q_due hI) k9
  · refine G_tableIn C (578) 611 dL_law_33 (by decide) (by decide) rfl (by decide) ?_
    exact O_edge C S hL hi (q_edge hI) k9
  · refine G_tableIn C (611) 644 dL_law_33 (by decide) (by decide) rfl (by decide) ?_
    exact O_line C S hL hi (q_line hI) k9
  · refine G_tableIn C (654) 687 dL_law_33 (by decide) (by decide) rfl (by decide) ?_
    exact O_marks C S hL hi (q_marks hI) k9
  · refine G_tableIn C (677) 710 dL_law_33 (by decide) (by decide) rfl (by decide) ?_
    exact O_paid C S hL hi (q_paid hI) k9
  · refine G_tableIn C (710) 743 dL_law_33 (by decide) (by decide) rfl (by decide) ?_
    exact O_owed C S hL hi (q_owed hI) k9
  · refine G_tableIn C (743) 776 dL_law_33 (by decide) (by decide) rfl (by decide) ?_
    exact O_over C S hL hi (q_over hI) k9
  · refine G_tableIn C (776) 809 dL_law_33 (by decide) (by decide) rfl (by decide) ?_
    exact O_left C S hL hi (q_left hI) k9
  · refine G_tableIn C (819) 852 dL_law_33 (by decide) (by decide) rfl (by decide) ?_
    exact O_oldest C S hL hi (q_oldest hI) k9
  · refine G_tableIn C (852) 885 dL_law_33 (by decide) (by decide) rfl (by decide) ?_
    exact O_payer C S hL hi (q_payer hI) k9
  · refine G_tableIn C (885) 918 dL_law_33 (by decide) (by decide) rfl (by decide) ?_
    exact O_interest C S hL hi (q_interest hI) k9
  · refine G_tableIn C (918) 951 dL_law_33 (by decide) (by decide) rfl (by decide) ?_
    exact O_forgive C S hL hi (q_forgive hI) k9
  · refine G_tableIn C (951) 984 dL_law_33 (by decide) (by decide) rfl (by decide) ?_
    exact O_rate C S hL hi (q_rate hI) k9
  · refine G_tableIn C (974) 1007 dL_law_33 (by decide) (by decide) rfl (by decide) ?_
    exact O_weeks C S hL hi (q_weeks hI) k9
  · refine G_tableIn C (997) 1030 dL_law_33 (by decide) (by decide) rfl (by decide) ?_
    exact O_sheet C S hL hi (q_sheet hI) k9
  · refine G_tableIn C (1030) 1063 dL_law_33 (by decide) (by decide) rfl (by decide) ?_
    exact O_mark C S hL hi (q_mark hI) k9
  · refine G_tableIn C (1073) 1106 dL_law_33 (by decide) (by decide) rfl (by decide) ?_
    exact O_copy C S hL hi (q_copy hI) k9
  · refine G_tableIn C (1136) 1169 dL_law_33 (by decide) (by decide) rfl (by decide) ?_
    exact O_lose C S hL hi (q_lose hI) k9
  · refine G_tableIn C (1159) 1192 dL_law_33 (by decide) (by decide) rfl (by decide) ?_
    exact O_count C S hL hi (q_count hI) k9
  · exact G_tableOut C 1215 dL_law_33 (by decide) (by decide) (k9 M hM)
set_option maxHeartbeats 4000000 in
set_option maxRecDepth 100000 in
theorem L_law (hv : (kF K).category = 1) (C : Cok K x RL cL_law 4 13 (RI (fun v _ => v = 1))) (S : SC x b L xs) (hL : L ≤ 3072) : ∀ (f i : Nat) (M : Mem), L < i + 6 * f → i ≤ L → IVe M → G K x 4 18 (lvL K b i) [] M := by
  intro f
  induction f with
  | zero => intro i M h1 h2; omega
  | succ f ih =>
    intro i M h1 h2 hM
    refine G_iload_n C dL_law_18 rfl ?_
    refine G_aload_n C dL_law_19 rfl ?_
    refine G_slen C S dL_law_20 ?_
    refine G_bipush C (6) dL_law_21 (by decide) ?_
    refine G_isub C dL_law_23 ?_
    refine G_icmp_gt C 1221 dL_law_24 (by decide) (fun h24 => ?_) (fun h24 => ?_)
    · refine G_iconst C (1) dL_law_1221 (by decide) ?_
      exact G_ret C dL_law_1222 rfl
    · have h6 := six (by omega) hL h24
      refine G_aload_n C dL_law_27 rfl ?_
      refine G_iload_n C dL_law_28 rfl ?_
      refine G_sald C S hL (by omega) dL_law_29 ?_
      refine G_bipush C (31) dL_law_30 (by decide) ?_
      refine G_iand C dL_law_32 ?_
      obtain ⟨j, hj, ej⟩ := and31 (xs i)
      refine G_is (nI j) ej ?_
      refine T_law (hv := hv) C S hL h6 hM (fun N hN => ?_) j hj
      refine G_iinc C (w := nI (i + 6)) dL_law_1215 (by decide) rfl (nI_add i 6) ?_
      refine G_goto C 18 dL_law_1218 (by decide) ?_
      refine G_sub (lvL K b (i + 6)) (by repeat (first | refine And.intro rfl ?_ | exact True.intro)) ?_
      exact ih (i + 6) N (by omega) (by omega) hN
end LA
