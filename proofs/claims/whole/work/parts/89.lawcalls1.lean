/-! ===== the law: its calls, 1 ===== -/
set_option maxRecDepth 100000 in
set_option maxHeartbeats 4000000 in
theorem LC_0 {g : GP} {b L : Nat} {xs : Nat → Int32} {kk nn i q : Nat} {σ : AH} (hL : L < 1073741824) (hi : i + 6 < L) (hq : q < 512) (h : Rel q σ) (kt : ∀ σ', Rel (q + 1) σ' → V g mLaw (ELw b) (CXl g b L xs) kk nn 1987 [(0, .ref 1), (1, .ref 2), (2, .ref 33), (3, .ref 72), (4, .int (nI i))] [] σ') :
    V g mLaw (ELw b) (CXl g b L xs) (kk + 11) (nn + 94) 184 [(0, .ref 1), (1, .ref 2), (2, .ref 33), (3, .ref 72), (4, .int (nI i))] [] σ := by
  refine V_aload_n dW_184 rfl ?_
  refine V_aload_n dW_185 rfl ?_
  refine V_iload dW_186 rfl ?_
  refine V_iconst (1 : Int32) dW_188 (by decide) ?_
  refine V_iadd dW_189 ?_
  refine V_sldj (j := 1) rfl (by omega) hL dW_190 ?_
  refine V_aload_n dW_191 rfl ?_
  refine V_iload dW_192 rfl ?_
  refine V_iconst (2 : Int32) dW_194 (by decide) ?_
  refine V_iadd dW_195 ?_
  refine V_sldj (j := 2) rfl (by omega) hL dW_196 ?_
  refine V_aload_n dW_197 rfl ?_
  refine V_iload dW_198 rfl ?_
  refine V_iconst (3 : Int32) dW_200 (by decide) ?_
  refine V_iadd dW_201 ?_
  refine V_sldj (j := 3) rfl (by omega) hL dW_202 ?_
  refine V_aload_n dW_203 rfl ?_
  refine V_callSH (as := [.ref 2, .int (xs (i + 1)), .int (xs (i + 2)), .int (xs (i + 3)), .ref 72]) (st := []) (k' := kk) (n' := nn) (R_miles hq h) mw_L_miles w_431 w_430 ar_L_miles (rf_L rfl rfl rfl rfl rfl) dW_204 (fun σ1 rv hq1 => ?_)
  obtain ⟨e, rfl, hS1, hm⟩ := hq1
  refine V_cast (st' := [.int e]) rfl rfl rfl ?_
  refine V_istore [(0, .ref 1), (1, .ref 2), (2, .ref 33), (3, .ref 72), (4, .int (nI i)), (5, .int e)] dW_207 rfl rfl ?_
  refine V_aload_n dW_209 rfl ?_
  refine V_aload_n dW_210 rfl ?_
  refine V_iload dW_211 rfl ?_
  refine V_iconst (1 : Int32) dW_213 (by decide) ?_
  refine V_iadd dW_214 ?_
  refine V_sldj (j := 1) rfl (by omega) hL dW_215 ?_
  refine V_aload_n dW_216 rfl ?_
  refine V_iload dW_217 rfl ?_
  refine V_iconst (2 : Int32) dW_219 (by decide) ?_
  refine V_iadd dW_220 ?_
  refine V_sldj (j := 2) rfl (by omega) hL dW_221 ?_
  refine V_aload_n dW_222 rfl ?_
  refine V_iload dW_223 rfl ?_
  refine V_iconst (3 : Int32) dW_225 (by decide) ?_
  refine V_iadd dW_226 ?_
  refine V_sldj (j := 3) rfl (by omega) hL dW_227 ?_
  refine V_callV (as := [.int (xs (i + 1)), .int (xs (i + 2)), .int (xs (i + 3))]) (st := []) (k' := kk) (n' := nn) hm mw_X12_miles ko_X12 rfl w_1212 w_1213 w_1211 ar_X12_miles (rf_M rfl rfl rfl rfl rfl) dW_228 (by decide) (shk hS1 33 rfl) (fun σ2 rv hq2 => ?_)
  obtain ⟨e49, hR, d, rfl, hb⟩ := hq2
  refine V_cast (st' := [.int d]) rfl rfl rfl ?_
  refine V_istore [(0, .ref 1), (1, .ref 2), (2, .ref 33), (3, .ref 72), (4, .int (nI i)), (5, .int e), (6, .int d)] dW_231 rfl rfl ?_
  refine V_aload_n dW_233 rfl ?_
  refine V_callV1 (as := []) (st := []) (k' := kk) (n' := nn) (s_X12_thrown hR.2.1) mw_X12_thrown ko_X12 rfl w_1208 w_1209 w_1207 ar_X12_thrown rfl (rf_M rfl rfl rfl rfl rfl) dW_234 (by decide) (shk hR.2.1 33 rfl) ?_
  refine V_iload dW_237 rfl ?_
  refine V_icmp_eq 244 dW_239 rfl (fun _ => ?_) (fun c => absurd e49 c)
  refine V_iload dW_244 rfl ?_
  refine V_if_ne 261 dW_246 rfl (fun _ => ?_) (fun ck => ?_)
  · refine V_goto 1987 dW_261 rfl ?_
    exact V_less (fun q hq => List.mem_append_left [(5, .int e), (6, .int d)] hq) (Nat.le_refl _) (Nat.le_refl _) (kt σ2 hR)
  · refine V_aload_n dW_249 rfl ?_
    refine V_iconst (0 : Int32) dW_250 (by decide) ?_
    refine V_lald dW_251 (by decide) (shk hR.2.1 72 rfl) (vp_l (n := 1) (shl hR.2.1 72 rfl) (vp_in_nI (n := 0) (by decide) (by decide))) ?_
    refine V_iload dW_252 rfl ?_
    refine V_i2l dW_254 ?_
    refine V_lcmp dW_255 ?_
    refine V_if_eq 261 dW_256 rfl (fun _ => ?_) (fun c => absurd (lc_eq (hb ck)) c)
    refine V_goto 1987 dW_261 rfl ?_
    exact V_less (fun q hq => List.mem_append_left [(5, .int e), (6, .int d)] hq) (Nat.le_refl _) (Nat.le_refl _) (kt σ2 hR)
set_option maxRecDepth 100000 in
set_option maxHeartbeats 4000000 in
theorem LC_1 {g : GP} {b L : Nat} {xs : Nat → Int32} {kk nn i q : Nat} {σ : AH} (hL : L < 1073741824) (hi : i + 6 < L) (hq : q < 512) (h : Rel q σ) (kt : ∀ σ', Rel (q + 1) σ' → V g mLaw (ELw b) (CXl g b L xs) kk nn 1987 [(0, .ref 1), (1, .ref 2), (2, .ref 33), (3, .ref 72), (4, .int (nI i))] [] σ') :
    V g mLaw (ELw b) (CXl g b L xs) (kk + 11) (nn + 94) 264 [(0, .ref 1), (1, .ref 2), (2, .ref 33), (3, .ref 72), (4, .int (nI i))] [] σ := by
  refine V_aload_n dW_264 rfl ?_
  refine V_aload_n dW_265 rfl ?_
  refine V_iload dW_266 rfl ?_
  refine V_iconst (1 : Int32) dW_268 (by decide) ?_
  refine V_iadd dW_269 ?_
  refine V_sldj (j := 1) rfl (by omega) hL dW_270 ?_
  refine V_aload_n dW_271 rfl ?_
  refine V_iload dW_272 rfl ?_
  refine V_iconst (2 : Int32) dW_274 (by decide) ?_
  refine V_iadd dW_275 ?_
  refine V_sldj (j := 2) rfl (by omega) hL dW_276 ?_
  refine V_aload_n dW_277 rfl ?_
  refine V_iload dW_278 rfl ?_
  refine V_iconst (3 : Int32) dW_280 (by decide) ?_
  refine V_iadd dW_281 ?_
  refine V_sldj (j := 3) rfl (by omega) hL dW_282 ?_
  refine V_aload_n dW_283 rfl ?_
  refine V_iload dW_284 rfl ?_
  refine V_iconst (4 : Int32) dW_286 (by decide) ?_
  refine V_iadd dW_287 ?_
  refine V_sldj (j := 4) rfl (by omega) hL dW_288 ?_
  refine V_aload_n dW_289 rfl ?_
  refine V_iload dW_290 rfl ?_
  refine V_iconst (5 : Int32) dW_292 (by decide) ?_
  refine V_iadd dW_293 ?_
  refine V_sldj (j := 5) rfl (by omega) hL dW_294 ?_
  refine V_aload_n dW_295 rfl ?_
  refine V_iload dW_296 rfl ?_
  refine V_bipush (6 : Int32) dW_298 (by decide) ?_
  refine V_iadd dW_300 ?_
  refine V_sldj (j := 6) rfl (by omega) hL dW_301 ?_
  refine V_aload_n dW_302 rfl ?_
  refine V_callSH (as := [.ref 2, .int (xs (i + 1)), .int (xs (i + 2)), .int (xs (i + 3)), .int (xs (i + 4)), .int (xs (i + 5)), .int (xs (i + 6)), .ref 72]) (st := []) (k' := kk) (n' := nn) (R_fare hq h) mw_L_fare w_531 w_530 ar_L_fare (rf_L rfl rfl rfl rfl rfl) dW_303 (fun σ1 rv hq1 => ?_)
  obtain ⟨e, rfl, hS1, hm⟩ := hq1
  refine V_cast (st' := [.int e]) rfl rfl rfl ?_
  refine V_istore [(0, .ref 1), (1, .ref 2), (2, .ref 33), (3, .ref 72), (4, .int (nI i)), (5, .int e)] dW_306 rfl rfl ?_
  refine V_aload_n dW_308 rfl ?_
  refine V_aload_n dW_309 rfl ?_
  refine V_iload dW_310 rfl ?_
  refine V_iconst (1 : Int32) dW_312 (by decide) ?_
  refine V_iadd dW_313 ?_
  refine V_sldj (j := 1) rfl (by omega) hL dW_314 ?_
  refine V_aload_n dW_315 rfl ?_
  refine V_iload dW_316 rfl ?_
  refine V_iconst (2 : Int32) dW_318 (by decide) ?_
  refine V_iadd dW_319 ?_
  refine V_sldj (j := 2) rfl (by omega) hL dW_320 ?_
  refine V_aload_n dW_321 rfl ?_
  refine V_iload dW_322 rfl ?_
  refine V_iconst (3 : Int32) dW_324 (by decide) ?_
  refine V_iadd dW_325 ?_
  refine V_sldj (j := 3) rfl (by omega) hL dW_326 ?_
  refine V_aload_n dW_327 rfl ?_
  refine V_iload dW_328 rfl ?_
  refine V_iconst (4 : Int32) dW_330 (by decide) ?_
  refine V_iadd dW_331 ?_
  refine V_sldj (j := 4) rfl (by omega) hL dW_332 ?_
  refine V_aload_n dW_333 rfl ?_
  refine V_iload dW_334 rfl ?_
  refine V_iconst (5 : Int32) dW_336 (by decide) ?_
  refine V_iadd dW_337 ?_
  refine V_sldj (j := 5) rfl (by omega) hL dW_338 ?_
  refine V_aload_n dW_339 rfl ?_
  refine V_iload dW_340 rfl ?_
  refine V_bipush (6 : Int32) dW_342 (by decide) ?_
  refine V_iadd dW_344 ?_
  refine V_sldj (j := 6) rfl (by omega) hL dW_345 ?_
  refine V_callV (as := [.int (xs (i + 1)), .int (xs (i + 2)), .int (xs (i + 3)), .int (xs (i + 4)), .int (xs (i + 5)), .int (xs (i + 6))]) (st := []) (k' := kk) (n' := nn) hm mw_X12_fare ko_X12 rfl w_1226 w_1227 w_1225 ar_X12_fare (rf_M rfl rfl rfl rfl rfl) dW_346 (by decide) (shk hS1 33 rfl) (fun σ2 rv hq2 => ?_)
  obtain ⟨e49, hR, d, rfl, hb⟩ := hq2
  refine V_cast (st' := [.int d]) rfl rfl rfl ?_
  refine V_istore [(0, .ref 1), (1, .ref 2), (2, .ref 33), (3, .ref 72), (4, .int (nI i)), (5, .int e), (6, .int d)] dW_349 rfl rfl ?_
  refine V_aload_n dW_351 rfl ?_
  refine V_callV1 (as := []) (st := []) (k' := kk) (n' := nn) (s_X12_thrown hR.2.1) mw_X12_thrown ko_X12 rfl w_1208 w_1209 w_1207 ar_X12_thrown rfl (rf_M rfl rfl rfl rfl rfl) dW_352 (by decide) (shk hR.2.1 33 rfl) ?_
  refine V_iload dW_355 rfl ?_
  refine V_icmp_eq 362 dW_357 rfl (fun _ => ?_) (fun c => absurd e49 c)
  refine V_iload dW_362 rfl ?_
  refine V_if_ne 379 dW_364 rfl (fun _ => ?_) (fun ck => ?_)
  · refine V_goto 1987 dW_379 rfl ?_
    exact V_less (fun q hq => List.mem_append_left [(5, .int e), (6, .int d)] hq) (Nat.le_refl _) (Nat.le_refl _) (kt σ2 hR)
  · refine V_aload_n dW_367 rfl ?_
    refine V_iconst (0 : Int32) dW_368 (by decide) ?_
    refine V_lald dW_369 (by decide) (shk hR.2.1 72 rfl) (vp_l (n := 1) (shl hR.2.1 72 rfl) (vp_in_nI (n := 0) (by decide) (by decide))) ?_
    refine V_iload dW_370 rfl ?_
    refine V_i2l dW_372 ?_
    refine V_lcmp dW_373 ?_
    refine V_if_eq 379 dW_374 rfl (fun _ => ?_) (fun c => absurd (lc_eq (hb ck)) c)
    refine V_goto 1987 dW_379 rfl ?_
    exact V_less (fun q hq => List.mem_append_left [(5, .int e), (6, .int d)] hq) (Nat.le_refl _) (Nat.le_refl _) (kt σ2 hR)
set_option maxRecDepth 100000 in
set_option maxHeartbeats 4000000 in
theorem LC_2 {g : GP} {b L : Nat} {xs : Nat → Int32} {kk nn i q : Nat} {σ : AH} (hL : L < 1073741824) (hi : i + 6 < L) (hq : q < 512) (h : Rel q σ) (kt : ∀ σ', Rel (q + 1) σ' → V g mLaw (ELw b) (CXl g b L xs) kk nn 1987 [(0, .ref 1), (1, .ref 2), (2, .ref 33), (3, .ref 72), (4, .int (nI i))] [] σ') :
    V g mLaw (ELw b) (CXl g b L xs) (kk + 11) (nn + 94) 382 [(0, .ref 1), (1, .ref 2), (2, .ref 33), (3, .ref 72), (4, .int (nI i))] [] σ := by
  refine V_aload_n dW_382 rfl ?_
  refine V_aload_n dW_383 rfl ?_
  refine V_iload dW_384 rfl ?_
  refine V_iconst (1 : Int32) dW_386 (by decide) ?_
  refine V_iadd dW_387 ?_
  refine V_sldj (j := 1) rfl (by omega) hL dW_388 ?_
  refine V_callSH (as := [.ref 2, .int (xs (i + 1))]) (st := []) (k' := kk) (n' := nn) (R_withdraw hq h) mw_L_withdraw w_592 w_591 ar_L_withdraw (rf_L rfl rfl rfl rfl rfl) dW_389 (fun σ1 rv hq1 => ?_)
  obtain ⟨e, rfl, hS1, hm⟩ := hq1
  refine V_cast (st' := [.int e]) rfl rfl rfl ?_
  refine V_istore [(0, .ref 1), (1, .ref 2), (2, .ref 33), (3, .ref 72), (4, .int (nI i)), (5, .int e)] dW_392 rfl rfl ?_
  refine V_aload_n dW_394 rfl ?_
  refine V_aload_n dW_395 rfl ?_
  refine V_iload dW_396 rfl ?_
  refine V_iconst (1 : Int32) dW_398 (by decide) ?_
  refine V_iadd dW_399 ?_
  refine V_sldj (j := 1) rfl (by omega) hL dW_400 ?_
  refine V_callV (as := [.int (xs (i + 1))]) (st := []) (k' := kk) (n' := nn) hm mw_X12_withdraw ko_X12 rfl w_1231 w_1232 w_1230 ar_X12_withdraw (rf_M rfl rfl rfl rfl rfl) dW_401 (by decide) (shk hS1 33 rfl) (fun σ2 rv hq2 => ?_)
  obtain ⟨e49, hR, rfl⟩ := hq2
  refine V_cast (st' := []) rfl rfl rfl ?_
  refine V_aload_n dW_404 rfl ?_
  refine V_callV1 (as := []) (st := []) (k' := kk) (n' := nn) (s_X12_thrown hR.2.1) mw_X12_thrown ko_X12 rfl w_1208 w_1209 w_1207 ar_X12_thrown rfl (rf_M rfl rfl rfl rfl rfl) dW_405 (by decide) (shk hR.2.1 33 rfl) ?_
  refine V_iload dW_408 rfl ?_
  refine V_icmp_eq 415 dW_410 rfl (fun _ => ?_) (fun c => absurd e49 c)
  refine V_goto 1987 dW_415 rfl ?_
  exact V_less (fun q hq => List.mem_append_left [(5, .int e)] hq) (Nat.le_refl _) (Nat.le_refl _) (kt σ2 hR)
set_option maxRecDepth 100000 in
set_option maxHeartbeats 4000000 in
theorem LC_3 {g : GP} {b L : Nat} {xs : Nat → Int32} {kk nn i q : Nat} {σ : AH} (hL : L < 1073741824) (hi : i + 6 < L) (hq : q < 512) (h : Rel q σ) (kt : ∀ σ', Rel (q + 1) σ' → V g mLaw (ELw b) (CXl g b L xs) kk nn 1987 [(0, .ref 1), (1, .ref 2), (2, .ref 33), (3, .ref 72), (4, .int (nI i))] [] σ') :
    V g mLaw (ELw b) (CXl g b L xs) (kk + 11) (nn + 94) 418 [(0, .ref 1), (1, .ref 2), (2, .ref 33), (3, .ref 72), (4, .int (nI i))] [] σ := by
  refine V_aload_n dW_418 rfl ?_
  refine V_aload_n dW_419 rfl ?_
  refine V_iload dW_420 rfl ?_
  refine V_iconst (1 : Int32) dW_422 (by decide) ?_
  refine V_iadd dW_423 ?_
  refine V_sldj (j := 1) rfl (by omega) hL dW_424 ?_
  refine V_aload_n dW_425 rfl ?_
  refine V_callSH (as := [.ref 2, .int (xs (i + 1)), .ref 72]) (st := []) (k' := kk) (n' := nn) (R_unit hq h) mw_L_unit w_602 w_601 ar_L_unit (rf_L rfl rfl rfl rfl rfl) dW_426 (fun σ1 rv hq1 => ?_)
  obtain ⟨e, rfl, hS1, hm⟩ := hq1
  refine V_cast (st' := [.int e]) rfl rfl rfl ?_
  refine V_istore [(0, .ref 1), (1, .ref 2), (2, .ref 33), (3, .ref 72), (4, .int (nI i)), (5, .int e)] dW_429 rfl rfl ?_
  refine V_aload_n dW_431 rfl ?_
  refine V_aload_n dW_432 rfl ?_
  refine V_iload dW_433 rfl ?_
  refine V_iconst (1 : Int32) dW_435 (by decide) ?_
  refine V_iadd dW_436 ?_
  refine V_sldj (j := 1) rfl (by omega) hL dW_437 ?_
  refine V_callV (as := [.int (xs (i + 1))]) (st := []) (k' := kk) (n' := nn) hm mw_X12_unit ko_X12 rfl w_1235 w_1236 w_1234 ar_X12_unit (rf_M rfl rfl rfl rfl rfl) dW_438 (by decide) (shk hS1 33 rfl) (fun σ2 rv hq2 => ?_)
  obtain ⟨e49, hR, d, rfl, hb⟩ := hq2
  refine V_cast (st' := [.int d]) rfl rfl rfl ?_
  refine V_istore [(0, .ref 1), (1, .ref 2), (2, .ref 33), (3, .ref 72), (4, .int (nI i)), (5, .int e), (6, .int d)] dW_441 rfl rfl ?_
  refine V_aload_n dW_443 rfl ?_
  refine V_callV1 (as := []) (st := []) (k' := kk) (n' := nn) (s_X12_thrown hR.2.1) mw_X12_thrown ko_X12 rfl w_1208 w_1209 w_1207 ar_X12_thrown rfl (rf_M rfl rfl rfl rfl rfl) dW_444 (by decide) (shk hR.2.1 33 rfl) ?_
  refine V_iload dW_447 rfl ?_
  refine V_icmp_eq 454 dW_449 rfl (fun _ => ?_) (fun c => absurd e49 c)
  refine V_iload dW_454 rfl ?_
  refine V_if_ne 471 dW_456 rfl (fun _ => ?_) (fun ck => ?_)
  · refine V_goto 1987 dW_471 rfl ?_
    exact V_less (fun q hq => List.mem_append_left [(5, .int e), (6, .int d)] hq) (Nat.le_refl _) (Nat.le_refl _) (kt σ2 hR)
  · refine V_aload_n dW_459 rfl ?_
    refine V_iconst (0 : Int32) dW_460 (by decide) ?_
    refine V_lald dW_461 (by decide) (shk hR.2.1 72 rfl) (vp_l (n := 1) (shl hR.2.1 72 rfl) (vp_in_nI (n := 0) (by decide) (by decide))) ?_
    refine V_iload dW_462 rfl ?_
    refine V_i2l dW_464 ?_
    refine V_lcmp dW_465 ?_
    refine V_if_eq 471 dW_466 rfl (fun _ => ?_) (fun c => absurd (lc_eq (hb ck)) c)
    refine V_goto 1987 dW_471 rfl ?_
    exact V_less (fun q hq => List.mem_append_left [(5, .int e), (6, .int d)] hq) (Nat.le_refl _) (Nat.le_refl _) (kt σ2 hR)
set_option maxRecDepth 100000 in
set_option maxHeartbeats 4000000 in
theorem LC_4 {g : GP} {b L : Nat} {xs : Nat → Int32} {kk nn i q : Nat} {σ : AH} (hL : L < 1073741824) (hi : i + 6 < L) (hq : q < 512) (h : Rel q σ) (kt : ∀ σ', Rel (q + 1) σ' → V g mLaw (ELw b) (CXl g b L xs) kk nn 1987 [(0, .ref 1), (1, .ref 2), (2, .ref 33), (3, .ref 72), (4, .int (nI i))] [] σ') :
    V g mLaw (ELw b) (CXl g b L xs) (kk + 11) (nn + 94) 474 [(0, .ref 1), (1, .ref 2), (2, .ref 33), (3, .ref 72), (4, .int (nI i))] [] σ := by
  refine V_aload_n dW_474 rfl ?_
  refine V_aload_n dW_475 rfl ?_
  refine V_iload dW_476 rfl ?_
  refine V_iconst (1 : Int32) dW_478 (by decide) ?_
  refine V_iadd dW_479 ?_
  refine V_sldj (j := 1) rfl (by omega) hL dW_480 ?_
  refine V_aload_n dW_481 rfl ?_
  refine V_iload dW_482 rfl ?_
  refine V_iconst (2 : Int32) dW_484 (by decide) ?_
  refine V_iadd dW_485 ?_
  refine V_sldj (j := 2) rfl (by omega) hL dW_486 ?_
  refine V_aload_n dW_487 rfl ?_
  refine V_iload dW_488 rfl ?_
  refine V_iconst (3 : Int32) dW_490 (by decide) ?_
  refine V_iadd dW_491 ?_
  refine V_sldj (j := 3) rfl (by omega) hL dW_492 ?_
  refine V_callSH (as := [.ref 2, .int (xs (i + 1)), .int (xs (i + 2)), .int (xs (i + 3))]) (st := []) (k' := kk) (n' := nn) (R_tax hq h) mw_L_tax w_610 w_609 ar_L_tax (rf_L rfl rfl rfl rfl rfl) dW_493 (fun σ1 rv hq1 => ?_)
  obtain ⟨e, rfl, hS1, hm⟩ := hq1
  refine V_cast (st' := [.int e]) rfl rfl rfl ?_
  refine V_istore [(0, .ref 1), (1, .ref 2), (2, .ref 33), (3, .ref 72), (4, .int (nI i)), (5, .int e)] dW_496 rfl rfl ?_
  refine V_aload_n dW_498 rfl ?_
  refine V_aload_n dW_499 rfl ?_
  refine V_iload dW_500 rfl ?_
  refine V_iconst (1 : Int32) dW_502 (by decide) ?_
  refine V_iadd dW_503 ?_
  refine V_sldj (j := 1) rfl (by omega) hL dW_504 ?_
  refine V_aload_n dW_505 rfl ?_
  refine V_iload dW_506 rfl ?_
  refine V_iconst (2 : Int32) dW_508 (by decide) ?_
  refine V_iadd dW_509 ?_
  refine V_sldj (j := 2) rfl (by omega) hL dW_510 ?_
  refine V_aload_n dW_511 rfl ?_
  refine V_iload dW_512 rfl ?_
  refine V_iconst (3 : Int32) dW_514 (by decide) ?_
  refine V_iadd dW_515 ?_
  refine V_sldj (j := 3) rfl (by omega) hL dW_516 ?_
  refine V_callV (as := [.int (xs (i + 1)), .int (xs (i + 2)), .int (xs (i + 3))]) (st := []) (k' := kk) (n' := nn) hm mw_X12_tax ko_X12 rfl w_1239 w_1240 w_1238 ar_X12_tax (rf_M rfl rfl rfl rfl rfl) dW_517 (by decide) (shk hS1 33 rfl) (fun σ2 rv hq2 => ?_)
  obtain ⟨e49, hR, rfl⟩ := hq2
  refine V_cast (st' := []) rfl rfl rfl ?_
  refine V_aload_n dW_520 rfl ?_
  refine V_callV1 (as := []) (st := []) (k' := kk) (n' := nn) (s_X12_thrown hR.2.1) mw_X12_thrown ko_X12 rfl w_1208 w_1209 w_1207 ar_X12_thrown rfl (rf_M rfl rfl rfl rfl rfl) dW_521 (by decide) (shk hR.2.1 33 rfl) ?_
  refine V_iload dW_524 rfl ?_
  refine V_icmp_eq 531 dW_526 rfl (fun _ => ?_) (fun c => absurd e49 c)
  refine V_goto 1987 dW_531 rfl ?_
  exact V_less (fun q hq => List.mem_append_left [(5, .int e)] hq) (Nat.le_refl _) (Nat.le_refl _) (kt σ2 hR)
set_option maxRecDepth 100000 in
set_option maxHeartbeats 4000000 in
theorem LC_5 {g : GP} {b L : Nat} {xs : Nat → Int32} {kk nn i q : Nat} {σ : AH} (hL : L < 1073741824) (hi : i + 6 < L) (hq : q < 512) (h : Rel q σ) (kt : ∀ σ', Rel (q + 1) σ' → V g mLaw (ELw b) (CXl g b L xs) kk nn 1987 [(0, .ref 1), (1, .ref 2), (2, .ref 33), (3, .ref 72), (4, .int (nI i))] [] σ') :
    V g mLaw (ELw b) (CXl g b L xs) (kk + 11) (nn + 94) 534 [(0, .ref 1), (1, .ref 2), (2, .ref 33), (3, .ref 72), (4, .int (nI i))] [] σ := by
  refine V_aload_n dW_534 rfl ?_
  refine V_aload_n dW_535 rfl ?_
  refine V_iload dW_536 rfl ?_
  refine V_iconst (1 : Int32) dW_538 (by decide) ?_
  refine V_iadd dW_539 ?_
  refine V_sldj (j := 1) rfl (by omega) hL dW_540 ?_
  refine V_aload_n dW_541 rfl ?_
  refine V_iload dW_542 rfl ?_
  refine V_iconst (2 : Int32) dW_544 (by decide) ?_
  refine V_iadd dW_545 ?_
  refine V_sldj (j := 2) rfl (by omega) hL dW_546 ?_
  refine V_aload_n dW_547 rfl ?_
  refine V_iload dW_548 rfl ?_
  refine V_iconst (3 : Int32) dW_550 (by decide) ?_
  refine V_iadd dW_551 ?_
  refine V_sldj (j := 3) rfl (by omega) hL dW_552 ?_
  refine V_aload_n dW_553 rfl ?_
  refine V_callSH (as := [.ref 2, .int (xs (i + 1)), .int (xs (i + 2)), .int (xs (i + 3)), .ref 72]) (st := []) (k' := kk) (n' := nn) (R_weight hq h) mw_L_weight w_623 w_622 ar_L_weight (rf_L rfl rfl rfl rfl rfl) dW_554 (fun σ1 rv hq1 => ?_)
  obtain ⟨e, rfl, hS1, hm⟩ := hq1
  refine V_cast (st' := [.int e]) rfl rfl rfl ?_
  refine V_istore [(0, .ref 1), (1, .ref 2), (2, .ref 33), (3, .ref 72), (4, .int (nI i)), (5, .int e)] dW_557 rfl rfl ?_
  refine V_aload_n dW_559 rfl ?_
  refine V_aload_n dW_560 rfl ?_
  refine V_iload dW_561 rfl ?_
  refine V_iconst (1 : Int32) dW_563 (by decide) ?_
  refine V_iadd dW_564 ?_
  refine V_sldj (j := 1) rfl (by omega) hL dW_565 ?_
  refine V_aload_n dW_566 rfl ?_
  refine V_iload dW_567 rfl ?_
  refine V_iconst (2 : Int32) dW_569 (by decide) ?_
  refine V_iadd dW_570 ?_
  refine V_sldj (j := 2) rfl (by omega) hL dW_571 ?_
  refine V_aload_n dW_572 rfl ?_
  refine V_iload dW_573 rfl ?_
  refine V_iconst (3 : Int32) dW_575 (by decide) ?_
  refine V_iadd dW_576 ?_
  refine V_sldj (j := 3) rfl (by omega) hL dW_577 ?_
  refine V_callV (as := [.int (xs (i + 1)), .int (xs (i + 2)), .int (xs (i + 3))]) (st := []) (k' := kk) (n' := nn) hm mw_X12_weight ko_X12 rfl w_1243 w_1244 w_1242 ar_X12_weight (rf_M rfl rfl rfl rfl rfl) dW_578 (by decide) (shk hS1 33 rfl) (fun σ2 rv hq2 => ?_)
  obtain ⟨e49, hR, d, rfl, hb⟩ := hq2
  refine V_cast (st' := [.int d]) rfl rfl rfl ?_
  refine V_istore [(0, .ref 1), (1, .ref 2), (2, .ref 33), (3, .ref 72), (4, .int (nI i)), (5, .int e), (6, .int d)] dW_581 rfl rfl ?_
  refine V_aload_n dW_583 rfl ?_
  refine V_callV1 (as := []) (st := []) (k' := kk) (n' := nn) (s_X12_thrown hR.2.1) mw_X12_thrown ko_X12 rfl w_1208 w_1209 w_1207 ar_X12_thrown rfl (rf_M rfl rfl rfl rfl rfl) dW_584 (by decide) (shk hR.2.1 33 rfl) ?_
  refine V_iload dW_587 rfl ?_
  refine V_icmp_eq 594 dW_589 rfl (fun _ => ?_) (fun c => absurd e49 c)
  refine V_iload dW_594 rfl ?_
  refine V_if_ne 611 dW_596 rfl (fun _ => ?_) (fun ck => ?_)
  · refine V_goto 1987 dW_611 rfl ?_
    exact V_less (fun q hq => List.mem_append_left [(5, .int e), (6, .int d)] hq) (Nat.le_refl _) (Nat.le_refl _) (kt σ2 hR)
  · refine V_aload_n dW_599 rfl ?_
    refine V_iconst (0 : Int32) dW_600 (by decide) ?_
    refine V_lald dW_601 (by decide) (shk hR.2.1 72 rfl) (vp_l (n := 1) (shl hR.2.1 72 rfl) (vp_in_nI (n := 0) (by decide) (by decide))) ?_
    refine V_iload dW_602 rfl ?_
    refine V_i2l dW_604 ?_
    refine V_lcmp dW_605 ?_
    refine V_if_eq 611 dW_606 rfl (fun _ => ?_) (fun c => absurd (lc_eq (hb ck)) c)
    refine V_goto 1987 dW_611 rfl ?_
    exact V_less (fun q hq => List.mem_append_left [(5, .int e), (6, .int d)] hq) (Nat.le_refl _) (Nat.le_refl _) (kt σ2 hR)
set_option maxRecDepth 100000 in
set_option maxHeartbeats 4000000 in
theorem LC_6 {g : GP} {b L : Nat} {xs : Nat → Int32} {kk nn i q : Nat} {σ : AH} (hL : L < 1073741824) (hi : i + 6 < L) (hq : q < 512) (h : Rel q σ) (kt : ∀ σ', Rel (q + 1) σ' → V g mLaw (ELw b) (CXl g b L xs) kk nn 1987 [(0, .ref 1), (1, .ref 2), (2, .ref 33), (3, .ref 72), (4, .int (nI i))] [] σ') :
    V g mLaw (ELw b) (CXl g b L xs) (kk + 11) (nn + 94) 614 [(0, .ref 1), (1, .ref 2), (2, .ref 33), (3, .ref 72), (4, .int (nI i))] [] σ := by
  refine V_aload_n dW_614 rfl ?_
  refine V_aload_n dW_615 rfl ?_
  refine V_iload dW_616 rfl ?_
  refine V_iconst (1 : Int32) dW_618 (by decide) ?_
  refine V_iadd dW_619 ?_
  refine V_sldj (j := 1) rfl (by omega) hL dW_620 ?_
  refine V_aload_n dW_621 rfl ?_
  refine V_iload dW_622 rfl ?_
  refine V_iconst (2 : Int32) dW_624 (by decide) ?_
  refine V_iadd dW_625 ?_
  refine V_sldj (j := 2) rfl (by omega) hL dW_626 ?_
  refine V_aload_n dW_627 rfl ?_
  refine V_iload dW_628 rfl ?_
  refine V_iconst (3 : Int32) dW_630 (by decide) ?_
  refine V_iadd dW_631 ?_
  refine V_sldj (j := 3) rfl (by omega) hL dW_632 ?_
  refine V_aload_n dW_633 rfl ?_
  refine V_iload dW_634 rfl ?_
  refine V_iconst (4 : Int32) dW_636 (by decide) ?_
  refine V_iadd dW_637 ?_
  refine V_sldj (j := 4) rfl (by omega) hL dW_638 ?_
  refine V_aload_n dW_639 rfl ?_
  refine V_callSH (as := [.ref 2, .int (xs (i + 1)), .int (xs (i + 2)), .int (xs (i + 3)), .int (xs (i + 4)), .ref 72]) (st := []) (k' := kk) (n' := nn) (R_proviso hq h) mw_L_proviso w_631 w_630 ar_L_proviso (rf_L rfl rfl rfl rfl rfl) dW_640 (fun σ1 rv hq1 => ?_)
  obtain ⟨e, rfl, hS1, hm⟩ := hq1
  refine V_cast (st' := [.int e]) rfl rfl rfl ?_
  refine V_istore [(0, .ref 1), (1, .ref 2), (2, .ref 33), (3, .ref 72), (4, .int (nI i)), (5, .int e)] dW_643 rfl rfl ?_
  refine V_aload_n dW_645 rfl ?_
  refine V_aload_n dW_646 rfl ?_
  refine V_iload dW_647 rfl ?_
  refine V_iconst (1 : Int32) dW_649 (by decide) ?_
  refine V_iadd dW_650 ?_
  refine V_sldj (j := 1) rfl (by omega) hL dW_651 ?_
  refine V_aload_n dW_652 rfl ?_
  refine V_iload dW_653 rfl ?_
  refine V_iconst (2 : Int32) dW_655 (by decide) ?_
  refine V_iadd dW_656 ?_
  refine V_sldj (j := 2) rfl (by omega) hL dW_657 ?_
  refine V_aload_n dW_658 rfl ?_
  refine V_iload dW_659 rfl ?_
  refine V_iconst (3 : Int32) dW_661 (by decide) ?_
  refine V_iadd dW_662 ?_
  refine V_sldj (j := 3) rfl (by omega) hL dW_663 ?_
  refine V_aload_n dW_664 rfl ?_
  refine V_iload dW_665 rfl ?_
  refine V_iconst (4 : Int32) dW_667 (by decide) ?_
  refine V_iadd dW_668 ?_
  refine V_sldj (j := 4) rfl (by omega) hL dW_669 ?_
  refine V_callV (as := [.int (xs (i + 1)), .int (xs (i + 2)), .int (xs (i + 3)), .int (xs (i + 4))]) (st := []) (k' := kk) (n' := nn) hm mw_X12_proviso ko_X12 rfl w_1247 w_1248 w_1246 ar_X12_proviso (rf_M rfl rfl rfl rfl rfl) dW_670 (by decide) (shk hS1 33 rfl) (fun σ2 rv hq2 => ?_)
  obtain ⟨e49, hR, d, rfl, hb⟩ := hq2
  refine V_cast (st' := [.int d]) rfl rfl rfl ?_
  refine V_istore [(0, .ref 1), (1, .ref 2), (2, .ref 33), (3, .ref 72), (4, .int (nI i)), (5, .int e), (6, .int d)] dW_673 rfl rfl ?_
  refine V_aload_n dW_675 rfl ?_
  refine V_callV1 (as := []) (st := []) (k' := kk) (n' := nn) (s_X12_thrown hR.2.1) mw_X12_thrown ko_X12 rfl w_1208 w_1209 w_1207 ar_X12_thrown rfl (rf_M rfl rfl rfl rfl rfl) dW_676 (by decide) (shk hR.2.1 33 rfl) ?_
  refine V_iload dW_679 rfl ?_
  refine V_icmp_eq 686 dW_681 rfl (fun _ => ?_) (fun c => absurd e49 c)
  refine V_iload dW_686 rfl ?_
  refine V_if_ne 703 dW_688 rfl (fun _ => ?_) (fun ck => ?_)
  · refine V_goto 1987 dW_703 rfl ?_
    exact V_less (fun q hq => List.mem_append_left [(5, .int e), (6, .int d)] hq) (Nat.le_refl _) (Nat.le_refl _) (kt σ2 hR)
  · refine V_aload_n dW_691 rfl ?_
    refine V_iconst (0 : Int32) dW_692 (by decide) ?_
    refine V_lald dW_693 (by decide) (shk hR.2.1 72 rfl) (vp_l (n := 1) (shl hR.2.1 72 rfl) (vp_in_nI (n := 0) (by decide) (by decide))) ?_
    refine V_iload dW_694 rfl ?_
    refine V_i2l dW_696 ?_
    refine V_lcmp dW_697 ?_
    refine V_if_eq 703 dW_698 rfl (fun _ => ?_) (fun c => absurd (lc_eq (hb ck)) c)
    refine V_goto 1987 dW_703 rfl ?_
    exact V_less (fun q hq => List.mem_append_left [(5, .int e), (6, .int d)] hq) (Nat.le_refl _) (Nat.le_refl _) (kt σ2 hR)
set_option maxRecDepth 100000 in
set_option maxHeartbeats 4000000 in
theorem LC_7 {g : GP} {b L : Nat} {xs : Nat → Int32} {kk nn i q : Nat} {σ : AH} (hL : L < 1073741824) (hi : i + 6 < L) (hq : q < 512) (h : Rel q σ) (kt : ∀ σ', Rel (q + 1) σ' → V g mLaw (ELw b) (CXl g b L xs) kk nn 1987 [(0, .ref 1), (1, .ref 2), (2, .ref 33), (3, .ref 72), (4, .int (nI i))] [] σ') :
    V g mLaw (ELw b) (CXl g b L xs) (kk + 11) (nn + 94) 706 [(0, .ref 1), (1, .ref 2), (2, .ref 33), (3, .ref 72), (4, .int (nI i))] [] σ := by
  refine V_aload_n dW_706 rfl ?_
  refine V_aload_n dW_707 rfl ?_
  refine V_iload dW_708 rfl ?_
  refine V_iconst (1 : Int32) dW_710 (by decide) ?_
  refine V_iadd dW_711 ?_
  refine V_sldj (j := 1) rfl (by omega) hL dW_712 ?_
  refine V_aload_n dW_713 rfl ?_
  refine V_callSH (as := [.ref 2, .int (xs (i + 1)), .ref 72]) (st := []) (k' := kk) (n' := nn) (R_penalty hq h) mw_L_penalty w_650 w_649 ar_L_penalty (rf_L rfl rfl rfl rfl rfl) dW_714 (fun σ1 rv hq1 => ?_)
  obtain ⟨e, rfl, hS1, hm⟩ := hq1
  refine V_cast (st' := [.int e]) rfl rfl rfl ?_
  refine V_istore [(0, .ref 1), (1, .ref 2), (2, .ref 33), (3, .ref 72), (4, .int (nI i)), (5, .int e)] dW_717 rfl rfl ?_
  refine V_aload_n dW_719 rfl ?_
  refine V_aload_n dW_720 rfl ?_
  refine V_iload dW_721 rfl ?_
  refine V_iconst (1 : Int32) dW_723 (by decide) ?_
  refine V_iadd dW_724 ?_
  refine V_sldj (j := 1) rfl (by omega) hL dW_725 ?_
  refine V_callV (as := [.int (xs (i + 1))]) (st := []) (k' := kk) (n' := nn) hm mw_X12_penalty ko_X12 rfl w_1254 w_1255 w_1253 ar_X12_penalty (rf_M rfl rfl rfl rfl rfl) dW_726 (by decide) (shk hS1 33 rfl) (fun σ2 rv hq2 => ?_)
  obtain ⟨e49, hR, d, rfl, hb⟩ := hq2
  refine V_cast (st' := [.int d]) rfl rfl rfl ?_
  refine V_istore [(0, .ref 1), (1, .ref 2), (2, .ref 33), (3, .ref 72), (4, .int (nI i)), (5, .int e), (6, .int d)] dW_729 rfl rfl ?_
  refine V_aload_n dW_731 rfl ?_
  refine V_callV1 (as := []) (st := []) (k' := kk) (n' := nn) (s_X12_thrown hR.2.1) mw_X12_thrown ko_X12 rfl w_1208 w_1209 w_1207 ar_X12_thrown rfl (rf_M rfl rfl rfl rfl rfl) dW_732 (by decide) (shk hR.2.1 33 rfl) ?_
  refine V_iload dW_735 rfl ?_
  refine V_icmp_eq 742 dW_737 rfl (fun _ => ?_) (fun c => absurd e49 c)
  refine V_iload dW_742 rfl ?_
  refine V_if_ne 759 dW_744 rfl (fun _ => ?_) (fun ck => ?_)
  · refine V_goto 1987 dW_759 rfl ?_
    exact V_less (fun q hq => List.mem_append_left [(5, .int e), (6, .int d)] hq) (Nat.le_refl _) (Nat.le_refl _) (kt σ2 hR)
  · refine V_aload_n dW_747 rfl ?_
    refine V_iconst (0 : Int32) dW_748 (by decide) ?_
    refine V_lald dW_749 (by decide) (shk hR.2.1 72 rfl) (vp_l (n := 1) (shl hR.2.1 72 rfl) (vp_in_nI (n := 0) (by decide) (by decide))) ?_
    refine V_iload dW_750 rfl ?_
    refine V_i2l dW_752 ?_
    refine V_lcmp dW_753 ?_
    refine V_if_eq 759 dW_754 rfl (fun _ => ?_) (fun c => absurd (lc_eq (hb ck)) c)
    refine V_goto 1987 dW_759 rfl ?_
    exact V_less (fun q hq => List.mem_append_left [(5, .int e), (6, .int d)] hq) (Nat.le_refl _) (Nat.le_refl _) (kt σ2 hR)
