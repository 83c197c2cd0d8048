/-! the law's calls, one by one -/
section M80
variable {B : Nat} {D : va_G} {b L : Nat} {xs : Nat → Int32} {e r N0 W0 q : Nat} {C : CS} {n w : Nat} {g : Nat → Option va_E} {M : MS} {bk : BK}

theorem w_feed (h : LI b L xs e r N0 W0 q C n w g M bk) (hq : q ≤ 511) (hL : 6 * q + 5 < L) (hL2 : L ≤ 3072) : ∃ (C' : CS) (n' w' : Nat) (G : Nat → Option va_E) (M' : MS) (bk' : BK), LI b L xs e r N0 W0 (q + 1) C' n' w' G M' bk' ∧ ∀ rr h1, EX B D 100 mL_law 18 [some (.ref b), some (.ref e), some (.ref r), some (.int (nI (6 * (q + 1))))] [] (n', w', mH r G M') rr h1 → EX B D 100 mL_law 240 [some (.ref b), some (.ref e), some (.ref r), some (.int (nI (6 * q)))] [] (n, w, mH r g M) rr h1 := by
  obtain ⟨n', w', G, M', bk', c1, c2, c3, s2, s3⟩ := h.two (B := B) (D := D) hq (some3 (e_feed h.1 h.2.2.1 (xs (nI (6 * q) + 1).toNatClampNeg))) (fun n' w' G hcap => m_feed h.2.1 (xs (nI (6 * q) + 1).toNatClampNeg))
  have s1 := h.2.2.2.2.1
  have he1 := h.1.1
  have hinc : nI (6 * q) + Int32.ofInt 6 = nI (6 * (q + 1)) := nI_add (6 * q) 6
  refine ⟨_, n', w', G, M', bk', c3, fun rr h1 hk => ?_⟩
  refine px_aload_n dL_law_240 rfl ?_
  refine px_aload_n dL_law_241 rfl ?_
  refine px_iload_n dL_law_242 rfl ?_
  refine px_iconst (v := 1) dL_law_243 (by decide) ?_
  refine px_iadd dL_law_244 ?_
  refine px_saload dL_law_245 s1 (ix_1 hL hL2) ?_
  refine px_callV1 (ν := mX6_feed) (ci := 6) rfl rfl lk_L_23 in_X6_feed se_X6_feed mok_X6_feed dL_law_246 (c1) he1 rfl rfl (by omega) (by simp) ?_
  refine px_aload_n dL_law_249 rfl ?_
  refine px_aload_n dL_law_250 rfl ?_
  refine px_iload_n dL_law_251 rfl ?_
  refine px_iconst (v := 1) dL_law_252 (by decide) ?_
  refine px_iadd dL_law_253 ?_
  refine px_saload dL_law_254 s2 (ix_1 hL hL2) ?_
  refine px_callV1 (ν := mX7_feed) (ci := 7) rfl rfl lk_L_26 in_X7_feed se_X7_feed mok_X7_feed dL_law_255 (c2) s3 rfl rfl (by omega) (by simp) ?_
  refine px_icmp_eq (tgt := 1147) dL_law_258 (by decide) (fun hc258 => ?_) (fun hc258 => ?_)
  · refine px_iinc3 rfl hinc dL_law_1147 ?_
    refine px_goto (tgt := 18) dL_law_1150 (by decide) ?_
    exact hk
  · exact absurd rfl hc258
theorem w_clear (h : LI b L xs e r N0 W0 q C n w g M bk) (hq : q ≤ 511) (hL : 6 * q + 5 < L) (hL2 : L ≤ 3072) : ∃ (C' : CS) (n' w' : Nat) (G : Nat → Option va_E) (M' : MS) (bk' : BK), LI b L xs e r N0 W0 (q + 1) C' n' w' G M' bk' ∧ ∀ rr h1, EX B D 100 mL_law 18 [some (.ref b), some (.ref e), some (.ref r), some (.int (nI (6 * (q + 1))))] [] (n', w', mH r G M') rr h1 → EX B D 100 mL_law 263 [some (.ref b), some (.ref e), some (.ref r), some (.int (nI (6 * q)))] [] (n, w, mH r g M) rr h1 := by
  obtain ⟨n', w', G, M', bk', c1, c2, c3, s2, s3⟩ := h.two (B := B) (D := D) hq (some3 (e_clear h.1 h.2.2.1 )) (fun n' w' G hcap => m_clear h.2.1 )
  have s1 := h.2.2.2.2.1
  have he1 := h.1.1
  have hinc : nI (6 * q) + Int32.ofInt 6 = nI (6 * (q + 1)) := nI_add (6 * q) 6
  refine ⟨_, n', w', G, M', bk', c3, fun rr h1 hk => ?_⟩
  refine px_aload_n dL_law_263 rfl ?_
  refine px_callV1 (ν := mX6_clear) (ci := 6) rfl rfl lk_L_27 in_X6_clear se_X6_clear mok_X6_clear dL_law_264 (c1) he1 rfl rfl (by omega) (by simp) ?_
  refine px_aload_n dL_law_267 rfl ?_
  refine px_callV1 (ν := mX7_clear) (ci := 7) rfl rfl lk_L_31 in_X7_clear se_X7_clear mok_X7_clear dL_law_268 (c2) s3 rfl rfl (by omega) (by simp) ?_
  refine px_icmp_eq (tgt := 1147) dL_law_271 (by decide) (fun hc271 => ?_) (fun hc271 => ?_)
  · refine px_iinc3 rfl hinc dL_law_1147 ?_
    refine px_goto (tgt := 18) dL_law_1150 (by decide) ?_
    exact hk
  · exact absurd rfl hc271
theorem w_rule (h : LI b L xs e r N0 W0 q C n w g M bk) (hq : q ≤ 511) (hL : 6 * q + 5 < L) (hL2 : L ≤ 3072) : ∃ (C' : CS) (n' w' : Nat) (G : Nat → Option va_E) (M' : MS) (bk' : BK), LI b L xs e r N0 W0 (q + 1) C' n' w' G M' bk' ∧ ∀ rr h1, EX B D 100 mL_law 18 [some (.ref b), some (.ref e), some (.ref r), some (.int (nI (6 * (q + 1))))] [] (n', w', mH r G M') rr h1 → EX B D 100 mL_law 276 [some (.ref b), some (.ref e), some (.ref r), some (.int (nI (6 * q)))] [] (n, w, mH r g M) rr h1 := by
  obtain ⟨n', w', G, M', bk', c1, c2, c3, s2, s3⟩ := h.two (B := B) (D := D) hq (some3 (c_X6_rule h.1 h.2.2.1 (xs (nI (6 * q) + 1).toNatClampNeg))) (fun n' w' G hcap => m_rule h.2.1 (xs (nI (6 * q) + 1).toNatClampNeg))
  have s1 := h.2.2.2.2.1
  have he1 := h.1.1
  have hinc : nI (6 * q) + Int32.ofInt 6 = nI (6 * (q + 1)) := nI_add (6 * q) 6
  refine ⟨_, n', w', G, M', bk', c3, fun rr h1 hk => ?_⟩
  refine px_aload_n dL_law_276 rfl ?_
  refine px_aload_n dL_law_277 rfl ?_
  refine px_iload_n dL_law_278 rfl ?_
  refine px_iconst (v := 1) dL_law_279 (by decide) ?_
  refine px_iadd dL_law_280 ?_
  refine px_saload dL_law_281 s1 (ix_1 hL hL2) ?_
  refine px_callV1 (ν := mX6_rule) (ci := 6) rfl rfl lk_L_32 in_X6_rule se_X6_rule mok_X6_rule dL_law_282 (c1) he1 rfl rfl (by omega) (by simp) ?_
  refine px_aload_n dL_law_285 rfl ?_
  refine px_aload_n dL_law_286 rfl ?_
  refine px_iload_n dL_law_287 rfl ?_
  refine px_iconst (v := 1) dL_law_288 (by decide) ?_
  refine px_iadd dL_law_289 ?_
  refine px_saload dL_law_290 s2 (ix_1 hL hL2) ?_
  refine px_callV1 (ν := mX7_rule) (ci := 7) rfl rfl lk_L_35 in_X7_rule se_X7_rule mok_X7_rule dL_law_291 (c2) s3 rfl rfl (by omega) (by simp) ?_
  refine px_icmp_eq (tgt := 1147) dL_law_294 (by decide) (fun hc294 => ?_) (fun hc294 => ?_)
  · refine px_iinc3 rfl hinc dL_law_1147 ?_
    refine px_goto (tgt := 18) dL_law_1150 (by decide) ?_
    exact hk
  · exact absurd rfl hc294
theorem w_drop (h : LI b L xs e r N0 W0 q C n w g M bk) (hq : q ≤ 511) (hL : 6 * q + 5 < L) (hL2 : L ≤ 3072) : ∃ (C' : CS) (n' w' : Nat) (G : Nat → Option va_E) (M' : MS) (bk' : BK), LI b L xs e r N0 W0 (q + 1) C' n' w' G M' bk' ∧ ∀ rr h1, EX B D 100 mL_law 18 [some (.ref b), some (.ref e), some (.ref r), some (.int (nI (6 * (q + 1))))] [] (n', w', mH r G M') rr h1 → EX B D 100 mL_law 299 [some (.ref b), some (.ref e), some (.ref r), some (.int (nI (6 * q)))] [] (n, w, mH r g M) rr h1 := by
  obtain ⟨n', w', G, M', bk', c1, c2, c3, s2, s3⟩ := h.two (B := B) (D := D) hq (some3 (e_drop h.1 h.2.2.1 (xs (nI (6 * q) + 1).toNatClampNeg))) (fun n' w' G hcap => m_drop h.2.1 (xs (nI (6 * q) + 1).toNatClampNeg))
  have s1 := h.2.2.2.2.1
  have he1 := h.1.1
  have hinc : nI (6 * q) + Int32.ofInt 6 = nI (6 * (q + 1)) := nI_add (6 * q) 6
  refine ⟨_, n', w', G, M', bk', c3, fun rr h1 hk => ?_⟩
  refine px_aload_n dL_law_299 rfl ?_
  refine px_aload_n dL_law_300 rfl ?_
  refine px_iload_n dL_law_301 rfl ?_
  refine px_iconst (v := 1) dL_law_302 (by decide) ?_
  refine px_iadd dL_law_303 ?_
  refine px_saload dL_law_304 s1 (ix_1 hL hL2) ?_
  refine px_callV1 (ν := mX6_drop) (ci := 6) rfl rfl lk_L_36 in_X6_drop se_X6_drop mok_X6_drop dL_law_305 (c1) he1 rfl rfl (by omega) (by simp) ?_
  refine px_aload_n dL_law_308 rfl ?_
  refine px_aload_n dL_law_309 rfl ?_
  refine px_iload_n dL_law_310 rfl ?_
  refine px_iconst (v := 1) dL_law_311 (by decide) ?_
  refine px_iadd dL_law_312 ?_
  refine px_saload dL_law_313 s2 (ix_1 hL hL2) ?_
  refine px_callV1 (ν := mX7_drop) (ci := 7) rfl rfl lk_L_39 in_X7_drop se_X7_drop mok_X7_drop dL_law_314 (c2) s3 rfl rfl (by omega) (by simp) ?_
  refine px_icmp_eq (tgt := 1147) dL_law_317 (by decide) (fun hc317 => ?_) (fun hc317 => ?_)
  · refine px_iinc3 rfl hinc dL_law_1147 ?_
    refine px_goto (tgt := 18) dL_law_1150 (by decide) ?_
    exact hk
  · exact absurd rfl hc317
theorem w_copy (h : LI b L xs e r N0 W0 q C n w g M bk) (hq : q ≤ 511) (hL : 6 * q + 5 < L) (hL2 : L ≤ 3072) : ∃ (C' : CS) (n' w' : Nat) (G : Nat → Option va_E) (M' : MS) (bk' : BK), LI b L xs e r N0 W0 (q + 1) C' n' w' G M' bk' ∧ ∀ rr h1, EX B D 100 mL_law 18 [some (.ref b), some (.ref e), some (.ref r), some (.int (nI (6 * (q + 1))))] [] (n', w', mH r G M') rr h1 → EX B D 100 mL_law 322 [some (.ref b), some (.ref e), some (.ref r), some (.int (nI (6 * q)))] [] (n, w, mH r g M) rr h1 := by
  obtain ⟨n', w', G, M', bk', c1, c2, c3, s2, s3⟩ := h.two (B := B) (D := D) hq (some3 (e_copy h.1 h.2.2.1 (xs (nI (6 * q) + 1).toNatClampNeg) (xs (nI (6 * q) + 2).toNatClampNeg))) (fun n' w' G hcap => m_copy h.2.1 (xs (nI (6 * q) + 1).toNatClampNeg) (xs (nI (6 * q) + 2).toNatClampNeg))
  have s1 := h.2.2.2.2.1
  have he1 := h.1.1
  have hinc : nI (6 * q) + Int32.ofInt 6 = nI (6 * (q + 1)) := nI_add (6 * q) 6
  refine ⟨_, n', w', G, M', bk', c3, fun rr h1 hk => ?_⟩
  refine px_aload_n dL_law_322 rfl ?_
  refine px_aload_n dL_law_323 rfl ?_
  refine px_iload_n dL_law_324 rfl ?_
  refine px_iconst (v := 1) dL_law_325 (by decide) ?_
  refine px_iadd dL_law_326 ?_
  refine px_saload dL_law_327 s1 (ix_1 hL hL2) ?_
  refine px_aload_n dL_law_328 rfl ?_
  refine px_iload_n dL_law_329 rfl ?_
  refine px_iconst (v := 2) dL_law_330 (by decide) ?_
  refine px_iadd dL_law_331 ?_
  refine px_saload dL_law_332 s1 (ix_2 hL hL2) ?_
  refine px_callV1 (ν := mX6_copy) (ci := 6) rfl rfl lk_L_40 in_X6_copy se_X6_copy mok_X6_copy dL_law_333 (c1) he1 rfl rfl (by omega) (by simp) ?_
  refine px_aload_n dL_law_336 rfl ?_
  refine px_aload_n dL_law_337 rfl ?_
  refine px_iload_n dL_law_338 rfl ?_
  refine px_iconst (v := 1) dL_law_339 (by decide) ?_
  refine px_iadd dL_law_340 ?_
  refine px_saload dL_law_341 s2 (ix_1 hL hL2) ?_
  refine px_aload_n dL_law_342 rfl ?_
  refine px_iload_n dL_law_343 rfl ?_
  refine px_iconst (v := 2) dL_law_344 (by decide) ?_
  refine px_iadd dL_law_345 ?_
  refine px_saload dL_law_346 s2 (ix_2 hL hL2) ?_
  refine px_callV1 (ν := mX7_copy) (ci := 7) rfl rfl lk_L_43 in_X7_copy se_X7_copy mok_X7_copy dL_law_347 (c2) s3 rfl rfl (by omega) (by simp) ?_
  refine px_icmp_eq (tgt := 1147) dL_law_350 (by decide) (fun hc350 => ?_) (fun hc350 => ?_)
  · refine px_iinc3 rfl hinc dL_law_1147 ?_
    refine px_goto (tgt := 18) dL_law_1150 (by decide) ?_
    exact hk
  · exact absurd rfl hc350
theorem w_step (h : LI b L xs e r N0 W0 q C n w g M bk) (hq : q ≤ 511) (hL : 6 * q + 5 < L) (hL2 : L ≤ 3072) : ∃ (C' : CS) (n' w' : Nat) (G : Nat → Option va_E) (M' : MS) (bk' : BK), LI b L xs e r N0 W0 (q + 1) C' n' w' G M' bk' ∧ ∀ rr h1, EX B D 100 mL_law 18 [some (.ref b), some (.ref e), some (.ref r), some (.int (nI (6 * (q + 1))))] [] (n', w', mH r G M') rr h1 → EX B D 100 mL_law 355 [some (.ref b), some (.ref e), some (.ref r), some (.int (nI (6 * q)))] [] (n, w, mH r g M) rr h1 := by
  obtain ⟨n', w', G, M', bk', c1, c2, c3, s2, s3⟩ := h.two (B := B) (D := D) hq (look h.1 (c_X6_step h.1.1 h.1.2.1.w (xs (nI (6 * q) + 1).toNatClampNeg) (xs (nI (6 * q) + 2).toNatClampNeg))) (fun n' w' G hcap => m_step h.2.1 (xs (nI (6 * q) + 1).toNatClampNeg) (xs (nI (6 * q) + 2).toNatClampNeg))
  have s1 := h.2.2.2.2.1
  have he1 := h.1.1
  have hinc : nI (6 * q) + Int32.ofInt 6 = nI (6 * (q + 1)) := nI_add (6 * q) 6
  refine ⟨_, n', w', G, M', bk', c3, fun rr h1 hk => ?_⟩
  refine px_aload_n dL_law_355 rfl ?_
  refine px_aload_n dL_law_356 rfl ?_
  refine px_iload_n dL_law_357 rfl ?_
  refine px_iconst (v := 1) dL_law_358 (by decide) ?_
  refine px_iadd dL_law_359 ?_
  refine px_saload dL_law_360 s1 (ix_1 hL hL2) ?_
  refine px_aload_n dL_law_361 rfl ?_
  refine px_iload_n dL_law_362 rfl ?_
  refine px_iconst (v := 2) dL_law_363 (by decide) ?_
  refine px_iadd dL_law_364 ?_
  refine px_saload dL_law_365 s1 (ix_2 hL hL2) ?_
  refine px_callV1 (ν := mX6_step) (ci := 6) rfl rfl lk_L_44 in_X6_step se_X6_step mok_X6_step dL_law_366 (c1) he1 rfl rfl (by omega) (by simp) ?_
  refine px_aload_n dL_law_369 rfl ?_
  refine px_aload_n dL_law_370 rfl ?_
  refine px_iload_n dL_law_371 rfl ?_
  refine px_iconst (v := 1) dL_law_372 (by decide) ?_
  refine px_iadd dL_law_373 ?_
  refine px_saload dL_law_374 s2 (ix_1 hL hL2) ?_
  refine px_aload_n dL_law_375 rfl ?_
  refine px_iload_n dL_law_376 rfl ?_
  refine px_iconst (v := 2) dL_law_377 (by decide) ?_
  refine px_iadd dL_law_378 ?_
  refine px_saload dL_law_379 s2 (ix_2 hL hL2) ?_
  refine px_callV1 (ν := mX7_step) (ci := 7) rfl rfl lk_L_47 in_X7_step se_X7_step mok_X7_step dL_law_380 (c2) s3 rfl rfl (by omega) (by simp) ?_
  refine px_icmp_eq (tgt := 1147) dL_law_383 (by decide) (fun hc383 => ?_) (fun hc383 => ?_)
  · refine px_iinc3 rfl hinc dL_law_1147 ?_
    refine px_goto (tgt := 18) dL_law_1150 (by decide) ?_
    exact hk
  · exact absurd rfl hc383
theorem w_build (h : LI b L xs e r N0 W0 q C n w g M bk) (hq : q ≤ 511) (hL : 6 * q + 5 < L) (hL2 : L ≤ 3072) : ∃ (C' : CS) (n' w' : Nat) (G : Nat → Option va_E) (M' : MS) (bk' : BK), LI b L xs e r N0 W0 (q + 1) C' n' w' G M' bk' ∧ ∀ rr h1, EX B D 100 mL_law 18 [some (.ref b), some (.ref e), some (.ref r), some (.int (nI (6 * (q + 1))))] [] (n', w', mH r G M') rr h1 → EX B D 100 mL_law 388 [some (.ref b), some (.ref e), some (.ref r), some (.int (nI (6 * q)))] [] (n, w, mH r g M) rr h1 := by
  obtain ⟨n', w', G, M', bk', c1, c2, c3, s2, s3⟩ := h.two (B := B) (D := D) hq (c_X6_build h.1 h.2.2.1 h.2.1.2.1.2.1 (xs (nI (6 * q) + 1).toNatClampNeg)) (fun n' w' G hcap => m_build h.2.1 hcap (xs (nI (6 * q) + 1).toNatClampNeg))
  have s1 := h.2.2.2.2.1
  have he1 := h.1.1
  have hinc : nI (6 * q) + Int32.ofInt 6 = nI (6 * (q + 1)) := nI_add (6 * q) 6
  refine ⟨_, n', w', G, M', bk', c3, fun rr h1 hk => ?_⟩
  refine px_aload_n dL_law_388 rfl ?_
  refine px_aload_n dL_law_389 rfl ?_
  refine px_iload_n dL_law_390 rfl ?_
  refine px_iconst (v := 1) dL_law_391 (by decide) ?_
  refine px_iadd dL_law_392 ?_
  refine px_saload dL_law_393 s1 (ix_1 hL hL2) ?_
  refine px_callV1 (ν := mX6_build) (ci := 6) rfl rfl lk_L_48 in_X6_build se_X6_build mok_X6_build dL_law_394 (c1) he1 rfl rfl (by omega) (by simp) ?_
  refine px_aload_n dL_law_397 rfl ?_
  refine px_aload_n dL_law_398 rfl ?_
  refine px_iload_n dL_law_399 rfl ?_
  refine px_iconst (v := 1) dL_law_400 (by decide) ?_
  refine px_iadd dL_law_401 ?_
  refine px_saload dL_law_402 s2 (ix_1 hL hL2) ?_
  refine px_callV1 (ν := mX7_build) (ci := 7) rfl rfl lk_L_51 in_X7_build se_X7_build mok_X7_build dL_law_403 (c2) s3 rfl rfl (by omega) (by simp) ?_
  refine px_icmp_eq (tgt := 1147) dL_law_406 (by decide) (fun hc406 => ?_) (fun hc406 => ?_)
  · refine px_iinc3 rfl hinc dL_law_1147 ?_
    refine px_goto (tgt := 18) dL_law_1150 (by decide) ?_
    exact hk
  · exact absurd rfl hc406
theorem w_all (h : LI b L xs e r N0 W0 q C n w g M bk) (hq : q ≤ 511) (hL : 6 * q + 5 < L) (hL2 : L ≤ 3072) : ∃ (C' : CS) (n' w' : Nat) (G : Nat → Option va_E) (M' : MS) (bk' : BK), LI b L xs e r N0 W0 (q + 1) C' n' w' G M' bk' ∧ ∀ rr h1, EX B D 100 mL_law 18 [some (.ref b), some (.ref e), some (.ref r), some (.int (nI (6 * (q + 1))))] [] (n', w', mH r G M') rr h1 → EX B D 100 mL_law 411 [some (.ref b), some (.ref e), some (.ref r), some (.int (nI (6 * q)))] [] (n, w, mH r g M) rr h1 := by
  obtain ⟨n', w', G, M', bk', c1, c2, c3, s2, s3⟩ := h.two (B := B) (D := D) hq (c_X6_all h.1 h.2.2.1 h.2.1.2.1.2.1 (xs (nI (6 * q) + 1).toNatClampNeg)) (fun n' w' G hcap => m_all h.2.1 hcap (xs (nI (6 * q) + 1).toNatClampNeg))
  have s1 := h.2.2.2.2.1
  have he1 := h.1.1
  have hinc : nI (6 * q) + Int32.ofInt 6 = nI (6 * (q + 1)) := nI_add (6 * q) 6
  refine ⟨_, n', w', G, M', bk', c3, fun rr h1 hk => ?_⟩
  refine px_aload_n dL_law_411 rfl ?_
  refine px_aload_n dL_law_412 rfl ?_
  refine px_iload_n dL_law_413 rfl ?_
  refine px_iconst (v := 1) dL_law_414 (by decide) ?_
  refine px_iadd dL_law_415 ?_
  refine px_saload dL_law_416 s1 (ix_1 hL hL2) ?_
  refine px_callV1 (ν := mX6_all) (ci := 6) rfl rfl lk_L_52 in_X6_all se_X6_all mok_X6_all dL_law_417 (c1) he1 rfl rfl (by omega) (by simp) ?_
  refine px_aload_n dL_law_420 rfl ?_
  refine px_aload_n dL_law_421 rfl ?_
  refine px_iload_n dL_law_422 rfl ?_
  refine px_iconst (v := 1) dL_law_423 (by decide) ?_
  refine px_iadd dL_law_424 ?_
  refine px_saload dL_law_425 s2 (ix_1 hL hL2) ?_
  refine px_callV1 (ν := mX7_all) (ci := 7) rfl rfl lk_L_55 in_X7_all se_X7_all mok_X7_all dL_law_426 (c2) s3 rfl rfl (by omega) (by simp) ?_
  refine px_icmp_eq (tgt := 1147) dL_law_429 (by decide) (fun hc429 => ?_) (fun hc429 => ?_)
  · refine px_iinc3 rfl hinc dL_law_1147 ?_
    refine px_goto (tgt := 18) dL_law_1150 (by decide) ?_
    exact hk
  · exact absurd rfl hc429
end M80
