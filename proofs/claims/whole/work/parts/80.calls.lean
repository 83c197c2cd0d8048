/-! the law's calls, one by one -/
section M80
variable {B : Nat} {D : va_G} {b L : Nat} {xs : Nat → Int32} {e r N0 W0 q : Nat} {C : CS} {n w : Nat} {g : Nat → Option va_E} {M : MS} {bk : BK}
theorem ix_k (k : Nat) (hk : k < 6) (h : 6 * q + 5 < L) (hL : L ≤ 3072) : 0 ≤ (nI (6 * q) + nI k).toInt ∧ (nI (6 * q) + nI k).toInt < (L : Int) := by
  rw [nI_add, nI_toInt (by omega)]
  omega
theorem w_give (h : LI b L xs e r N0 W0 q C n w g M bk) (hq : q ≤ 511) (hL : 6 * q + 5 < L) (hL2 : L ≤ 3072) : ∃ (C' : CS) (n' w' : Nat) (G : Nat → Option va_E) (M' : MS) (bk' : BK), LI b L xs e r N0 W0 (q + 1) C' n' w' G M' bk' ∧ ∀ rr h1, EX B D 100 mL_law 18 [some (.ref b), some (.ref e), some (.ref r), some (.int (nI (6 * (q + 1))))] [] (n', w', mH r G M') rr h1 → EX B D 100 mL_law 184 [some (.ref b), some (.ref e), some (.ref r), some (.int (nI (6 * q)))] [] (n, w, mH r g M) rr h1 := by
  obtain ⟨n', w', G, M', bk', c1, c2, c3, s2, s3⟩ := h.two (B := B) (D := D) hq (e_give h.1 h.2.2.1 (xs (nI (6 * q) + 1).toNatClampNeg) (xs (nI (6 * q) + 2).toNatClampNeg)) (fun n' w' G hcap => m_give h.2.1 (xs (nI (6 * q) + 1).toNatClampNeg) (xs (nI (6 * q) + 2).toNatClampNeg))
  have s1 := h.2.2.2.2.1
  have he1 := h.1.1
  have hinc : nI (6 * q) + Int32.ofInt 6 = nI (6 * (q + 1)) := nI_add (6 * q) 6
  refine ⟨_, n', w', G, M', bk', c3, fun rr h1 hk => ?_⟩
  refine px_aload_n dL_law_184 rfl ?_
  refine px_aload_n dL_law_185 rfl ?_
  refine px_iload_n dL_law_186 rfl ?_
  refine px_iconst (v := 1) dL_law_187 (by decide) ?_
  refine px_iadd dL_law_188 ?_
  refine px_saload dL_law_189 (by first | exact s1 | exact s2 | exact he1 | exact s3) (by first | exact ix_k 1 (by omega) hL hL2 | exact ix_k 2 (by omega) hL hL2 | exact ix_k 3 (by omega) hL hL2 | exact ix_k 4 (by omega) hL hL2 | exact ix_k 5 (by omega) hL hL2) ?_
  refine px_aload_n dL_law_190 rfl ?_
  refine px_iload_n dL_law_191 rfl ?_
  refine px_iconst (v := 2) dL_law_192 (by decide) ?_
  refine px_iadd dL_law_193 ?_
  refine px_saload dL_law_194 (by first | exact s1 | exact s2 | exact he1 | exact s3) (by first | exact ix_k 1 (by omega) hL hL2 | exact ix_k 2 (by omega) hL hL2 | exact ix_k 3 (by omega) hL hL2 | exact ix_k 4 (by omega) hL hL2 | exact ix_k 5 (by omega) hL hL2) ?_
  refine px_callV1 (ν := mX6_give) (ci := 6) rfl rfl lk_L_13 in_X6_give se_X6_give mok_X6_give dL_law_195 (c1) (by first | exact s1 | exact s2 | exact he1 | exact s3) rfl rfl (by omega) (by simp) ?_
  refine px_aload_n dL_law_198 rfl ?_
  refine px_aload_n dL_law_199 rfl ?_
  refine px_iload_n dL_law_200 rfl ?_
  refine px_iconst (v := 1) dL_law_201 (by decide) ?_
  refine px_iadd dL_law_202 ?_
  refine px_saload dL_law_203 (by first | exact s1 | exact s2 | exact he1 | exact s3) (by first | exact ix_k 1 (by omega) hL hL2 | exact ix_k 2 (by omega) hL hL2 | exact ix_k 3 (by omega) hL hL2 | exact ix_k 4 (by omega) hL hL2 | exact ix_k 5 (by omega) hL hL2) ?_
  refine px_aload_n dL_law_204 rfl ?_
  refine px_iload_n dL_law_205 rfl ?_
  refine px_iconst (v := 2) dL_law_206 (by decide) ?_
  refine px_iadd dL_law_207 ?_
  refine px_saload dL_law_208 (by first | exact s1 | exact s2 | exact he1 | exact s3) (by first | exact ix_k 1 (by omega) hL hL2 | exact ix_k 2 (by omega) hL hL2 | exact ix_k 3 (by omega) hL hL2 | exact ix_k 4 (by omega) hL hL2 | exact ix_k 5 (by omega) hL hL2) ?_
  refine px_callV1 (ν := mX7_give) (ci := 7) rfl rfl lk_L_17 in_X7_give se_X7_give mok_X7_give dL_law_209 (c2) (by first | exact s1 | exact s2 | exact he1 | exact s3) rfl rfl (by omega) (by simp) ?_
  refine px_icmp_eq (tgt := 1147) dL_law_212 (by decide) (fun hc212 => ?_) (fun hc212 => ?_)
  · refine px_iinc3 rfl hinc dL_law_1147 ?_
    refine px_goto (tgt := 18) dL_law_1150 (by decide) ?_
    exact hk
  · exact absurd rfl hc212
theorem w_take (h : LI b L xs e r N0 W0 q C n w g M bk) (hq : q ≤ 511) (hL : 6 * q + 5 < L) (hL2 : L ≤ 3072) : ∃ (C' : CS) (n' w' : Nat) (G : Nat → Option va_E) (M' : MS) (bk' : BK), LI b L xs e r N0 W0 (q + 1) C' n' w' G M' bk' ∧ ∀ rr h1, EX B D 100 mL_law 18 [some (.ref b), some (.ref e), some (.ref r), some (.int (nI (6 * (q + 1))))] [] (n', w', mH r G M') rr h1 → EX B D 100 mL_law 217 [some (.ref b), some (.ref e), some (.ref r), some (.int (nI (6 * q)))] [] (n, w, mH r g M) rr h1 := by
  obtain ⟨n', w', G, M', bk', c1, c2, c3, s2, s3⟩ := h.two (B := B) (D := D) hq (some3 (e_take h.1 h.2.2.1 (xs (nI (6 * q) + 1).toNatClampNeg))) (fun n' w' G hcap => m_take h.2.1 (xs (nI (6 * q) + 1).toNatClampNeg))
  have s1 := h.2.2.2.2.1
  have he1 := h.1.1
  have hinc : nI (6 * q) + Int32.ofInt 6 = nI (6 * (q + 1)) := nI_add (6 * q) 6
  refine ⟨_, n', w', G, M', bk', c3, fun rr h1 hk => ?_⟩
  refine px_aload_n dL_law_217 rfl ?_
  refine px_aload_n dL_law_218 rfl ?_
  refine px_iload_n dL_law_219 rfl ?_
  refine px_iconst (v := 1) dL_law_220 (by decide) ?_
  refine px_iadd dL_law_221 ?_
  refine px_saload dL_law_222 (by first | exact s1 | exact s2 | exact he1 | exact s3) (by first | exact ix_k 1 (by omega) hL hL2 | exact ix_k 2 (by omega) hL hL2 | exact ix_k 3 (by omega) hL hL2 | exact ix_k 4 (by omega) hL hL2 | exact ix_k 5 (by omega) hL hL2) ?_
  refine px_callV1 (ν := mX6_take) (ci := 6) rfl rfl lk_L_18 in_X6_take se_X6_take mok_X6_take dL_law_223 (c1) (by first | exact s1 | exact s2 | exact he1 | exact s3) rfl rfl (by omega) (by simp) ?_
  refine px_aload_n dL_law_226 rfl ?_
  refine px_aload_n dL_law_227 rfl ?_
  refine px_iload_n dL_law_228 rfl ?_
  refine px_iconst (v := 1) dL_law_229 (by decide) ?_
  refine px_iadd dL_law_230 ?_
  refine px_saload dL_law_231 (by first | exact s1 | exact s2 | exact he1 | exact s3) (by first | exact ix_k 1 (by omega) hL hL2 | exact ix_k 2 (by omega) hL hL2 | exact ix_k 3 (by omega) hL hL2 | exact ix_k 4 (by omega) hL hL2 | exact ix_k 5 (by omega) hL hL2) ?_
  refine px_callV1 (ν := mX7_take) (ci := 7) rfl rfl lk_L_22 in_X7_take se_X7_take mok_X7_take dL_law_232 (c2) (by first | exact s1 | exact s2 | exact he1 | exact s3) rfl rfl (by omega) (by simp) ?_
  refine px_icmp_eq (tgt := 1147) dL_law_235 (by decide) (fun hc235 => ?_) (fun hc235 => ?_)
  · refine px_iinc3 rfl hinc dL_law_1147 ?_
    refine px_goto (tgt := 18) dL_law_1150 (by decide) ?_
    exact hk
  · exact absurd rfl hc235
theorem w_feed (h : LI b L xs e r N0 W0 q C n w g M bk) (hq : q ≤ 511) (hL : 6 * q + 5 < L) (hL2 : L ≤ 3072) : ∃ (C' : CS) (n' w' : Nat) (G : Nat → Option va_E) (M' : MS) (bk' : BK), LI b L xs e r N0 W0 (q + 1) C' n' w' G M' bk' ∧ ∀ rr h1, EX B D 100 mL_law 18 [some (.ref b), some (.ref e), some (.ref r), some (.int (nI (6 * (q + 1))))] [] (n', w', mH r G M') rr h1 → EX B D 100 mL_law 240 [some (.ref b), some (.ref e), some (.ref r), some (.int (nI (6 * q)))] [] (n, w, mH r g M) rr h1 := by
  obtain ⟨n', w', G, M', bk', c1, c2, c3, s2, s3⟩ := h.two (B := B) (D := D) hq (some3 (e_feed h.1 h.2.2.1 (xs (nI (6 * q) + 1).toNatClampNeg))) (fun n' w' G hcap => m_feed h.2.1 (xs (nI (6 * q) + 1).toNatClampNeg))
  have s1 := h.2.2.2.2.1
  have he1 := h.1.1
  have hinc : nI (6 * q) + Int32.ofInt 6 = nI (6 * (q + 1)) := nI_add (6 * q) 6
  refine ⟨_, n', w', G, M', bk', c3, fun rr h1 hk => ?_⟩
  refine px_aload_n dL_law_240 rfl ?_
  refine px_aload_n dL_law_241 rfl ?_
  refine px_iload_n dL_law_242 rfl ?_
  refine px_iconst (v := 1) dL_law_243 (by decide) ?_
  refine px_iadd dL_law_244 ?_
  refine px_saload dL_law_245 (by first | exact s1 | exact s2 | exact he1 | exact s3) (by first | exact ix_k 1 (by omega) hL hL2 | exact ix_k 2 (by omega) hL hL2 | exact ix_k 3 (by omega) hL hL2 | exact ix_k 4 (by omega) hL hL2 | exact ix_k 5 (by omega) hL hL2) ?_
  refine px_callV1 (ν := mX6_feed) (ci := 6) rfl rfl lk_L_23 in_X6_feed se_X6_feed mok_X6_feed dL_law_246 (c1) (by first | exact s1 | exact s2 | exact he1 | exact s3) rfl rfl (by omega) (by simp) ?_
  refine px_aload_n dL_law_249 rfl ?_
  refine px_aload_n dL_law_250 rfl ?_
  refine px_iload_n dL_law_251 rfl ?_
  refine px_iconst (v := 1) dL_law_252 (by decide) ?_
  refine px_iadd dL_law_253 ?_
  refine px_saload dL_law_254 (by first | exact s1 | exact s2 | exact he1 | exact s3) (by first | exact ix_k 1 (by omega) hL hL2 | exact ix_k 2 (by omega) hL hL2 | exact ix_k 3 (by omega) hL hL2 | exact ix_k 4 (by omega) hL hL2 | exact ix_k 5 (by omega) hL hL2) ?_
  refine px_callV1 (ν := mX7_feed) (ci := 7) rfl rfl lk_L_26 in_X7_feed se_X7_feed mok_X7_feed dL_law_255 (c2) (by first | exact s1 | exact s2 | exact he1 | exact s3) rfl rfl (by omega) (by simp) ?_
  refine px_icmp_eq (tgt := 1147) dL_law_258 (by decide) (fun hc258 => ?_) (fun hc258 => ?_)
  · refine px_iinc3 rfl hinc dL_law_1147 ?_
    refine px_goto (tgt := 18) dL_law_1150 (by decide) ?_
    exact hk
  · exact absurd rfl hc258
theorem w_clear (h : LI b L xs e r N0 W0 q C n w g M bk) (hq : q ≤ 511) (hL : 6 * q + 5 < L) (hL2 : L ≤ 3072) : ∃ (C' : CS) (n' w' : Nat) (G : Nat → Option va_E) (M' : MS) (bk' : BK), LI b L xs e r N0 W0 (q + 1) C' n' w' G M' bk' ∧ ∀ rr h1, EX B D 100 mL_law 18 [some (.ref b), some (.ref e), some (.ref r), some (.int (nI (6 * (q + 1))))] [] (n', w', mH r G M') rr h1 → EX B D 100 mL_law 263 [some (.ref b), some (.ref e), some (.ref r), some (.int (nI (6 * q)))] [] (n, w, mH r g M) rr h1 := by
  obtain ⟨n', w', G, M', bk', c1, c2, c3, s2, s3⟩ := h.two (B := B) (D := D) hq (some3 (e_clear h.1 h.2.2.1 )) (fun n' w' G hcap => m_clear h.2.1 )
  have s1 := h.2.2.2.2.1
  have he1 := h.1.1
  have hinc : nI (6 * q) + Int32.ofInt 6 = nI (6 * (q + 1)) := nI_add (6 * q) 6
  refine ⟨_, n', w', G, M', bk', c3, fun rr h1 hk => ?_⟩
  refine px_aload_n dL_law_263 rfl ?_
  refine px_callV1 (ν := mX6_clear) (ci := 6) rfl rfl lk_L_27 in_X6_clear se_X6_clear mok_X6_clear dL_law_264 (c1) (by first | exact s1 | exact s2 | exact he1 | exact s3) rfl rfl (by omega) (by simp) ?_
  refine px_aload_n dL_law_267 rfl ?_
  refine px_callV1 (ν := mX7_clear) (ci := 7) rfl rfl lk_L_31 in_X7_clear se_X7_clear mok_X7_clear dL_law_268 (c2) (by first | exact s1 | exact s2 | exact he1 | exact s3) rfl rfl (by omega) (by simp) ?_
  refine px_icmp_eq (tgt := 1147) dL_law_271 (by decide) (fun hc271 => ?_) (fun hc271 => ?_)
  · refine px_iinc3 rfl hinc dL_law_1147 ?_
    refine px_goto (tgt := 18) dL_law_1150 (by decide) ?_
    exact hk
  · exact absurd rfl hc271
theorem w_rule (h : LI b L xs e r N0 W0 q C n w g M bk) (hq : q ≤ 511) (hL : 6 * q + 5 < L) (hL2 : L ≤ 3072) : ∃ (C' : CS) (n' w' : Nat) (G : Nat → Option va_E) (M' : MS) (bk' : BK), LI b L xs e r N0 W0 (q + 1) C' n' w' G M' bk' ∧ ∀ rr h1, EX B D 100 mL_law 18 [some (.ref b), some (.ref e), some (.ref r), some (.int (nI (6 * (q + 1))))] [] (n', w', mH r G M') rr h1 → EX B D 100 mL_law 276 [some (.ref b), some (.ref e), some (.ref r), some (.int (nI (6 * q)))] [] (n, w, mH r g M) rr h1 := by
  obtain ⟨n', w', G, M', bk', c1, c2, c3, s2, s3⟩ := h.two (B := B) (D := D) hq (some3 (c_X6_rule h.1 h.2.2.1 (xs (nI (6 * q) + 1).toNatClampNeg))) (fun n' w' G hcap => m_rule h.2.1 (xs (nI (6 * q) + 1).toNatClampNeg))
  have s1 := h.2.2.2.2.1
  have he1 := h.1.1
  have hinc : nI (6 * q) + Int32.ofInt 6 = nI (6 * (q + 1)) := nI_add (6 * q) 6
  refine ⟨_, n', w', G, M', bk', c3, fun rr h1 hk => ?_⟩
  refine px_aload_n dL_law_276 rfl ?_
  refine px_aload_n dL_law_277 rfl ?_
  refine px_iload_n dL_law_278 rfl ?_
  refine px_iconst (v := 1) dL_law_279 (by decide) ?_
  refine px_iadd dL_law_280 ?_
  refine px_saload dL_law_281 (by first | exact s1 | exact s2 | exact he1 | exact s3) (by first | exact ix_k 1 (by omega) hL hL2 | exact ix_k 2 (by omega) hL hL2 | exact ix_k 3 (by omega) hL hL2 | exact ix_k 4 (by omega) hL hL2 | exact ix_k 5 (by omega) hL hL2) ?_
  refine px_callV1 (ν := mX6_rule) (ci := 6) rfl rfl lk_L_32 in_X6_rule se_X6_rule mok_X6_rule dL_law_282 (c1) (by first | exact s1 | exact s2 | exact he1 | exact s3) rfl rfl (by omega) (by simp) ?_
  refine px_aload_n dL_law_285 rfl ?_
  refine px_aload_n dL_law_286 rfl ?_
  refine px_iload_n dL_law_287 rfl ?_
  refine px_iconst (v := 1) dL_law_288 (by decide) ?_
  refine px_iadd dL_law_289 ?_
  refine px_saload dL_law_290 (by first | exact s1 | exact s2 | exact he1 | exact s3) (by first | exact ix_k 1 (by omega) hL hL2 | exact ix_k 2 (by omega) hL hL2 | exact ix_k 3 (by omega) hL hL2 | exact ix_k 4 (by omega) hL hL2 | exact ix_k 5 (by omega) hL hL2) ?_
  refine px_callV1 (ν := mX7_rule) (ci := 7) rfl rfl lk_L_35 in_X7_rule se_X7_rule mok_X7_rule dL_law_291 (c2) (by first | exact s1 | exact s2 | exact he1 | exact s3) rfl rfl (by omega) (by simp) ?_
  refine px_icmp_eq (tgt := 1147) dL_law_294 (by decide) (fun hc294 => ?_) (fun hc294 => ?_)
  · refine px_iinc3 rfl hinc dL_law_1147 ?_
    refine px_goto (tgt := 18) dL_law_1150 (by decide) ?_
    exact hk
  · exact absurd rfl hc294
theorem w_drop (h : LI b L xs e r N0 W0 q C n w g M bk) (hq : q ≤ 511) (hL : 6 * q + 5 < L) (hL2 : L ≤ 3072) : ∃ (C' : CS) (n' w' : Nat) (G : Nat → Option va_E) (M' : MS) (bk' : BK), LI b L xs e r N0 W0 (q + 1) C' n' w' G M' bk' ∧ ∀ rr h1, EX B D 100 mL_law 18 [some (.ref b), some (.ref e), some (.ref r), some (.int (nI (6 * (q + 1))))] [] (n', w', mH r G M') rr h1 → EX B D 100 mL_law 299 [some (.ref b), some (.ref e), some (.ref r), some (.int (nI (6 * q)))] [] (n, w, mH r g M) rr h1 := by
  obtain ⟨n', w', G, M', bk', c1, c2, c3, s2, s3⟩ := h.two (B := B) (D := D) hq (some3 (e_drop h.1 h.2.2.1 (xs (nI (6 * q) + 1).toNatClampNeg))) (fun n' w' G hcap => m_drop h.2.1 (xs (nI (6 * q) + 1).toNatClampNeg))
  have s1 := h.2.2.2.2.1
  have he1 := h.1.1
  have hinc : nI (6 * q) + Int32.ofInt 6 = nI (6 * (q + 1)) := nI_add (6 * q) 6
  refine ⟨_, n', w', G, M', bk', c3, fun rr h1 hk => ?_⟩
  refine px_aload_n dL_law_299 rfl ?_
  refine px_aload_n dL_law_300 rfl ?_
  refine px_iload_n dL_law_301 rfl ?_
  refine px_iconst (v := 1) dL_law_302 (by decide) ?_
  refine px_iadd dL_law_303 ?_
  refine px_saload dL_law_304 (by first | exact s1 | exact s2 | exact he1 | exact s3) (by first | exact ix_k 1 (by omega) hL hL2 | exact ix_k 2 (by omega) hL hL2 | exact ix_k 3 (by omega) hL hL2 | exact ix_k 4 (by omega) hL hL2 | exact ix_k 5 (by omega) hL hL2) ?_
  refine px_callV1 (ν := mX6_drop) (ci := 6) rfl rfl lk_L_36 in_X6_drop se_X6_drop mok_X6_drop dL_law_305 (c1) (by first | exact s1 | exact s2 | exact he1 | exact s3) rfl rfl (by omega) (by simp) ?_
  refine px_aload_n dL_law_308 rfl ?_
  refine px_aload_n dL_law_309 rfl ?_
  refine px_iload_n dL_law_310 rfl ?_
  refine px_iconst (v := 1) dL_law_311 (by decide) ?_
  refine px_iadd dL_law_312 ?_
  refine px_saload dL_law_313 (by first | exact s1 | exact s2 | exact he1 | exact s3) (by first | exact ix_k 1 (by omega) hL hL2 | exact ix_k 2 (by omega) hL hL2 | exact ix_k 3 (by omega) hL hL2 | exact ix_k 4 (by omega) hL hL2 | exact ix_k 5 (by omega) hL hL2) ?_
  refine px_callV1 (ν := mX7_drop) (ci := 7) rfl rfl lk_L_39 in_X7_drop se_X7_drop mok_X7_drop dL_law_314 (c2) (by first | exact s1 | exact s2 | exact he1 | exact s3) rfl rfl (by omega) (by simp) ?_
  refine px_icmp_eq (tgt := 1147) dL_law_317 (by decide) (fun hc317 => ?_) (fun hc317 => ?_)
  · refine px_iinc3 rfl hinc dL_law_1147 ?_
    refine px_goto (tgt := 18) dL_law_1150 (by decide) ?_
    exact hk
  · exact absurd rfl hc317
theorem w_copy (h : LI b L xs e r N0 W0 q C n w g M bk) (hq : q ≤ 511) (hL : 6 * q + 5 < L) (hL2 : L ≤ 3072) : ∃ (C' : CS) (n' w' : Nat) (G : Nat → Option va_E) (M' : MS) (bk' : BK), LI b L xs e r N0 W0 (q + 1) C' n' w' G M' bk' ∧ ∀ rr h1, EX B D 100 mL_law 18 [some (.ref b), some (.ref e), some (.ref r), some (.int (nI (6 * (q + 1))))] [] (n', w', mH r G M') rr h1 → EX B D 100 mL_law 322 [some (.ref b), some (.ref e), some (.ref r), some (.int (nI (6 * q)))] [] (n, w, mH r g M) rr h1 := by
  obtain ⟨n', w', G, M', bk', c1, c2, c3, s2, s3⟩ := h.two (B := B) (D := D) hq (some3 (e_copy h.1 h.2.2.1 (xs (nI (6 * q) + 1).toNatClampNeg) (xs (nI (6 * q) + 2).toNatClampNeg))) (fun n' w' G hcap => m_copy h.2.1 (xs (nI (6 * q) + 1).toNatClampNeg) (xs (nI (6 * q) + 2).toNatClampNeg))
  have s1 := h.2.2.2.2.1
  have he1 := h.1.1
  have hinc : nI (6 * q) + Int32.ofInt 6 = nI (6 * (q + 1)) := nI_add (6 * q) 6
  refine ⟨_, n', w', G, M', bk', c3, fun rr h1 hk => ?_⟩
  refine px_aload_n dL_law_322 rfl ?_
  refine px_aload_n dL_law_323 rfl ?_
  refine px_iload_n dL_law_324 rfl ?_
  refine px_iconst (v := 1) dL_law_325 (by decide) ?_
  refine px_iadd dL_law_326 ?_
  refine px_saload dL_law_327 (by first | exact s1 | exact s2 | exact he1 | exact s3) (by first | exact ix_k 1 (by omega) hL hL2 | exact ix_k 2 (by omega) hL hL2 | exact ix_k 3 (by omega) hL hL2 | exact ix_k 4 (by omega) hL hL2 | exact ix_k 5 (by omega) hL hL2) ?_
  refine px_aload_n dL_law_328 rfl ?_
  refine px_iload_n dL_law_329 rfl ?_
  refine px_iconst (v := 2) dL_law_330 (by decide) ?_
  refine px_iadd dL_law_331 ?_
  refine px_saload dL_law_332 (by first | exact s1 | exact s2 | exact he1 | exact s3) (by first | exact ix_k 1 (by omega) hL hL2 | exact ix_k 2 (by omega) hL hL2 | exact ix_k 3 (by omega) hL hL2 | exact ix_k 4 (by omega) hL hL2 | exact ix_k 5 (by omega) hL hL2) ?_
  refine px_callV1 (ν := mX6_copy) (ci := 6) rfl rfl lk_L_40 in_X6_copy se_X6_copy mok_X6_copy dL_law_333 (c1) (by first | exact s1 | exact s2 | exact he1 | exact s3) rfl rfl (by omega) (by simp) ?_
  refine px_aload_n dL_law_336 rfl ?_
  refine px_aload_n dL_law_337 rfl ?_
  refine px_iload_n dL_law_338 rfl ?_
  refine px_iconst (v := 1) dL_law_339 (by decide) ?_
  refine px_iadd dL_law_340 ?_
  refine px_saload dL_law_341 (by first | exact s1 | exact s2 | exact he1 | exact s3) (by first | exact ix_k 1 (by omega) hL hL2 | exact ix_k 2 (by omega) hL hL2 | exact ix_k 3 (by omega) hL hL2 | exact ix_k 4 (by omega) hL hL2 | exact ix_k 5 (by omega) hL hL2) ?_
  refine px_aload_n dL_law_342 rfl ?_
  refine px_iload_n dL_law_343 rfl ?_
  refine px_iconst (v := 2) dL_law_344 (by decide) ?_
  refine px_iadd dL_law_345 ?_
  refine px_saload dL_law_346 (by first | exact s1 | exact s2 | exact he1 | exact s3) (by first | exact ix_k 1 (by omega) hL hL2 | exact ix_k 2 (by omega) hL hL2 | exact ix_k 3 (by omega) hL hL2 | exact ix_k 4 (by omega) hL hL2 | exact ix_k 5 (by omega) hL hL2) ?_
  refine px_callV1 (ν := mX7_copy) (ci := 7) rfl rfl lk_L_43 in_X7_copy se_X7_copy mok_X7_copy dL_law_347 (c2) (by first | exact s1 | exact s2 | exact he1 | exact s3) rfl rfl (by omega) (by simp) ?_
  refine px_icmp_eq (tgt := 1147) dL_law_350 (by decide) (fun hc350 => ?_) (fun hc350 => ?_)
  · refine px_iinc3 rfl hinc dL_law_1147 ?_
    refine px_goto (tgt := 18) dL_law_1150 (by decide) ?_
    exact hk
  · exact absurd rfl hc350
theorem w_step (h : LI b L xs e r N0 W0 q C n w g M bk) (hq : q ≤ 511) (hL : 6 * q + 5 < L) (hL2 : L ≤ 3072) : ∃ (C' : CS) (n' w' : Nat) (G : Nat → Option va_E) (M' : MS) (bk' : BK), LI b L xs e r N0 W0 (q + 1) C' n' w' G M' bk' ∧ ∀ rr h1, EX B D 100 mL_law 18 [some (.ref b), some (.ref e), some (.ref r), some (.int (nI (6 * (q + 1))))] [] (n', w', mH r G M') rr h1 → EX B D 100 mL_law 355 [some (.ref b), some (.ref e), some (.ref r), some (.int (nI (6 * q)))] [] (n, w, mH r g M) rr h1 := by
  obtain ⟨n', w', G, M', bk', c1, c2, c3, s2, s3⟩ := h.two (B := B) (D := D) hq (look h.1 (c_X6_step h.1.1 h.1.2.1.w (xs (nI (6 * q) + 1).toNatClampNeg) (xs (nI (6 * q) + 2).toNatClampNeg))) (fun n' w' G hcap => m_step h.2.1 (xs (nI (6 * q) + 1).toNatClampNeg) (xs (nI (6 * q) + 2).toNatClampNeg))
  have s1 := h.2.2.2.2.1
  have he1 := h.1.1
  have hinc : nI (6 * q) + Int32.ofInt 6 = nI (6 * (q + 1)) := nI_add (6 * q) 6
  refine ⟨_, n', w', G, M', bk', c3, fun rr h1 hk => ?_⟩
  refine px_aload_n dL_law_355 rfl ?_
  refine px_aload_n dL_law_356 rfl ?_
  refine px_iload_n dL_law_357 rfl ?_
  refine px_iconst (v := 1) dL_law_358 (by decide) ?_
  refine px_iadd dL_law_359 ?_
  refine px_saload dL_law_360 (by first | exact s1 | exact s2 | exact he1 | exact s3) (by first | exact ix_k 1 (by omega) hL hL2 | exact ix_k 2 (by omega) hL hL2 | exact ix_k 3 (by omega) hL hL2 | exact ix_k 4 (by omega) hL hL2 | exact ix_k 5 (by omega) hL hL2) ?_
  refine px_aload_n dL_law_361 rfl ?_
  refine px_iload_n dL_law_362 rfl ?_
  refine px_iconst (v := 2) dL_law_363 (by decide) ?_
  refine px_iadd dL_law_364 ?_
  refine px_saload dL_law_365 (by first | exact s1 | exact s2 | exact he1 | exact s3) (by first | exact ix_k 1 (by omega) hL hL2 | exact ix_k 2 (by omega) hL hL2 | exact ix_k 3 (by omega) hL hL2 | exact ix_k 4 (by omega) hL hL2 | exact ix_k 5 (by omega) hL hL2) ?_
  refine px_callV1 (ν := mX6_step) (ci := 6) rfl rfl lk_L_44 in_X6_step se_X6_step mok_X6_step dL_law_366 (c1) (by first | exact s1 | exact s2 | exact he1 | exact s3) rfl rfl (by omega) (by simp) ?_
  refine px_aload_n dL_law_369 rfl ?_
  refine px_aload_n dL_law_370 rfl ?_
  refine px_iload_n dL_law_371 rfl ?_
  refine px_iconst (v := 1) dL_law_372 (by decide) ?_
  refine px_iadd dL_law_373 ?_
  refine px_saload dL_law_374 (by first | exact s1 | exact s2 | exact he1 | exact s3) (by first | exact ix_k 1 (by omega) hL hL2 | exact ix_k 2 (by omega) hL hL2 | exact ix_k 3 (by omega) hL hL2 | exact ix_k 4 (by omega) hL hL2 | exact ix_k 5 (by omega) hL hL2) ?_
  refine px_aload_n dL_law_375 rfl ?_
  refine px_iload_n dL_law_376 rfl ?_
  refine px_iconst (v := 2) dL_law_377 (by decide) ?_
  refine px_iadd dL_law_378 ?_
  refine px_saload dL_law_379 (by first | exact s1 | exact s2 | exact he1 | exact s3) (by first | exact ix_k 1 (by omega) hL hL2 | exact ix_k 2 (by omega) hL hL2 | exact ix_k 3 (by omega) hL hL2 | exact ix_k 4 (by omega) hL hL2 | exact ix_k 5 (by omega) hL hL2) ?_
  refine px_callV1 (ν := mX7_step) (ci := 7) rfl rfl lk_L_47 in_X7_step se_X7_step mok_X7_step dL_law_380 (c2) (by first | exact s1 | exact s2 | exact he1 | exact s3) rfl rfl (by omega) (by simp) ?_
  refine px_icmp_eq (tgt := 1147) dL_law_383 (by decide) (fun hc383 => ?_) (fun hc383 => ?_)
  · refine px_iinc3 rfl hinc dL_law_1147 ?_
    refine px_goto (tgt := 18) dL_law_1150 (by decide) ?_
    exact hk
  · exact absurd rfl hc383
theorem w_build (h : LI b L xs e r N0 W0 q C n w g M bk) (hq : q ≤ 511) (hL : 6 * q + 5 < L) (hL2 : L ≤ 3072) : ∃ (C' : CS) (n' w' : Nat) (G : Nat → Option va_E) (M' : MS) (bk' : BK), LI b L xs e r N0 W0 (q + 1) C' n' w' G M' bk' ∧ ∀ rr h1, EX B D 100 mL_law 18 [some (.ref b), some (.ref e), some (.ref r), some (.int (nI (6 * (q + 1))))] [] (n', w', mH r G M') rr h1 → EX B D 100 mL_law 388 [some (.ref b), some (.ref e), some (.ref r), some (.int (nI (6 * q)))] [] (n, w, mH r g M) rr h1 := by
  obtain ⟨n', w', G, M', bk', c1, c2, c3, s2, s3⟩ := h.two (B := B) (D := D) hq (c_X6_build h.1 h.2.2.1 h.2.1.2.1.2.1 (xs (nI (6 * q) + 1).toNatClampNeg)) (fun n' w' G hcap => m_build h.2.1 hcap (xs (nI (6 * q) + 1).toNatClampNeg))
  have s1 := h.2.2.2.2.1
  have he1 := h.1.1
  have hinc : nI (6 * q) + Int32.ofInt 6 = nI (6 * (q + 1)) := nI_add (6 * q) 6
  refine ⟨_, n', w', G, M', bk', c3, fun rr h1 hk => ?_⟩
  refine px_aload_n dL_law_388 rfl ?_
  refine px_aload_n dL_law_389 rfl ?_
  refine px_iload_n dL_law_390 rfl ?_
  refine px_iconst (v := 1) dL_law_391 (by decide) ?_
  refine px_iadd dL_law_392 ?_
  refine px_saload dL_law_393 (by first | exact s1 | exact s2 | exact he1 | exact s3) (by first | exact ix_k 1 (by omega) hL hL2 | exact ix_k 2 (by omega) hL hL2 | exact ix_k 3 (by omega) hL hL2 | exact ix_k 4 (by omega) hL hL2 | exact ix_k 5 (by omega) hL hL2) ?_
  refine px_callV1 (ν := mX6_build) (ci := 6) rfl rfl lk_L_48 in_X6_build se_X6_build mok_X6_build dL_law_394 (c1) (by first | exact s1 | exact s2 | exact he1 | exact s3) rfl rfl (by omega) (by simp) ?_
  refine px_aload_n dL_law_397 rfl ?_
  refine px_aload_n dL_law_398 rfl ?_
  refine px_iload_n dL_law_399 rfl ?_
  refine px_iconst (v := 1) dL_law_400 (by decide) ?_
  refine px_iadd dL_law_401 ?_
  refine px_saload dL_law_402 (by first | exact s1 | exact s2 | exact he1 | exact s3) (by first | exact ix_k 1 (by omega) hL hL2 | exact ix_k 2 (by omega) hL hL2 | exact ix_k 3 (by omega) hL hL2 | exact ix_k 4 (by omega) hL hL2 | exact ix_k 5 (by omega) hL hL2) ?_
  refine px_callV1 (ν := mX7_build) (ci := 7) rfl rfl lk_L_51 in_X7_build se_X7_build mok_X7_build dL_law_403 (c2) (by first | exact s1 | exact s2 | exact he1 | exact s3) rfl rfl (by omega) (by simp) ?_
  refine px_icmp_eq (tgt := 1147) dL_law_406 (by decide) (fun hc406 => ?_) (fun hc406 => ?_)
  · refine px_iinc3 rfl hinc dL_law_1147 ?_
    refine px_goto (tgt := 18) dL_law_1150 (by decide) ?_
    exact hk
  · exact absurd rfl hc406
theorem w_all (h : LI b L xs e r N0 W0 q C n w g M bk) (hq : q ≤ 511) (hL : 6 * q + 5 < L) (hL2 : L ≤ 3072) : ∃ (C' : CS) (n' w' : Nat) (G : Nat → Option va_E) (M' : MS) (bk' : BK), LI b L xs e r N0 W0 (q + 1) C' n' w' G M' bk' ∧ ∀ rr h1, EX B D 100 mL_law 18 [some (.ref b), some (.ref e), some (.ref r), some (.int (nI (6 * (q + 1))))] [] (n', w', mH r G M') rr h1 → EX B D 100 mL_law 411 [some (.ref b), some (.ref e), some (.ref r), some (.int (nI (6 * q)))] [] (n, w, mH r g M) rr h1 := by
  obtain ⟨n', w', G, M', bk', c1, c2, c3, s2, s3⟩ := h.two (B := B) (D := D) hq (c_X6_all h.1 h.2.2.1 h.2.1.2.1.2.1 (xs (nI (6 * q) + 1).toNatClampNeg)) (fun n' w' G hcap => m_all h.2.1 hcap (xs (nI (6 * q) + 1).toNatClampNeg))
  have s1 := h.2.2.2.2.1
  have he1 := h.1.1
  have hinc : nI (6 * q) + Int32.ofInt 6 = nI (6 * (q + 1)) := nI_add (6 * q) 6
  refine ⟨_, n', w', G, M', bk', c3, fun rr h1 hk => ?_⟩
  refine px_aload_n dL_law_411 rfl ?_
  refine px_aload_n dL_law_412 rfl ?_
  refine px_iload_n dL_law_413 rfl ?_
  refine px_iconst (v := 1) dL_law_414 (by decide) ?_
  refine px_iadd dL_law_415 ?_
  refine px_saload dL_law_416 (by first | exact s1 | exact s2 | exact he1 | exact s3) (by first | exact ix_k 1 (by omega) hL hL2 | exact ix_k 2 (by omega) hL hL2 | exact ix_k 3 (by omega) hL hL2 | exact ix_k 4 (by omega) hL hL2 | exact ix_k 5 (by omega) hL hL2) ?_
  refine px_callV1 (ν := mX6_all) (ci := 6) rfl rfl lk_L_52 in_X6_all se_X6_all mok_X6_all dL_law_417 (c1) (by first | exact s1 | exact s2 | exact he1 | exact s3) rfl rfl (by omega) (by simp) ?_
  refine px_aload_n dL_law_420 rfl ?_
  refine px_aload_n dL_law_421 rfl ?_
  refine px_iload_n dL_law_422 rfl ?_
  refine px_iconst (v := 1) dL_law_423 (by decide) ?_
  refine px_iadd dL_law_424 ?_
  refine px_saload dL_law_425 (by first | exact s1 | exact s2 | exact he1 | exact s3) (by first | exact ix_k 1 (by omega) hL hL2 | exact ix_k 2 (by omega) hL hL2 | exact ix_k 3 (by omega) hL hL2 | exact ix_k 4 (by omega) hL hL2 | exact ix_k 5 (by omega) hL hL2) ?_
  refine px_callV1 (ν := mX7_all) (ci := 7) rfl rfl lk_L_55 in_X7_all se_X7_all mok_X7_all dL_law_426 (c2) (by first | exact s1 | exact s2 | exact he1 | exact s3) rfl rfl (by omega) (by simp) ?_
  refine px_icmp_eq (tgt := 1147) dL_law_429 (by decide) (fun hc429 => ?_) (fun hc429 => ?_)
  · refine px_iinc3 rfl hinc dL_law_1147 ?_
    refine px_goto (tgt := 18) dL_law_1150 (by decide) ?_
    exact hk
  · exact absurd rfl hc429
theorem w_some (h : LI b L xs e r N0 W0 q C n w g M bk) (hq : q ≤ 511) (hL : 6 * q + 5 < L) (hL2 : L ≤ 3072) : ∃ (C' : CS) (n' w' : Nat) (G : Nat → Option va_E) (M' : MS) (bk' : BK), LI b L xs e r N0 W0 (q + 1) C' n' w' G M' bk' ∧ ∀ rr h1, EX B D 100 mL_law 18 [some (.ref b), some (.ref e), some (.ref r), some (.int (nI (6 * (q + 1))))] [] (n', w', mH r G M') rr h1 → EX B D 100 mL_law 434 [some (.ref b), some (.ref e), some (.ref r), some (.int (nI (6 * q)))] [] (n, w, mH r g M) rr h1 := by
  obtain ⟨n', w', G, M', bk', c1, c2, c3, s2, s3⟩ := h.two (B := B) (D := D) hq (c_X6_some h.1 h.2.2.1 h.2.1.2.1.2.1 (xs (nI (6 * q) + 1).toNatClampNeg) (xs (nI (6 * q) + 2).toNatClampNeg)) (fun n' w' G hcap => m_some h.2.1 hcap (xs (nI (6 * q) + 1).toNatClampNeg) (xs (nI (6 * q) + 2).toNatClampNeg))
  have s1 := h.2.2.2.2.1
  have he1 := h.1.1
  have hinc : nI (6 * q) + Int32.ofInt 6 = nI (6 * (q + 1)) := nI_add (6 * q) 6
  refine ⟨_, n', w', G, M', bk', c3, fun rr h1 hk => ?_⟩
  refine px_aload_n dL_law_434 rfl ?_
  refine px_aload_n dL_law_435 rfl ?_
  refine px_iload_n dL_law_436 rfl ?_
  refine px_iconst (v := 1) dL_law_437 (by decide) ?_
  refine px_iadd dL_law_438 ?_
  refine px_saload dL_law_439 (by first | exact s1 | exact s2 | exact he1 | exact s3) (by first | exact ix_k 1 (by omega) hL hL2 | exact ix_k 2 (by omega) hL hL2 | exact ix_k 3 (by omega) hL hL2 | exact ix_k 4 (by omega) hL hL2 | exact ix_k 5 (by omega) hL hL2) ?_
  refine px_aload_n dL_law_440 rfl ?_
  refine px_iload_n dL_law_441 rfl ?_
  refine px_iconst (v := 2) dL_law_442 (by decide) ?_
  refine px_iadd dL_law_443 ?_
  refine px_saload dL_law_444 (by first | exact s1 | exact s2 | exact he1 | exact s3) (by first | exact ix_k 1 (by omega) hL hL2 | exact ix_k 2 (by omega) hL hL2 | exact ix_k 3 (by omega) hL hL2 | exact ix_k 4 (by omega) hL hL2 | exact ix_k 5 (by omega) hL hL2) ?_
  refine px_callV1 (ν := mX6_some) (ci := 6) rfl rfl lk_L_56 in_X6_some se_X6_some mok_X6_some dL_law_445 (c1) (by first | exact s1 | exact s2 | exact he1 | exact s3) rfl rfl (by omega) (by simp) ?_
  refine px_aload_n dL_law_448 rfl ?_
  refine px_aload_n dL_law_449 rfl ?_
  refine px_iload_n dL_law_450 rfl ?_
  refine px_iconst (v := 1) dL_law_451 (by decide) ?_
  refine px_iadd dL_law_452 ?_
  refine px_saload dL_law_453 (by first | exact s1 | exact s2 | exact he1 | exact s3) (by first | exact ix_k 1 (by omega) hL hL2 | exact ix_k 2 (by omega) hL hL2 | exact ix_k 3 (by omega) hL hL2 | exact ix_k 4 (by omega) hL hL2 | exact ix_k 5 (by omega) hL hL2) ?_
  refine px_aload_n dL_law_454 rfl ?_
  refine px_iload_n dL_law_455 rfl ?_
  refine px_iconst (v := 2) dL_law_456 (by decide) ?_
  refine px_iadd dL_law_457 ?_
  refine px_saload dL_law_458 (by first | exact s1 | exact s2 | exact he1 | exact s3) (by first | exact ix_k 1 (by omega) hL hL2 | exact ix_k 2 (by omega) hL hL2 | exact ix_k 3 (by omega) hL hL2 | exact ix_k 4 (by omega) hL hL2 | exact ix_k 5 (by omega) hL hL2) ?_
  refine px_callV1 (ν := mX7_some) (ci := 7) rfl rfl lk_L_59 in_X7_some se_X7_some mok_X7_some dL_law_459 (c2) (by first | exact s1 | exact s2 | exact he1 | exact s3) rfl rfl (by omega) (by simp) ?_
  refine px_icmp_eq (tgt := 1147) dL_law_462 (by decide) (fun hc462 => ?_) (fun hc462 => ?_)
  · refine px_iinc3 rfl hinc dL_law_1147 ?_
    refine px_goto (tgt := 18) dL_law_1150 (by decide) ?_
    exact hk
  · exact absurd rfl hc462
theorem w_tried (h : LI b L xs e r N0 W0 q C n w g M bk) (hq : q ≤ 511) (hL : 6 * q + 5 < L) (hL2 : L ≤ 3072) : ∃ (C' : CS) (n' w' : Nat) (G : Nat → Option va_E) (M' : MS) (bk' : BK), LI b L xs e r N0 W0 (q + 1) C' n' w' G M' bk' ∧ ∀ rr h1, EX B D 100 mL_law 18 [some (.ref b), some (.ref e), some (.ref r), some (.int (nI (6 * (q + 1))))] [] (n', w', mH r G M') rr h1 → EX B D 100 mL_law 467 [some (.ref b), some (.ref e), some (.ref r), some (.int (nI (6 * q)))] [] (n, w, mH r g M) rr h1 := by
  obtain ⟨n', w', G, M', bk', c1, c2, c3, s2, s3⟩ := h.two (B := B) (D := D) hq (c_X6_tried h.1 h.2.2.1 h.2.1.2.1.2.1 (xs (nI (6 * q) + 1).toNatClampNeg) (xs (nI (6 * q) + 2).toNatClampNeg) (xs (nI (6 * q) + 3).toNatClampNeg)) (fun n' w' G hcap => m_tried h.2.1 hcap (xs (nI (6 * q) + 1).toNatClampNeg) (xs (nI (6 * q) + 2).toNatClampNeg) (xs (nI (6 * q) + 3).toNatClampNeg))
  have s1 := h.2.2.2.2.1
  have he1 := h.1.1
  have hinc : nI (6 * q) + Int32.ofInt 6 = nI (6 * (q + 1)) := nI_add (6 * q) 6
  refine ⟨_, n', w', G, M', bk', c3, fun rr h1 hk => ?_⟩
  refine px_aload_n dL_law_467 rfl ?_
  refine px_aload_n dL_law_468 rfl ?_
  refine px_iload_n dL_law_469 rfl ?_
  refine px_iconst (v := 1) dL_law_470 (by decide) ?_
  refine px_iadd dL_law_471 ?_
  refine px_saload dL_law_472 (by first | exact s1 | exact s2 | exact he1 | exact s3) (by first | exact ix_k 1 (by omega) hL hL2 | exact ix_k 2 (by omega) hL hL2 | exact ix_k 3 (by omega) hL hL2 | exact ix_k 4 (by omega) hL hL2 | exact ix_k 5 (by omega) hL hL2) ?_
  refine px_aload_n dL_law_473 rfl ?_
  refine px_iload_n dL_law_474 rfl ?_
  refine px_iconst (v := 2) dL_law_475 (by decide) ?_
  refine px_iadd dL_law_476 ?_
  refine px_saload dL_law_477 (by first | exact s1 | exact s2 | exact he1 | exact s3) (by first | exact ix_k 1 (by omega) hL hL2 | exact ix_k 2 (by omega) hL hL2 | exact ix_k 3 (by omega) hL hL2 | exact ix_k 4 (by omega) hL hL2 | exact ix_k 5 (by omega) hL hL2) ?_
  refine px_aload_n dL_law_478 rfl ?_
  refine px_iload_n dL_law_479 rfl ?_
  refine px_iconst (v := 3) dL_law_480 (by decide) ?_
  refine px_iadd dL_law_481 ?_
  refine px_saload dL_law_482 (by first | exact s1 | exact s2 | exact he1 | exact s3) (by first | exact ix_k 1 (by omega) hL hL2 | exact ix_k 2 (by omega) hL hL2 | exact ix_k 3 (by omega) hL hL2 | exact ix_k 4 (by omega) hL hL2 | exact ix_k 5 (by omega) hL hL2) ?_
  refine px_callV1 (ν := mX6_tried) (ci := 6) rfl rfl lk_L_60 in_X6_tried se_X6_tried mok_X6_tried dL_law_483 (c1) (by first | exact s1 | exact s2 | exact he1 | exact s3) rfl rfl (by omega) (by simp) ?_
  refine px_aload_n dL_law_486 rfl ?_
  refine px_aload_n dL_law_487 rfl ?_
  refine px_iload_n dL_law_488 rfl ?_
  refine px_iconst (v := 1) dL_law_489 (by decide) ?_
  refine px_iadd dL_law_490 ?_
  refine px_saload dL_law_491 (by first | exact s1 | exact s2 | exact he1 | exact s3) (by first | exact ix_k 1 (by omega) hL hL2 | exact ix_k 2 (by omega) hL hL2 | exact ix_k 3 (by omega) hL hL2 | exact ix_k 4 (by omega) hL hL2 | exact ix_k 5 (by omega) hL hL2) ?_
  refine px_aload_n dL_law_492 rfl ?_
  refine px_iload_n dL_law_493 rfl ?_
  refine px_iconst (v := 2) dL_law_494 (by decide) ?_
  refine px_iadd dL_law_495 ?_
  refine px_saload dL_law_496 (by first | exact s1 | exact s2 | exact he1 | exact s3) (by first | exact ix_k 1 (by omega) hL hL2 | exact ix_k 2 (by omega) hL hL2 | exact ix_k 3 (by omega) hL hL2 | exact ix_k 4 (by omega) hL hL2 | exact ix_k 5 (by omega) hL hL2) ?_
  refine px_aload_n dL_law_497 rfl ?_
  refine px_iload_n dL_law_498 rfl ?_
  refine px_iconst (v := 3) dL_law_499 (by decide) ?_
  refine px_iadd dL_law_500 ?_
  refine px_saload dL_law_501 (by first | exact s1 | exact s2 | exact he1 | exact s3) (by first | exact ix_k 1 (by omega) hL hL2 | exact ix_k 2 (by omega) hL hL2 | exact ix_k 3 (by omega) hL hL2 | exact ix_k 4 (by omega) hL hL2 | exact ix_k 5 (by omega) hL hL2) ?_
  refine px_callV1 (ν := mX7_tried) (ci := 7) rfl rfl lk_L_64 in_X7_tried se_X7_tried mok_X7_tried dL_law_502 (c2) (by first | exact s1 | exact s2 | exact he1 | exact s3) rfl rfl (by omega) (by simp) ?_
  refine px_icmp_eq (tgt := 1147) dL_law_505 (by decide) (fun hc505 => ?_) (fun hc505 => ?_)
  · refine px_iinc3 rfl hinc dL_law_1147 ?_
    refine px_goto (tgt := 18) dL_law_1150 (by decide) ?_
    exact hk
  · exact absurd rfl hc505
theorem w_result (h : LI b L xs e r N0 W0 q C n w g M bk) (hq : q ≤ 511) (hL : 6 * q + 5 < L) (hL2 : L ≤ 3072) : ∃ (C' : CS) (n' w' : Nat) (G : Nat → Option va_E) (M' : MS) (bk' : BK), LI b L xs e r N0 W0 (q + 1) C' n' w' G M' bk' ∧ ∀ rr h1, EX B D 100 mL_law 18 [some (.ref b), some (.ref e), some (.ref r), some (.int (nI (6 * (q + 1))))] [] (n', w', mH r G M') rr h1 → EX B D 100 mL_law 510 [some (.ref b), some (.ref e), some (.ref r), some (.int (nI (6 * q)))] [] (n, w, mH r g M) rr h1 := by
  obtain ⟨n', w', G, M', bk', c1, c2, c3, s2, s3⟩ := h.two (B := B) (D := D) hq (look h.1 (c_X6_result h.1.1 h.1.2.1.w (xs (nI (6 * q) + 1).toNatClampNeg))) (fun n' w' G hcap => m_result h.2.1 hcap (xs (nI (6 * q) + 1).toNatClampNeg))
  have s1 := h.2.2.2.2.1
  have he1 := h.1.1
  have hinc : nI (6 * q) + Int32.ofInt 6 = nI (6 * (q + 1)) := nI_add (6 * q) 6
  refine ⟨_, n', w', G, M', bk', c3, fun rr h1 hk => ?_⟩
  refine px_aload_n dL_law_510 rfl ?_
  refine px_aload_n dL_law_511 rfl ?_
  refine px_iload_n dL_law_512 rfl ?_
  refine px_iconst (v := 1) dL_law_513 (by decide) ?_
  refine px_iadd dL_law_514 ?_
  refine px_saload dL_law_515 (by first | exact s1 | exact s2 | exact he1 | exact s3) (by first | exact ix_k 1 (by omega) hL hL2 | exact ix_k 2 (by omega) hL hL2 | exact ix_k 3 (by omega) hL hL2 | exact ix_k 4 (by omega) hL hL2 | exact ix_k 5 (by omega) hL hL2) ?_
  refine px_callV1 (ν := mX6_result) (ci := 6) rfl rfl lk_L_65 in_X6_result se_X6_result mok_X6_result dL_law_516 (c1) (by first | exact s1 | exact s2 | exact he1 | exact s3) rfl rfl (by omega) (by simp) ?_
  refine px_aload_n dL_law_519 rfl ?_
  refine px_aload_n dL_law_520 rfl ?_
  refine px_iload_n dL_law_521 rfl ?_
  refine px_iconst (v := 1) dL_law_522 (by decide) ?_
  refine px_iadd dL_law_523 ?_
  refine px_saload dL_law_524 (by first | exact s1 | exact s2 | exact he1 | exact s3) (by first | exact ix_k 1 (by omega) hL hL2 | exact ix_k 2 (by omega) hL hL2 | exact ix_k 3 (by omega) hL hL2 | exact ix_k 4 (by omega) hL hL2 | exact ix_k 5 (by omega) hL hL2) ?_
  refine px_callV1 (ν := mX7_result) (ci := 7) rfl rfl lk_L_68 in_X7_result se_X7_result mok_X7_result dL_law_525 (c2) (by first | exact s1 | exact s2 | exact he1 | exact s3) rfl rfl (by omega) (by simp) ?_
  refine px_icmp_eq (tgt := 1147) dL_law_528 (by decide) (fun hc528 => ?_) (fun hc528 => ?_)
  · refine px_iinc3 rfl hinc dL_law_1147 ?_
    refine px_goto (tgt := 18) dL_law_1150 (by decide) ?_
    exact hk
  · exact absurd rfl hc528
theorem w_failure (h : LI b L xs e r N0 W0 q C n w g M bk) (hq : q ≤ 511) (hL : 6 * q + 5 < L) (hL2 : L ≤ 3072) : ∃ (C' : CS) (n' w' : Nat) (G : Nat → Option va_E) (M' : MS) (bk' : BK), LI b L xs e r N0 W0 (q + 1) C' n' w' G M' bk' ∧ ∀ rr h1, EX B D 100 mL_law 18 [some (.ref b), some (.ref e), some (.ref r), some (.int (nI (6 * (q + 1))))] [] (n', w', mH r G M') rr h1 → EX B D 100 mL_law 533 [some (.ref b), some (.ref e), some (.ref r), some (.int (nI (6 * q)))] [] (n, w, mH r g M) rr h1 := by
  obtain ⟨n', w', G, M', bk', c1, c2, c3, s2, s3⟩ := h.two (B := B) (D := D) hq (look h.1 (c_X6_failure h.1.1 h.1.2.1.w (xs (nI (6 * q) + 1).toNatClampNeg) (xs (nI (6 * q) + 2).toNatClampNeg) (xs (nI (6 * q) + 3).toNatClampNeg))) (fun n' w' G hcap => m_failure h.2.1 (xs (nI (6 * q) + 1).toNatClampNeg) (xs (nI (6 * q) + 2).toNatClampNeg) (xs (nI (6 * q) + 3).toNatClampNeg))
  have s1 := h.2.2.2.2.1
  have he1 := h.1.1
  have hinc : nI (6 * q) + Int32.ofInt 6 = nI (6 * (q + 1)) := nI_add (6 * q) 6
  refine ⟨_, n', w', G, M', bk', c3, fun rr h1 hk => ?_⟩
  refine px_aload_n dL_law_533 rfl ?_
  refine px_aload_n dL_law_534 rfl ?_
  refine px_iload_n dL_law_535 rfl ?_
  refine px_iconst (v := 1) dL_law_536 (by decide) ?_
  refine px_iadd dL_law_537 ?_
  refine px_saload dL_law_538 (by first | exact s1 | exact s2 | exact he1 | exact s3) (by first | exact ix_k 1 (by omega) hL hL2 | exact ix_k 2 (by omega) hL hL2 | exact ix_k 3 (by omega) hL hL2 | exact ix_k 4 (by omega) hL hL2 | exact ix_k 5 (by omega) hL hL2) ?_
  refine px_aload_n dL_law_539 rfl ?_
  refine px_iload_n dL_law_540 rfl ?_
  refine px_iconst (v := 2) dL_law_541 (by decide) ?_
  refine px_iadd dL_law_542 ?_
  refine px_saload dL_law_543 (by first | exact s1 | exact s2 | exact he1 | exact s3) (by first | exact ix_k 1 (by omega) hL hL2 | exact ix_k 2 (by omega) hL hL2 | exact ix_k 3 (by omega) hL hL2 | exact ix_k 4 (by omega) hL hL2 | exact ix_k 5 (by omega) hL hL2) ?_
  refine px_aload_n dL_law_544 rfl ?_
  refine px_iload_n dL_law_545 rfl ?_
  refine px_iconst (v := 3) dL_law_546 (by decide) ?_
  refine px_iadd dL_law_547 ?_
  refine px_saload dL_law_548 (by first | exact s1 | exact s2 | exact he1 | exact s3) (by first | exact ix_k 1 (by omega) hL hL2 | exact ix_k 2 (by omega) hL hL2 | exact ix_k 3 (by omega) hL hL2 | exact ix_k 4 (by omega) hL hL2 | exact ix_k 5 (by omega) hL hL2) ?_
  refine px_callV1 (ν := mX6_failure) (ci := 6) rfl rfl lk_L_69 in_X6_failure se_X6_failure mok_X6_failure dL_law_549 (c1) (by first | exact s1 | exact s2 | exact he1 | exact s3) rfl rfl (by omega) (by simp) ?_
  refine px_aload_n dL_law_552 rfl ?_
  refine px_aload_n dL_law_553 rfl ?_
  refine px_iload_n dL_law_554 rfl ?_
  refine px_iconst (v := 1) dL_law_555 (by decide) ?_
  refine px_iadd dL_law_556 ?_
  refine px_saload dL_law_557 (by first | exact s1 | exact s2 | exact he1 | exact s3) (by first | exact ix_k 1 (by omega) hL hL2 | exact ix_k 2 (by omega) hL hL2 | exact ix_k 3 (by omega) hL hL2 | exact ix_k 4 (by omega) hL hL2 | exact ix_k 5 (by omega) hL hL2) ?_
  refine px_aload_n dL_law_558 rfl ?_
  refine px_iload_n dL_law_559 rfl ?_
  refine px_iconst (v := 2) dL_law_560 (by decide) ?_
  refine px_iadd dL_law_561 ?_
  refine px_saload dL_law_562 (by first | exact s1 | exact s2 | exact he1 | exact s3) (by first | exact ix_k 1 (by omega) hL hL2 | exact ix_k 2 (by omega) hL hL2 | exact ix_k 3 (by omega) hL hL2 | exact ix_k 4 (by omega) hL hL2 | exact ix_k 5 (by omega) hL hL2) ?_
  refine px_aload_n dL_law_563 rfl ?_
  refine px_iload_n dL_law_564 rfl ?_
  refine px_iconst (v := 3) dL_law_565 (by decide) ?_
  refine px_iadd dL_law_566 ?_
  refine px_saload dL_law_567 (by first | exact s1 | exact s2 | exact he1 | exact s3) (by first | exact ix_k 1 (by omega) hL hL2 | exact ix_k 2 (by omega) hL hL2 | exact ix_k 3 (by omega) hL hL2 | exact ix_k 4 (by omega) hL hL2 | exact ix_k 5 (by omega) hL hL2) ?_
  refine px_callV1 (ν := mX7_failure) (ci := 7) rfl rfl lk_L_72 in_X7_failure se_X7_failure mok_X7_failure dL_law_568 (c2) (by first | exact s1 | exact s2 | exact he1 | exact s3) rfl rfl (by omega) (by simp) ?_
  refine px_icmp_eq (tgt := 1147) dL_law_571 (by decide) (fun hc571 => ?_) (fun hc571 => ?_)
  · refine px_iinc3 rfl hinc dL_law_1147 ?_
    refine px_goto (tgt := 18) dL_law_1150 (by decide) ?_
    exact hk
  · exact absurd rfl hc571
theorem w_causes (h : LI b L xs e r N0 W0 q C n w g M bk) (hq : q ≤ 511) (hL : 6 * q + 5 < L) (hL2 : L ≤ 3072) : ∃ (C' : CS) (n' w' : Nat) (G : Nat → Option va_E) (M' : MS) (bk' : BK), LI b L xs e r N0 W0 (q + 1) C' n' w' G M' bk' ∧ ∀ rr h1, EX B D 100 mL_law 18 [some (.ref b), some (.ref e), some (.ref r), some (.int (nI (6 * (q + 1))))] [] (n', w', mH r G M') rr h1 → EX B D 100 mL_law 576 [some (.ref b), some (.ref e), some (.ref r), some (.int (nI (6 * q)))] [] (n, w, mH r g M) rr h1 := by
  obtain ⟨n', w', G, M', bk', c1, c2, c3, s2, s3⟩ := h.two (B := B) (D := D) hq (look h.1 (c_X6_causes h.1.1 h.1.2.1.w (xs (nI (6 * q) + 1).toNatClampNeg))) (fun n' w' G hcap => m_causes h.2.1 (xs (nI (6 * q) + 1).toNatClampNeg))
  have s1 := h.2.2.2.2.1
  have he1 := h.1.1
  have hinc : nI (6 * q) + Int32.ofInt 6 = nI (6 * (q + 1)) := nI_add (6 * q) 6
  refine ⟨_, n', w', G, M', bk', c3, fun rr h1 hk => ?_⟩
  refine px_aload_n dL_law_576 rfl ?_
  refine px_aload_n dL_law_577 rfl ?_
  refine px_iload_n dL_law_578 rfl ?_
  refine px_iconst (v := 1) dL_law_579 (by decide) ?_
  refine px_iadd dL_law_580 ?_
  refine px_saload dL_law_581 (by first | exact s1 | exact s2 | exact he1 | exact s3) (by first | exact ix_k 1 (by omega) hL hL2 | exact ix_k 2 (by omega) hL hL2 | exact ix_k 3 (by omega) hL hL2 | exact ix_k 4 (by omega) hL hL2 | exact ix_k 5 (by omega) hL hL2) ?_
  refine px_callV1 (ν := mX6_causes) (ci := 6) rfl rfl lk_L_73 in_X6_causes se_X6_causes mok_X6_causes dL_law_582 (c1) (by first | exact s1 | exact s2 | exact he1 | exact s3) rfl rfl (by omega) (by simp) ?_
  refine px_aload_n dL_law_585 rfl ?_
  refine px_aload_n dL_law_586 rfl ?_
  refine px_iload_n dL_law_587 rfl ?_
  refine px_iconst (v := 1) dL_law_588 (by decide) ?_
  refine px_iadd dL_law_589 ?_
  refine px_saload dL_law_590 (by first | exact s1 | exact s2 | exact he1 | exact s3) (by first | exact ix_k 1 (by omega) hL hL2 | exact ix_k 2 (by omega) hL hL2 | exact ix_k 3 (by omega) hL hL2 | exact ix_k 4 (by omega) hL hL2 | exact ix_k 5 (by omega) hL hL2) ?_
  refine px_callV1 (ν := mX7_causes) (ci := 7) rfl rfl lk_L_76 in_X7_causes se_X7_causes mok_X7_causes dL_law_591 (c2) (by first | exact s1 | exact s2 | exact he1 | exact s3) rfl rfl (by omega) (by simp) ?_
  refine px_icmp_eq (tgt := 1147) dL_law_594 (by decide) (fun hc594 => ?_) (fun hc594 => ?_)
  · refine px_iinc3 rfl hinc dL_law_1147 ?_
    refine px_goto (tgt := 18) dL_law_1150 (by decide) ?_
    exact hk
  · exact absurd rfl hc594
theorem w_root (h : LI b L xs e r N0 W0 q C n w g M bk) (hq : q ≤ 511) (hL : 6 * q + 5 < L) (hL2 : L ≤ 3072) : ∃ (C' : CS) (n' w' : Nat) (G : Nat → Option va_E) (M' : MS) (bk' : BK), LI b L xs e r N0 W0 (q + 1) C' n' w' G M' bk' ∧ ∀ rr h1, EX B D 100 mL_law 18 [some (.ref b), some (.ref e), some (.ref r), some (.int (nI (6 * (q + 1))))] [] (n', w', mH r G M') rr h1 → EX B D 100 mL_law 599 [some (.ref b), some (.ref e), some (.ref r), some (.int (nI (6 * q)))] [] (n, w, mH r g M) rr h1 := by
  obtain ⟨n', w', G, M', bk', c1, c2, c3, s2, s3⟩ := h.two (B := B) (D := D) hq (look h.1 (c_X6_root h.1.1 h.1.2.1.w (xs (nI (6 * q) + 1).toNatClampNeg))) (fun n' w' G hcap => m_root h.2.1 (xs (nI (6 * q) + 1).toNatClampNeg))
  have s1 := h.2.2.2.2.1
  have he1 := h.1.1
  have hinc : nI (6 * q) + Int32.ofInt 6 = nI (6 * (q + 1)) := nI_add (6 * q) 6
  refine ⟨_, n', w', G, M', bk', c3, fun rr h1 hk => ?_⟩
  refine px_aload_n dL_law_599 rfl ?_
  refine px_aload_n dL_law_600 rfl ?_
  refine px_iload_n dL_law_601 rfl ?_
  refine px_iconst (v := 1) dL_law_602 (by decide) ?_
  refine px_iadd dL_law_603 ?_
  refine px_saload dL_law_604 (by first | exact s1 | exact s2 | exact he1 | exact s3) (by first | exact ix_k 1 (by omega) hL hL2 | exact ix_k 2 (by omega) hL hL2 | exact ix_k 3 (by omega) hL hL2 | exact ix_k 4 (by omega) hL hL2 | exact ix_k 5 (by omega) hL hL2) ?_
  refine px_callV1 (ν := mX6_root) (ci := 6) rfl rfl lk_L_77 in_X6_root se_X6_root mok_X6_root dL_law_605 (c1) (by first | exact s1 | exact s2 | exact he1 | exact s3) rfl rfl (by omega) (by simp) ?_
  refine px_aload_n dL_law_608 rfl ?_
  refine px_aload_n dL_law_609 rfl ?_
  refine px_iload_n dL_law_610 rfl ?_
  refine px_iconst (v := 1) dL_law_611 (by decide) ?_
  refine px_iadd dL_law_612 ?_
  refine px_saload dL_law_613 (by first | exact s1 | exact s2 | exact he1 | exact s3) (by first | exact ix_k 1 (by omega) hL hL2 | exact ix_k 2 (by omega) hL hL2 | exact ix_k 3 (by omega) hL hL2 | exact ix_k 4 (by omega) hL hL2 | exact ix_k 5 (by omega) hL hL2) ?_
  refine px_callV1 (ν := mX7_root) (ci := 7) rfl rfl lk_L_80 in_X7_root se_X7_root mok_X7_root dL_law_614 (c2) (by first | exact s1 | exact s2 | exact he1 | exact s3) rfl rfl (by omega) (by simp) ?_
  refine px_icmp_eq (tgt := 1147) dL_law_617 (by decide) (fun hc617 => ?_) (fun hc617 => ?_)
  · refine px_iinc3 rfl hinc dL_law_1147 ?_
    refine px_goto (tgt := 18) dL_law_1150 (by decide) ?_
    exact hk
  · exact absurd rfl hc617
theorem w_blamed (h : LI b L xs e r N0 W0 q C n w g M bk) (hq : q ≤ 511) (hL : 6 * q + 5 < L) (hL2 : L ≤ 3072) : ∃ (C' : CS) (n' w' : Nat) (G : Nat → Option va_E) (M' : MS) (bk' : BK), LI b L xs e r N0 W0 (q + 1) C' n' w' G M' bk' ∧ ∀ rr h1, EX B D 100 mL_law 18 [some (.ref b), some (.ref e), some (.ref r), some (.int (nI (6 * (q + 1))))] [] (n', w', mH r G M') rr h1 → EX B D 100 mL_law 622 [some (.ref b), some (.ref e), some (.ref r), some (.int (nI (6 * q)))] [] (n, w, mH r g M) rr h1 := by
  obtain ⟨n', w', G, M', bk', c1, c2, c3, s2, s3⟩ := h.two (B := B) (D := D) hq (look h.1 (c_X6_blamed h.1.1 h.1.2.1.w (xs (nI (6 * q) + 1).toNatClampNeg))) (fun n' w' G hcap => m_blamed h.2.1 (xs (nI (6 * q) + 1).toNatClampNeg))
  have s1 := h.2.2.2.2.1
  have he1 := h.1.1
  have hinc : nI (6 * q) + Int32.ofInt 6 = nI (6 * (q + 1)) := nI_add (6 * q) 6
  refine ⟨_, n', w', G, M', bk', c3, fun rr h1 hk => ?_⟩
  refine px_aload_n dL_law_622 rfl ?_
  refine px_aload_n dL_law_623 rfl ?_
  refine px_iload_n dL_law_624 rfl ?_
  refine px_iconst (v := 1) dL_law_625 (by decide) ?_
  refine px_iadd dL_law_626 ?_
  refine px_saload dL_law_627 (by first | exact s1 | exact s2 | exact he1 | exact s3) (by first | exact ix_k 1 (by omega) hL hL2 | exact ix_k 2 (by omega) hL hL2 | exact ix_k 3 (by omega) hL hL2 | exact ix_k 4 (by omega) hL hL2 | exact ix_k 5 (by omega) hL hL2) ?_
  refine px_callV1 (ν := mX6_blamed) (ci := 6) rfl rfl lk_L_81 in_X6_blamed se_X6_blamed mok_X6_blamed dL_law_628 (c1) (by first | exact s1 | exact s2 | exact he1 | exact s3) rfl rfl (by omega) (by simp) ?_
  refine px_aload_n dL_law_631 rfl ?_
  refine px_aload_n dL_law_632 rfl ?_
  refine px_iload_n dL_law_633 rfl ?_
  refine px_iconst (v := 1) dL_law_634 (by decide) ?_
  refine px_iadd dL_law_635 ?_
  refine px_saload dL_law_636 (by first | exact s1 | exact s2 | exact he1 | exact s3) (by first | exact ix_k 1 (by omega) hL hL2 | exact ix_k 2 (by omega) hL hL2 | exact ix_k 3 (by omega) hL hL2 | exact ix_k 4 (by omega) hL hL2 | exact ix_k 5 (by omega) hL hL2) ?_
  refine px_callV1 (ν := mX7_blamed) (ci := 7) rfl rfl lk_L_84 in_X7_blamed se_X7_blamed mok_X7_blamed dL_law_637 (c2) (by first | exact s1 | exact s2 | exact he1 | exact s3) rfl rfl (by omega) (by simp) ?_
  refine px_icmp_eq (tgt := 1147) dL_law_640 (by decide) (fun hc640 => ?_) (fun hc640 => ?_)
  · refine px_iinc3 rfl hinc dL_law_1147 ?_
    refine px_goto (tgt := 18) dL_law_1150 (by decide) ?_
    exact hk
  · exact absurd rfl hc640
theorem w_trace (h : LI b L xs e r N0 W0 q C n w g M bk) (hq : q ≤ 511) (hL : 6 * q + 5 < L) (hL2 : L ≤ 3072) : ∃ (C' : CS) (n' w' : Nat) (G : Nat → Option va_E) (M' : MS) (bk' : BK), LI b L xs e r N0 W0 (q + 1) C' n' w' G M' bk' ∧ ∀ rr h1, EX B D 100 mL_law 18 [some (.ref b), some (.ref e), some (.ref r), some (.int (nI (6 * (q + 1))))] [] (n', w', mH r G M') rr h1 → EX B D 100 mL_law 645 [some (.ref b), some (.ref e), some (.ref r), some (.int (nI (6 * q)))] [] (n, w, mH r g M) rr h1 := by
  obtain ⟨n', w', G, M', bk', c1, c2, c3, s2, s3⟩ := h.two (B := B) (D := D) hq (look h.1 (c_X6_trace h.1.1 h.1.2.1.w (xs (nI (6 * q) + 1).toNatClampNeg) (xs (nI (6 * q) + 2).toNatClampNeg))) (fun n' w' G hcap => m_trace h.2.1 (xs (nI (6 * q) + 1).toNatClampNeg) (xs (nI (6 * q) + 2).toNatClampNeg))
  have s1 := h.2.2.2.2.1
  have he1 := h.1.1
  have hinc : nI (6 * q) + Int32.ofInt 6 = nI (6 * (q + 1)) := nI_add (6 * q) 6
  refine ⟨_, n', w', G, M', bk', c3, fun rr h1 hk => ?_⟩
  refine px_aload_n dL_law_645 rfl ?_
  refine px_aload_n dL_law_646 rfl ?_
  refine px_iload_n dL_law_647 rfl ?_
  refine px_iconst (v := 1) dL_law_648 (by decide) ?_
  refine px_iadd dL_law_649 ?_
  refine px_saload dL_law_650 (by first | exact s1 | exact s2 | exact he1 | exact s3) (by first | exact ix_k 1 (by omega) hL hL2 | exact ix_k 2 (by omega) hL hL2 | exact ix_k 3 (by omega) hL hL2 | exact ix_k 4 (by omega) hL hL2 | exact ix_k 5 (by omega) hL hL2) ?_
  refine px_aload_n dL_law_651 rfl ?_
  refine px_iload_n dL_law_652 rfl ?_
  refine px_iconst (v := 2) dL_law_653 (by decide) ?_
  refine px_iadd dL_law_654 ?_
  refine px_saload dL_law_655 (by first | exact s1 | exact s2 | exact he1 | exact s3) (by first | exact ix_k 1 (by omega) hL hL2 | exact ix_k 2 (by omega) hL hL2 | exact ix_k 3 (by omega) hL hL2 | exact ix_k 4 (by omega) hL hL2 | exact ix_k 5 (by omega) hL hL2) ?_
  refine px_callV1 (ν := mX6_trace) (ci := 6) rfl rfl lk_L_85 in_X6_trace se_X6_trace mok_X6_trace dL_law_656 (c1) (by first | exact s1 | exact s2 | exact he1 | exact s3) rfl rfl (by omega) (by simp) ?_
  refine px_aload_n dL_law_659 rfl ?_
  refine px_aload_n dL_law_660 rfl ?_
  refine px_iload_n dL_law_661 rfl ?_
  refine px_iconst (v := 1) dL_law_662 (by decide) ?_
  refine px_iadd dL_law_663 ?_
  refine px_saload dL_law_664 (by first | exact s1 | exact s2 | exact he1 | exact s3) (by first | exact ix_k 1 (by omega) hL hL2 | exact ix_k 2 (by omega) hL hL2 | exact ix_k 3 (by omega) hL hL2 | exact ix_k 4 (by omega) hL hL2 | exact ix_k 5 (by omega) hL hL2) ?_
  refine px_aload_n dL_law_665 rfl ?_
  refine px_iload_n dL_law_666 rfl ?_
  refine px_iconst (v := 2) dL_law_667 (by decide) ?_
  refine px_iadd dL_law_668 ?_
  refine px_saload dL_law_669 (by first | exact s1 | exact s2 | exact he1 | exact s3) (by first | exact ix_k 1 (by omega) hL hL2 | exact ix_k 2 (by omega) hL hL2 | exact ix_k 3 (by omega) hL hL2 | exact ix_k 4 (by omega) hL hL2 | exact ix_k 5 (by omega) hL hL2) ?_
  refine px_callV1 (ν := mX7_trace) (ci := 7) rfl rfl lk_L_88 in_X7_trace se_X7_trace mok_X7_trace dL_law_670 (c2) (by first | exact s1 | exact s2 | exact he1 | exact s3) rfl rfl (by omega) (by simp) ?_
  refine px_icmp_eq (tgt := 1147) dL_law_673 (by decide) (fun hc673 => ?_) (fun hc673 => ?_)
  · refine px_iinc3 rfl hinc dL_law_1147 ?_
    refine px_goto (tgt := 18) dL_law_1150 (by decide) ?_
    exact hk
  · exact absurd rfl hc673
theorem w_seen (h : LI b L xs e r N0 W0 q C n w g M bk) (hq : q ≤ 511) (hL : 6 * q + 5 < L) (hL2 : L ≤ 3072) : ∃ (C' : CS) (n' w' : Nat) (G : Nat → Option va_E) (M' : MS) (bk' : BK), LI b L xs e r N0 W0 (q + 1) C' n' w' G M' bk' ∧ ∀ rr h1, EX B D 100 mL_law 18 [some (.ref b), some (.ref e), some (.ref r), some (.int (nI (6 * (q + 1))))] [] (n', w', mH r G M') rr h1 → EX B D 100 mL_law 678 [some (.ref b), some (.ref e), some (.ref r), some (.int (nI (6 * q)))] [] (n, w, mH r g M) rr h1 := by
  obtain ⟨n', w', G, M', bk', c1, c2, c3, s2, s3⟩ := h.two (B := B) (D := D) hq (look h.1 (c_X6_seen h.1.1 h.1.2.1.w (xs (nI (6 * q) + 1).toNatClampNeg) (xs (nI (6 * q) + 2).toNatClampNeg))) (fun n' w' G hcap => m_seen h.2.1 (xs (nI (6 * q) + 1).toNatClampNeg) (xs (nI (6 * q) + 2).toNatClampNeg))
  have s1 := h.2.2.2.2.1
  have he1 := h.1.1
  have hinc : nI (6 * q) + Int32.ofInt 6 = nI (6 * (q + 1)) := nI_add (6 * q) 6
  refine ⟨_, n', w', G, M', bk', c3, fun rr h1 hk => ?_⟩
  refine px_aload_n dL_law_678 rfl ?_
  refine px_aload_n dL_law_679 rfl ?_
  refine px_iload_n dL_law_680 rfl ?_
  refine px_iconst (v := 1) dL_law_681 (by decide) ?_
  refine px_iadd dL_law_682 ?_
  refine px_saload dL_law_683 (by first | exact s1 | exact s2 | exact he1 | exact s3) (by first | exact ix_k 1 (by omega) hL hL2 | exact ix_k 2 (by omega) hL hL2 | exact ix_k 3 (by omega) hL hL2 | exact ix_k 4 (by omega) hL hL2 | exact ix_k 5 (by omega) hL hL2) ?_
  refine px_aload_n dL_law_684 rfl ?_
  refine px_iload_n dL_law_685 rfl ?_
  refine px_iconst (v := 2) dL_law_686 (by decide) ?_
  refine px_iadd dL_law_687 ?_
  refine px_saload dL_law_688 (by first | exact s1 | exact s2 | exact he1 | exact s3) (by first | exact ix_k 1 (by omega) hL hL2 | exact ix_k 2 (by omega) hL hL2 | exact ix_k 3 (by omega) hL hL2 | exact ix_k 4 (by omega) hL hL2 | exact ix_k 5 (by omega) hL hL2) ?_
  refine px_callV1 (ν := mX6_seen) (ci := 6) rfl rfl lk_L_89 in_X6_seen se_X6_seen mok_X6_seen dL_law_689 (c1) (by first | exact s1 | exact s2 | exact he1 | exact s3) rfl rfl (by omega) (by simp) ?_
  refine px_aload_n dL_law_692 rfl ?_
  refine px_aload_n dL_law_693 rfl ?_
  refine px_iload_n dL_law_694 rfl ?_
  refine px_iconst (v := 1) dL_law_695 (by decide) ?_
  refine px_iadd dL_law_696 ?_
  refine px_saload dL_law_697 (by first | exact s1 | exact s2 | exact he1 | exact s3) (by first | exact ix_k 1 (by omega) hL hL2 | exact ix_k 2 (by omega) hL hL2 | exact ix_k 3 (by omega) hL hL2 | exact ix_k 4 (by omega) hL hL2 | exact ix_k 5 (by omega) hL hL2) ?_
  refine px_aload_n dL_law_698 rfl ?_
  refine px_iload_n dL_law_699 rfl ?_
  refine px_iconst (v := 2) dL_law_700 (by decide) ?_
  refine px_iadd dL_law_701 ?_
  refine px_saload dL_law_702 (by first | exact s1 | exact s2 | exact he1 | exact s3) (by first | exact ix_k 1 (by omega) hL hL2 | exact ix_k 2 (by omega) hL hL2 | exact ix_k 3 (by omega) hL hL2 | exact ix_k 4 (by omega) hL hL2 | exact ix_k 5 (by omega) hL hL2) ?_
  refine px_callV1 (ν := mX7_seen) (ci := 7) rfl rfl lk_L_92 in_X7_seen se_X7_seen mok_X7_seen dL_law_703 (c2) (by first | exact s1 | exact s2 | exact he1 | exact s3) rfl rfl (by omega) (by simp) ?_
  refine px_icmp_eq (tgt := 1147) dL_law_706 (by decide) (fun hc706 => ?_) (fun hc706 => ?_)
  · refine px_iinc3 rfl hinc dL_law_1147 ?_
    refine px_goto (tgt := 18) dL_law_1150 (by decide) ?_
    exact hk
  · exact absurd rfl hc706
theorem w_users (h : LI b L xs e r N0 W0 q C n w g M bk) (hq : q ≤ 511) (hL : 6 * q + 5 < L) (hL2 : L ≤ 3072) : ∃ (C' : CS) (n' w' : Nat) (G : Nat → Option va_E) (M' : MS) (bk' : BK), LI b L xs e r N0 W0 (q + 1) C' n' w' G M' bk' ∧ ∀ rr h1, EX B D 100 mL_law 18 [some (.ref b), some (.ref e), some (.ref r), some (.int (nI (6 * (q + 1))))] [] (n', w', mH r G M') rr h1 → EX B D 100 mL_law 711 [some (.ref b), some (.ref e), some (.ref r), some (.int (nI (6 * q)))] [] (n, w, mH r g M) rr h1 := by
  obtain ⟨n', w', G, M', bk', c1, c2, c3, s2, s3⟩ := h.two (B := B) (D := D) hq (look h.1 (c_X6_users h.1.1 h.1.2.1.w (xs (nI (6 * q) + 1).toNatClampNeg))) (fun n' w' G hcap => m_users h.2.1 (xs (nI (6 * q) + 1).toNatClampNeg))
  have s1 := h.2.2.2.2.1
  have he1 := h.1.1
  have hinc : nI (6 * q) + Int32.ofInt 6 = nI (6 * (q + 1)) := nI_add (6 * q) 6
  refine ⟨_, n', w', G, M', bk', c3, fun rr h1 hk => ?_⟩
  refine px_aload_n dL_law_711 rfl ?_
  refine px_aload_n dL_law_712 rfl ?_
  refine px_iload_n dL_law_713 rfl ?_
  refine px_iconst (v := 1) dL_law_714 (by decide) ?_
  refine px_iadd dL_law_715 ?_
  refine px_saload dL_law_716 (by first | exact s1 | exact s2 | exact he1 | exact s3) (by first | exact ix_k 1 (by omega) hL hL2 | exact ix_k 2 (by omega) hL hL2 | exact ix_k 3 (by omega) hL hL2 | exact ix_k 4 (by omega) hL hL2 | exact ix_k 5 (by omega) hL hL2) ?_
  refine px_callV1 (ν := mX6_users) (ci := 6) rfl rfl lk_L_93 in_X6_users se_X6_users mok_X6_users dL_law_717 (c1) (by first | exact s1 | exact s2 | exact he1 | exact s3) rfl rfl (by omega) (by simp) ?_
  refine px_aload_n dL_law_720 rfl ?_
  refine px_aload_n dL_law_721 rfl ?_
  refine px_iload_n dL_law_722 rfl ?_
  refine px_iconst (v := 1) dL_law_723 (by decide) ?_
  refine px_iadd dL_law_724 ?_
  refine px_saload dL_law_725 (by first | exact s1 | exact s2 | exact he1 | exact s3) (by first | exact ix_k 1 (by omega) hL hL2 | exact ix_k 2 (by omega) hL hL2 | exact ix_k 3 (by omega) hL hL2 | exact ix_k 4 (by omega) hL hL2 | exact ix_k 5 (by omega) hL hL2) ?_
  refine px_callV1 (ν := mX7_users) (ci := 7) rfl rfl lk_L_96 in_X7_users se_X7_users mok_X7_users dL_law_726 (c2) (by first | exact s1 | exact s2 | exact he1 | exact s3) rfl rfl (by omega) (by simp) ?_
  refine px_icmp_eq (tgt := 1147) dL_law_729 (by decide) (fun hc729 => ?_) (fun hc729 => ?_)
  · refine px_iinc3 rfl hinc dL_law_1147 ?_
    refine px_goto (tgt := 18) dL_law_1150 (by decide) ?_
    exact hk
  · exact absurd rfl hc729
theorem w_depth (h : LI b L xs e r N0 W0 q C n w g M bk) (hq : q ≤ 511) (hL : 6 * q + 5 < L) (hL2 : L ≤ 3072) : ∃ (C' : CS) (n' w' : Nat) (G : Nat → Option va_E) (M' : MS) (bk' : BK), LI b L xs e r N0 W0 (q + 1) C' n' w' G M' bk' ∧ ∀ rr h1, EX B D 100 mL_law 18 [some (.ref b), some (.ref e), some (.ref r), some (.int (nI (6 * (q + 1))))] [] (n', w', mH r G M') rr h1 → EX B D 100 mL_law 734 [some (.ref b), some (.ref e), some (.ref r), some (.int (nI (6 * q)))] [] (n, w, mH r g M) rr h1 := by
  obtain ⟨n', w', G, M', bk', c1, c2, c3, s2, s3⟩ := h.two (B := B) (D := D) hq (some3 (e_depth h.1 h.2.2.1 (WI.ok h.2.1.2.1.2).1 (WI.ok h.2.1.2.1.2).2 (xs (nI (6 * q) + 1).toNatClampNeg))) (fun n' w' G hcap => m_depth h.2.1 (xs (nI (6 * q) + 1).toNatClampNeg))
  have s1 := h.2.2.2.2.1
  have he1 := h.1.1
  have hinc : nI (6 * q) + Int32.ofInt 6 = nI (6 * (q + 1)) := nI_add (6 * q) 6
  refine ⟨_, n', w', G, M', bk', c3, fun rr h1 hk => ?_⟩
  refine px_aload_n dL_law_734 rfl ?_
  refine px_aload_n dL_law_735 rfl ?_
  refine px_iload_n dL_law_736 rfl ?_
  refine px_iconst (v := 1) dL_law_737 (by decide) ?_
  refine px_iadd dL_law_738 ?_
  refine px_saload dL_law_739 (by first | exact s1 | exact s2 | exact he1 | exact s3) (by first | exact ix_k 1 (by omega) hL hL2 | exact ix_k 2 (by omega) hL hL2 | exact ix_k 3 (by omega) hL hL2 | exact ix_k 4 (by omega) hL hL2 | exact ix_k 5 (by omega) hL hL2) ?_
  refine px_callV1 (ν := mX6_depth) (ci := 6) rfl rfl lk_L_97 in_X6_depth se_X6_depth mok_X6_depth dL_law_740 (c1) (by first | exact s1 | exact s2 | exact he1 | exact s3) rfl rfl (by omega) (by simp) ?_
  refine px_aload_n dL_law_743 rfl ?_
  refine px_aload_n dL_law_744 rfl ?_
  refine px_iload_n dL_law_745 rfl ?_
  refine px_iconst (v := 1) dL_law_746 (by decide) ?_
  refine px_iadd dL_law_747 ?_
  refine px_saload dL_law_748 (by first | exact s1 | exact s2 | exact he1 | exact s3) (by first | exact ix_k 1 (by omega) hL hL2 | exact ix_k 2 (by omega) hL hL2 | exact ix_k 3 (by omega) hL hL2 | exact ix_k 4 (by omega) hL hL2 | exact ix_k 5 (by omega) hL hL2) ?_
  refine px_callV1 (ν := mX7_depth) (ci := 7) rfl rfl lk_L_100 in_X7_depth se_X7_depth mok_X7_depth dL_law_749 (c2) (by first | exact s1 | exact s2 | exact he1 | exact s3) rfl rfl (by omega) (by simp) ?_
  refine px_icmp_eq (tgt := 1147) dL_law_752 (by decide) (fun hc752 => ?_) (fun hc752 => ?_)
  · refine px_iinc3 rfl hinc dL_law_1147 ?_
    refine px_goto (tgt := 18) dL_law_1150 (by decide) ?_
    exact hk
  · exact absurd rfl hc752
theorem w_order (h : LI b L xs e r N0 W0 q C n w g M bk) (hq : q ≤ 511) (hL : 6 * q + 5 < L) (hL2 : L ≤ 3072) : ∃ (C' : CS) (n' w' : Nat) (G : Nat → Option va_E) (M' : MS) (bk' : BK), LI b L xs e r N0 W0 (q + 1) C' n' w' G M' bk' ∧ ∀ rr h1, EX B D 100 mL_law 18 [some (.ref b), some (.ref e), some (.ref r), some (.int (nI (6 * (q + 1))))] [] (n', w', mH r G M') rr h1 → EX B D 100 mL_law 757 [some (.ref b), some (.ref e), some (.ref r), some (.int (nI (6 * q)))] [] (n, w, mH r g M) rr h1 := by
  obtain ⟨n', w', G, M', bk', c1, c2, c3, s2, s3⟩ := h.two (B := B) (D := D) hq (look h.1 (c_X6_order h.1 (xs (nI (6 * q) + 1).toNatClampNeg))) (fun n' w' G hcap => m_order h.2.1 (xs (nI (6 * q) + 1).toNatClampNeg))
  have s1 := h.2.2.2.2.1
  have he1 := h.1.1
  have hinc : nI (6 * q) + Int32.ofInt 6 = nI (6 * (q + 1)) := nI_add (6 * q) 6
  refine ⟨_, n', w', G, M', bk', c3, fun rr h1 hk => ?_⟩
  refine px_aload_n dL_law_757 rfl ?_
  refine px_aload_n dL_law_758 rfl ?_
  refine px_iload_n dL_law_759 rfl ?_
  refine px_iconst (v := 1) dL_law_760 (by decide) ?_
  refine px_iadd dL_law_761 ?_
  refine px_saload dL_law_762 (by first | exact s1 | exact s2 | exact he1 | exact s3) (by first | exact ix_k 1 (by omega) hL hL2 | exact ix_k 2 (by omega) hL hL2 | exact ix_k 3 (by omega) hL hL2 | exact ix_k 4 (by omega) hL hL2 | exact ix_k 5 (by omega) hL hL2) ?_
  refine px_callV1 (ν := mX6_order) (ci := 6) rfl rfl lk_L_101 in_X6_order se_X6_order mok_X6_order dL_law_763 (c1) (by first | exact s1 | exact s2 | exact he1 | exact s3) rfl rfl (by omega) (by simp) ?_
  refine px_aload_n dL_law_766 rfl ?_
  refine px_aload_n dL_law_767 rfl ?_
  refine px_iload_n dL_law_768 rfl ?_
  refine px_iconst (v := 1) dL_law_769 (by decide) ?_
  refine px_iadd dL_law_770 ?_
  refine px_saload dL_law_771 (by first | exact s1 | exact s2 | exact he1 | exact s3) (by first | exact ix_k 1 (by omega) hL hL2 | exact ix_k 2 (by omega) hL hL2 | exact ix_k 3 (by omega) hL hL2 | exact ix_k 4 (by omega) hL hL2 | exact ix_k 5 (by omega) hL hL2) ?_
  refine px_callV1 (ν := mX7_order) (ci := 7) rfl rfl lk_L_104 in_X7_order se_X7_order mok_X7_order dL_law_772 (c2) (by first | exact s1 | exact s2 | exact he1 | exact s3) rfl rfl (by omega) (by simp) ?_
  refine px_icmp_eq (tgt := 1147) dL_law_775 (by decide) (fun hc775 => ?_) (fun hc775 => ?_)
  · refine px_iinc3 rfl hinc dL_law_1147 ?_
    refine px_goto (tgt := 18) dL_law_1150 (by decide) ?_
    exact hk
  · exact absurd rfl hc775
theorem w_unlike (h : LI b L xs e r N0 W0 q C n w g M bk) (hq : q ≤ 511) (hL : 6 * q + 5 < L) (hL2 : L ≤ 3072) : ∃ (C' : CS) (n' w' : Nat) (G : Nat → Option va_E) (M' : MS) (bk' : BK), LI b L xs e r N0 W0 (q + 1) C' n' w' G M' bk' ∧ ∀ rr h1, EX B D 100 mL_law 18 [some (.ref b), some (.ref e), some (.ref r), some (.int (nI (6 * (q + 1))))] [] (n', w', mH r G M') rr h1 → EX B D 100 mL_law 780 [some (.ref b), some (.ref e), some (.ref r), some (.int (nI (6 * q)))] [] (n, w, mH r g M) rr h1 := by
  obtain ⟨n', w', G, M', bk', c1, c2, c3, s2, s3⟩ := h.two (B := B) (D := D) hq (look h.1 (c_X6_unlike h.1.1 h.1.2.1.w )) (fun n' w' G hcap => m_unlike h.2.1 )
  have s1 := h.2.2.2.2.1
  have he1 := h.1.1
  have hinc : nI (6 * q) + Int32.ofInt 6 = nI (6 * (q + 1)) := nI_add (6 * q) 6
  refine ⟨_, n', w', G, M', bk', c3, fun rr h1 hk => ?_⟩
  refine px_aload_n dL_law_780 rfl ?_
  refine px_callV1 (ν := mX6_unlike) (ci := 6) rfl rfl lk_L_105 in_X6_unlike se_X6_unlike mok_X6_unlike dL_law_781 (c1) (by first | exact s1 | exact s2 | exact he1 | exact s3) rfl rfl (by omega) (by simp) ?_
  refine px_aload_n dL_law_784 rfl ?_
  refine px_callV1 (ν := mX7_unlike) (ci := 7) rfl rfl lk_L_108 in_X7_unlike se_X7_unlike mok_X7_unlike dL_law_785 (c2) (by first | exact s1 | exact s2 | exact he1 | exact s3) rfl rfl (by omega) (by simp) ?_
  refine px_icmp_eq (tgt := 1147) dL_law_788 (by decide) (fun hc788 => ?_) (fun hc788 => ?_)
  · refine px_iinc3 rfl hinc dL_law_1147 ?_
    refine px_goto (tgt := 18) dL_law_1150 (by decide) ?_
    exact hk
  · exact absurd rfl hc788
theorem w_fresh (h : LI b L xs e r N0 W0 q C n w g M bk) (hq : q ≤ 511) (hL : 6 * q + 5 < L) (hL2 : L ≤ 3072) : ∃ (C' : CS) (n' w' : Nat) (G : Nat → Option va_E) (M' : MS) (bk' : BK), LI b L xs e r N0 W0 (q + 1) C' n' w' G M' bk' ∧ ∀ rr h1, EX B D 100 mL_law 18 [some (.ref b), some (.ref e), some (.ref r), some (.int (nI (6 * (q + 1))))] [] (n', w', mH r G M') rr h1 → EX B D 100 mL_law 793 [some (.ref b), some (.ref e), some (.ref r), some (.int (nI (6 * q)))] [] (n, w, mH r g M) rr h1 := by
  obtain ⟨n', w', G, M', bk', c1, c2, c3, s2, s3⟩ := h.two (B := B) (D := D) hq (look h.1 (c_X6_fresh h.1.1 h.1.2.1.w )) (fun n' w' G hcap => m_fresh h.2.1 hcap )
  have s1 := h.2.2.2.2.1
  have he1 := h.1.1
  have hinc : nI (6 * q) + Int32.ofInt 6 = nI (6 * (q + 1)) := nI_add (6 * q) 6
  refine ⟨_, n', w', G, M', bk', c3, fun rr h1 hk => ?_⟩
  refine px_aload_n dL_law_793 rfl ?_
  refine px_callV1 (ν := mX6_fresh) (ci := 6) rfl rfl lk_L_109 in_X6_fresh se_X6_fresh mok_X6_fresh dL_law_794 (c1) (by first | exact s1 | exact s2 | exact he1 | exact s3) rfl rfl (by omega) (by simp) ?_
  refine px_aload_n dL_law_797 rfl ?_
  refine px_callV1 (ν := mX7_fresh) (ci := 7) rfl rfl lk_L_112 in_X7_fresh se_X7_fresh mok_X7_fresh dL_law_798 (c2) (by first | exact s1 | exact s2 | exact he1 | exact s3) rfl rfl (by omega) (by simp) ?_
  refine px_icmp_eq (tgt := 1147) dL_law_801 (by decide) (fun hc801 => ?_) (fun hc801 => ?_)
  · refine px_iinc3 rfl hinc dL_law_1147 ?_
    refine px_goto (tgt := 18) dL_law_1150 (by decide) ?_
    exact hk
  · exact absurd rfl hc801
theorem w_forget (h : LI b L xs e r N0 W0 q C n w g M bk) (hq : q ≤ 511) (hL : 6 * q + 5 < L) (hL2 : L ≤ 3072) : ∃ (C' : CS) (n' w' : Nat) (G : Nat → Option va_E) (M' : MS) (bk' : BK), LI b L xs e r N0 W0 (q + 1) C' n' w' G M' bk' ∧ ∀ rr h1, EX B D 100 mL_law 18 [some (.ref b), some (.ref e), some (.ref r), some (.int (nI (6 * (q + 1))))] [] (n', w', mH r G M') rr h1 → EX B D 100 mL_law 806 [some (.ref b), some (.ref e), some (.ref r), some (.int (nI (6 * q)))] [] (n, w, mH r g M) rr h1 := by
  obtain ⟨n', w', G, M', bk', c1, c2, c3, s2, s3⟩ := h.two (B := B) (D := D) hq (some3 (e_forget h.1 h.2.2.1 (xs (nI (6 * q) + 1).toNatClampNeg))) (fun n' w' G hcap => m_forget h.2.1 (xs (nI (6 * q) + 1).toNatClampNeg))
  have s1 := h.2.2.2.2.1
  have he1 := h.1.1
  have hinc : nI (6 * q) + Int32.ofInt 6 = nI (6 * (q + 1)) := nI_add (6 * q) 6
  refine ⟨_, n', w', G, M', bk', c3, fun rr h1 hk => ?_⟩
  refine px_aload_n dL_law_806 rfl ?_
  refine px_aload_n dL_law_807 rfl ?_
  refine px_iload_n dL_law_808 rfl ?_
  refine px_iconst (v := 1) dL_law_809 (by decide) ?_
  refine px_iadd dL_law_810 ?_
  refine px_saload dL_law_811 (by first | exact s1 | exact s2 | exact he1 | exact s3) (by first | exact ix_k 1 (by omega) hL hL2 | exact ix_k 2 (by omega) hL hL2 | exact ix_k 3 (by omega) hL hL2 | exact ix_k 4 (by omega) hL hL2 | exact ix_k 5 (by omega) hL hL2) ?_
  refine px_callV1 (ν := mX6_forget) (ci := 6) rfl rfl lk_L_113 in_X6_forget se_X6_forget mok_X6_forget dL_law_812 (c1) (by first | exact s1 | exact s2 | exact he1 | exact s3) rfl rfl (by omega) (by simp) ?_
  refine px_aload_n dL_law_815 rfl ?_
  refine px_aload_n dL_law_816 rfl ?_
  refine px_iload_n dL_law_817 rfl ?_
  refine px_iconst (v := 1) dL_law_818 (by decide) ?_
  refine px_iadd dL_law_819 ?_
  refine px_saload dL_law_820 (by first | exact s1 | exact s2 | exact he1 | exact s3) (by first | exact ix_k 1 (by omega) hL hL2 | exact ix_k 2 (by omega) hL hL2 | exact ix_k 3 (by omega) hL hL2 | exact ix_k 4 (by omega) hL hL2 | exact ix_k 5 (by omega) hL hL2) ?_
  refine px_callV1 (ν := mX7_forget) (ci := 7) rfl rfl lk_L_116 in_X7_forget se_X7_forget mok_X7_forget dL_law_821 (c2) (by first | exact s1 | exact s2 | exact he1 | exact s3) rfl rfl (by omega) (by simp) ?_
  refine px_icmp_eq (tgt := 1147) dL_law_824 (by decide) (fun hc824 => ?_) (fun hc824 => ?_)
  · refine px_iinc3 rfl hinc dL_law_1147 ?_
    refine px_goto (tgt := 18) dL_law_1150 (by decide) ?_
    exact hk
  · exact absurd rfl hc824
theorem w_told (h : LI b L xs e r N0 W0 q C n w g M bk) (hq : q ≤ 511) (hL : 6 * q + 5 < L) (hL2 : L ≤ 3072) : ∃ (C' : CS) (n' w' : Nat) (G : Nat → Option va_E) (M' : MS) (bk' : BK), LI b L xs e r N0 W0 (q + 1) C' n' w' G M' bk' ∧ ∀ rr h1, EX B D 100 mL_law 18 [some (.ref b), some (.ref e), some (.ref r), some (.int (nI (6 * (q + 1))))] [] (n', w', mH r G M') rr h1 → EX B D 100 mL_law 829 [some (.ref b), some (.ref e), some (.ref r), some (.int (nI (6 * q)))] [] (n, w, mH r g M) rr h1 := by
  obtain ⟨n', w', G, M', bk', c1, c2, c3, s2, s3⟩ := h.two (B := B) (D := D) hq (look h.1 (c_X6_told h.1 (xs (nI (6 * q) + 1).toNatClampNeg))) (fun n' w' G hcap => m_told h.2.1 (xs (nI (6 * q) + 1).toNatClampNeg))
  have s1 := h.2.2.2.2.1
  have he1 := h.1.1
  have hinc : nI (6 * q) + Int32.ofInt 6 = nI (6 * (q + 1)) := nI_add (6 * q) 6
  refine ⟨_, n', w', G, M', bk', c3, fun rr h1 hk => ?_⟩
  refine px_aload_n dL_law_829 rfl ?_
  refine px_aload_n dL_law_830 rfl ?_
  refine px_iload_n dL_law_831 rfl ?_
  refine px_iconst (v := 1) dL_law_832 (by decide) ?_
  refine px_iadd dL_law_833 ?_
  refine px_saload dL_law_834 (by first | exact s1 | exact s2 | exact he1 | exact s3) (by first | exact ix_k 1 (by omega) hL hL2 | exact ix_k 2 (by omega) hL hL2 | exact ix_k 3 (by omega) hL hL2 | exact ix_k 4 (by omega) hL hL2 | exact ix_k 5 (by omega) hL hL2) ?_
  refine px_callV1 (ν := mX6_told) (ci := 6) rfl rfl lk_L_117 in_X6_told se_X6_told mok_X6_told dL_law_835 (c1) (by first | exact s1 | exact s2 | exact he1 | exact s3) rfl rfl (by omega) (by simp) ?_
  refine px_aload_n dL_law_838 rfl ?_
  refine px_aload_n dL_law_839 rfl ?_
  refine px_iload_n dL_law_840 rfl ?_
  refine px_iconst (v := 1) dL_law_841 (by decide) ?_
  refine px_iadd dL_law_842 ?_
  refine px_saload dL_law_843 (by first | exact s1 | exact s2 | exact he1 | exact s3) (by first | exact ix_k 1 (by omega) hL hL2 | exact ix_k 2 (by omega) hL hL2 | exact ix_k 3 (by omega) hL hL2 | exact ix_k 4 (by omega) hL hL2 | exact ix_k 5 (by omega) hL hL2) ?_
  refine px_callV1 (ν := mX7_told) (ci := 7) rfl rfl lk_L_120 in_X7_told se_X7_told mok_X7_told dL_law_844 (c2) (by first | exact s1 | exact s2 | exact he1 | exact s3) rfl rfl (by omega) (by simp) ?_
  refine px_icmp_eq (tgt := 1147) dL_law_847 (by decide) (fun hc847 => ?_) (fun hc847 => ?_)
  · refine px_iinc3 rfl hinc dL_law_1147 ?_
    refine px_goto (tgt := 18) dL_law_1150 (by decide) ?_
    exact hk
  · exact absurd rfl hc847
theorem w_list (h : LI b L xs e r N0 W0 q C n w g M bk) (hq : q ≤ 511) (hL : 6 * q + 5 < L) (hL2 : L ≤ 3072) : ∃ (C' : CS) (n' w' : Nat) (G : Nat → Option va_E) (M' : MS) (bk' : BK), LI b L xs e r N0 W0 (q + 1) C' n' w' G M' bk' ∧ ∀ rr h1, EX B D 100 mL_law 18 [some (.ref b), some (.ref e), some (.ref r), some (.int (nI (6 * (q + 1))))] [] (n', w', mH r G M') rr h1 → EX B D 100 mL_law 852 [some (.ref b), some (.ref e), some (.ref r), some (.int (nI (6 * q)))] [] (n, w, mH r g M) rr h1 := by
  obtain ⟨n', w', G, M', bk', c1, c2, c3, s2, s3⟩ := h.two (B := B) (D := D) hq (some3 (e_list h.1 h.2.2.1 (xs (nI (6 * q) + 1).toNatClampNeg) (xs (nI (6 * q) + 2).toNatClampNeg))) (fun n' w' G hcap => m_list h.2.1 (xs (nI (6 * q) + 1).toNatClampNeg) (xs (nI (6 * q) + 2).toNatClampNeg))
  have s1 := h.2.2.2.2.1
  have he1 := h.1.1
  have hinc : nI (6 * q) + Int32.ofInt 6 = nI (6 * (q + 1)) := nI_add (6 * q) 6
  refine ⟨_, n', w', G, M', bk', c3, fun rr h1 hk => ?_⟩
  refine px_aload_n dL_law_852 rfl ?_
  refine px_aload_n dL_law_853 rfl ?_
  refine px_iload_n dL_law_854 rfl ?_
  refine px_iconst (v := 1) dL_law_855 (by decide) ?_
  refine px_iadd dL_law_856 ?_
  refine px_saload dL_law_857 (by first | exact s1 | exact s2 | exact he1 | exact s3) (by first | exact ix_k 1 (by omega) hL hL2 | exact ix_k 2 (by omega) hL hL2 | exact ix_k 3 (by omega) hL hL2 | exact ix_k 4 (by omega) hL hL2 | exact ix_k 5 (by omega) hL hL2) ?_
  refine px_aload_n dL_law_858 rfl ?_
  refine px_iload_n dL_law_859 rfl ?_
  refine px_iconst (v := 2) dL_law_860 (by decide) ?_
  refine px_iadd dL_law_861 ?_
  refine px_saload dL_law_862 (by first | exact s1 | exact s2 | exact he1 | exact s3) (by first | exact ix_k 1 (by omega) hL hL2 | exact ix_k 2 (by omega) hL hL2 | exact ix_k 3 (by omega) hL hL2 | exact ix_k 4 (by omega) hL hL2 | exact ix_k 5 (by omega) hL hL2) ?_
  refine px_callV1 (ν := mX6_list) (ci := 6) rfl rfl lk_L_121 in_X6_list se_X6_list mok_X6_list dL_law_863 (c1) (by first | exact s1 | exact s2 | exact he1 | exact s3) rfl rfl (by omega) (by simp) ?_
  refine px_aload_n dL_law_866 rfl ?_
  refine px_aload_n dL_law_867 rfl ?_
  refine px_iload_n dL_law_868 rfl ?_
  refine px_iconst (v := 1) dL_law_869 (by decide) ?_
  refine px_iadd dL_law_870 ?_
  refine px_saload dL_law_871 (by first | exact s1 | exact s2 | exact he1 | exact s3) (by first | exact ix_k 1 (by omega) hL hL2 | exact ix_k 2 (by omega) hL hL2 | exact ix_k 3 (by omega) hL hL2 | exact ix_k 4 (by omega) hL hL2 | exact ix_k 5 (by omega) hL hL2) ?_
  refine px_aload_n dL_law_872 rfl ?_
  refine px_iload_n dL_law_873 rfl ?_
  refine px_iconst (v := 2) dL_law_874 (by decide) ?_
  refine px_iadd dL_law_875 ?_
  refine px_saload dL_law_876 (by first | exact s1 | exact s2 | exact he1 | exact s3) (by first | exact ix_k 1 (by omega) hL hL2 | exact ix_k 2 (by omega) hL hL2 | exact ix_k 3 (by omega) hL hL2 | exact ix_k 4 (by omega) hL hL2 | exact ix_k 5 (by omega) hL hL2) ?_
  refine px_callV1 (ν := mX7_list) (ci := 7) rfl rfl lk_L_124 in_X7_list se_X7_list mok_X7_list dL_law_877 (c2) (by first | exact s1 | exact s2 | exact he1 | exact s3) rfl rfl (by omega) (by simp) ?_
  refine px_icmp_eq (tgt := 1147) dL_law_880 (by decide) (fun hc880 => ?_) (fun hc880 => ?_)
  · refine px_iinc3 rfl hinc dL_law_1147 ?_
    refine px_goto (tgt := 18) dL_law_1150 (by decide) ?_
    exact hk
  · exact absurd rfl hc880
theorem w_put (h : LI b L xs e r N0 W0 q C n w g M bk) (hq : q ≤ 511) (hL : 6 * q + 5 < L) (hL2 : L ≤ 3072) : ∃ (C' : CS) (n' w' : Nat) (G : Nat → Option va_E) (M' : MS) (bk' : BK), LI b L xs e r N0 W0 (q + 1) C' n' w' G M' bk' ∧ ∀ rr h1, EX B D 100 mL_law 18 [some (.ref b), some (.ref e), some (.ref r), some (.int (nI (6 * (q + 1))))] [] (n', w', mH r G M') rr h1 → EX B D 100 mL_law 885 [some (.ref b), some (.ref e), some (.ref r), some (.int (nI (6 * q)))] [] (n, w, mH r g M) rr h1 := by
  obtain ⟨n', w', G, M', bk', c1, c2, c3, s2, s3⟩ := h.two (B := B) (D := D) hq (some3 (e_put h.1 h.2.2.1 (xs (nI (6 * q) + 1).toNatClampNeg) (xs (nI (6 * q) + 2).toNatClampNeg) (((xs (nI (6 * q) + 3).toNatClampNeg).toInt64 <<< ((32 : Int32).toInt64 &&& 63)) ||| ((xs (nI (6 * q) + 4).toNatClampNeg).toInt64 &&& 4294967295)))) (fun n' w' G hcap => m_put h.2.1 (xs (nI (6 * q) + 1).toNatClampNeg) (xs (nI (6 * q) + 2).toNatClampNeg) (((xs (nI (6 * q) + 3).toNatClampNeg).toInt64 <<< ((32 : Int32).toInt64 &&& 63)) ||| ((xs (nI (6 * q) + 4).toNatClampNeg).toInt64 &&& 4294967295)))
  have s1 := h.2.2.2.2.1
  have he1 := h.1.1
  have hinc : nI (6 * q) + Int32.ofInt 6 = nI (6 * (q + 1)) := nI_add (6 * q) 6
  refine ⟨_, n', w', G, M', bk', c3, fun rr h1 hk => ?_⟩
  refine px_aload_n dL_law_885 rfl ?_
  refine px_aload_n dL_law_886 rfl ?_
  refine px_iload_n dL_law_887 rfl ?_
  refine px_iconst (v := 1) dL_law_888 (by decide) ?_
  refine px_iadd dL_law_889 ?_
  refine px_saload dL_law_890 (by first | exact s1 | exact s2 | exact he1 | exact s3) (by first | exact ix_k 1 (by omega) hL hL2 | exact ix_k 2 (by omega) hL hL2 | exact ix_k 3 (by omega) hL hL2 | exact ix_k 4 (by omega) hL hL2 | exact ix_k 5 (by omega) hL hL2) ?_
  refine px_aload_n dL_law_891 rfl ?_
  refine px_iload_n dL_law_892 rfl ?_
  refine px_iconst (v := 2) dL_law_893 (by decide) ?_
  refine px_iadd dL_law_894 ?_
  refine px_saload dL_law_895 (by first | exact s1 | exact s2 | exact he1 | exact s3) (by first | exact ix_k 1 (by omega) hL hL2 | exact ix_k 2 (by omega) hL hL2 | exact ix_k 3 (by omega) hL hL2 | exact ix_k 4 (by omega) hL hL2 | exact ix_k 5 (by omega) hL hL2) ?_
  refine px_aload_n dL_law_896 rfl ?_
  refine px_iload_n dL_law_897 rfl ?_
  refine px_iconst (v := 3) dL_law_898 (by decide) ?_
  refine px_iadd dL_law_899 ?_
  refine px_saload dL_law_900 (by first | exact s1 | exact s2 | exact he1 | exact s3) (by first | exact ix_k 1 (by omega) hL hL2 | exact ix_k 2 (by omega) hL hL2 | exact ix_k 3 (by omega) hL hL2 | exact ix_k 4 (by omega) hL hL2 | exact ix_k 5 (by omega) hL hL2) ?_
  refine px_i2l dL_law_901 ?_
  refine px_bipush (v := 32) dL_law_902 (by decide) ?_
  refine px_lshl dL_law_904 ?_
  refine px_aload_n dL_law_905 rfl ?_
  refine px_iload_n dL_law_906 rfl ?_
  refine px_iconst (v := 4) dL_law_907 (by decide) ?_
  refine px_iadd dL_law_908 ?_
  refine px_saload dL_law_909 (by first | exact s1 | exact s2 | exact he1 | exact s3) (by first | exact ix_k 1 (by omega) hL hL2 | exact ix_k 2 (by omega) hL hL2 | exact ix_k 3 (by omega) hL hL2 | exact ix_k 4 (by omega) hL hL2 | exact ix_k 5 (by omega) hL hL2) ?_
  refine px_i2l dL_law_910 ?_
  refine px_ldc2 dL_law_911 kc_L_125 ?_
  refine px_land dL_law_914 ?_
  refine px_lor dL_law_915 ?_
  refine px_callV1 (ν := mX6_put) (ci := 6) rfl rfl lk_L_127 in_X6_put se_X6_put mok_X6_put dL_law_916 (c1) (by first | exact s1 | exact s2 | exact he1 | exact s3) rfl rfl (by omega) (by simp) ?_
  refine px_aload_n dL_law_919 rfl ?_
  refine px_aload_n dL_law_920 rfl ?_
  refine px_iload_n dL_law_921 rfl ?_
  refine px_iconst (v := 1) dL_law_922 (by decide) ?_
  refine px_iadd dL_law_923 ?_
  refine px_saload dL_law_924 (by first | exact s1 | exact s2 | exact he1 | exact s3) (by first | exact ix_k 1 (by omega) hL hL2 | exact ix_k 2 (by omega) hL hL2 | exact ix_k 3 (by omega) hL hL2 | exact ix_k 4 (by omega) hL hL2 | exact ix_k 5 (by omega) hL hL2) ?_
  refine px_aload_n dL_law_925 rfl ?_
  refine px_iload_n dL_law_926 rfl ?_
  refine px_iconst (v := 2) dL_law_927 (by decide) ?_
  refine px_iadd dL_law_928 ?_
  refine px_saload dL_law_929 (by first | exact s1 | exact s2 | exact he1 | exact s3) (by first | exact ix_k 1 (by omega) hL hL2 | exact ix_k 2 (by omega) hL hL2 | exact ix_k 3 (by omega) hL hL2 | exact ix_k 4 (by omega) hL hL2 | exact ix_k 5 (by omega) hL hL2) ?_
  refine px_aload_n dL_law_930 rfl ?_
  refine px_iload_n dL_law_931 rfl ?_
  refine px_iconst (v := 3) dL_law_932 (by decide) ?_
  refine px_iadd dL_law_933 ?_
  refine px_saload dL_law_934 (by first | exact s1 | exact s2 | exact he1 | exact s3) (by first | exact ix_k 1 (by omega) hL hL2 | exact ix_k 2 (by omega) hL hL2 | exact ix_k 3 (by omega) hL hL2 | exact ix_k 4 (by omega) hL hL2 | exact ix_k 5 (by omega) hL hL2) ?_
  refine px_i2l dL_law_935 ?_
  refine px_bipush (v := 32) dL_law_936 (by decide) ?_
  refine px_lshl dL_law_938 ?_
  refine px_aload_n dL_law_939 rfl ?_
  refine px_iload_n dL_law_940 rfl ?_
  refine px_iconst (v := 4) dL_law_941 (by decide) ?_
  refine px_iadd dL_law_942 ?_
  refine px_saload dL_law_943 (by first | exact s1 | exact s2 | exact he1 | exact s3) (by first | exact ix_k 1 (by omega) hL hL2 | exact ix_k 2 (by omega) hL hL2 | exact ix_k 3 (by omega) hL hL2 | exact ix_k 4 (by omega) hL hL2 | exact ix_k 5 (by omega) hL hL2) ?_
  refine px_i2l dL_law_944 ?_
  refine px_ldc2 dL_law_945 kc_L_125 ?_
  refine px_land dL_law_948 ?_
  refine px_lor dL_law_949 ?_
  refine px_callV1 (ν := mX7_put) (ci := 7) rfl rfl lk_L_131 in_X7_put se_X7_put mok_X7_put dL_law_950 (c2) (by first | exact s1 | exact s2 | exact he1 | exact s3) rfl rfl (by omega) (by simp) ?_
  refine px_icmp_eq (tgt := 1147) dL_law_953 (by decide) (fun hc953 => ?_) (fun hc953 => ?_)
  · refine px_iinc3 rfl hinc dL_law_1147 ?_
    refine px_goto (tgt := 18) dL_law_1150 (by decide) ?_
    exact hk
  · exact absurd rfl hc953
theorem w_get (h : LI b L xs e r N0 W0 q C n w g M bk) (hq : q ≤ 511) (hL : 6 * q + 5 < L) (hL2 : L ≤ 3072) : ∃ (C' : CS) (n' w' : Nat) (G : Nat → Option va_E) (M' : MS) (bk' : BK), LI b L xs e r N0 W0 (q + 1) C' n' w' G M' bk' ∧ ∀ rr h1, EX B D 100 mL_law 18 [some (.ref b), some (.ref e), some (.ref r), some (.int (nI (6 * (q + 1))))] [] (n', w', mH r G M') rr h1 → EX B D 100 mL_law 958 [some (.ref b), some (.ref e), some (.ref r), some (.int (nI (6 * q)))] [] (n, w, mH r g M) rr h1 := by
  obtain ⟨n', w', G, M', bk', c1, c2, c3, s2, s3⟩ := h.two (B := B) (D := D) hq (look h.1 (c_X6_get h.1.1 h.1.2.2.2.2.2 (xs (nI (6 * q) + 1).toNatClampNeg) (xs (nI (6 * q) + 2).toNatClampNeg))) (fun n' w' G hcap => m_get h.2.1 (xs (nI (6 * q) + 1).toNatClampNeg) (xs (nI (6 * q) + 2).toNatClampNeg))
  have s1 := h.2.2.2.2.1
  have he1 := h.1.1
  have hinc : nI (6 * q) + Int32.ofInt 6 = nI (6 * (q + 1)) := nI_add (6 * q) 6
  refine ⟨_, n', w', G, M', bk', c3, fun rr h1 hk => ?_⟩
  refine px_aload_n dL_law_958 rfl ?_
  refine px_aload_n dL_law_959 rfl ?_
  refine px_iload_n dL_law_960 rfl ?_
  refine px_iconst (v := 1) dL_law_961 (by decide) ?_
  refine px_iadd dL_law_962 ?_
  refine px_saload dL_law_963 (by first | exact s1 | exact s2 | exact he1 | exact s3) (by first | exact ix_k 1 (by omega) hL hL2 | exact ix_k 2 (by omega) hL hL2 | exact ix_k 3 (by omega) hL hL2 | exact ix_k 4 (by omega) hL hL2 | exact ix_k 5 (by omega) hL hL2) ?_
  refine px_aload_n dL_law_964 rfl ?_
  refine px_iload_n dL_law_965 rfl ?_
  refine px_iconst (v := 2) dL_law_966 (by decide) ?_
  refine px_iadd dL_law_967 ?_
  refine px_saload dL_law_968 (by first | exact s1 | exact s2 | exact he1 | exact s3) (by first | exact ix_k 1 (by omega) hL hL2 | exact ix_k 2 (by omega) hL hL2 | exact ix_k 3 (by omega) hL hL2 | exact ix_k 4 (by omega) hL hL2 | exact ix_k 5 (by omega) hL hL2) ?_
  refine px_callV1 (ν := mX6_get) (ci := 6) rfl rfl lk_L_132 in_X6_get se_X6_get mok_X6_get dL_law_969 (c1) (by first | exact s1 | exact s2 | exact he1 | exact s3) rfl rfl (by omega) (by simp) ?_
  refine px_aload_n dL_law_972 rfl ?_
  refine px_aload_n dL_law_973 rfl ?_
  refine px_iload_n dL_law_974 rfl ?_
  refine px_iconst (v := 1) dL_law_975 (by decide) ?_
  refine px_iadd dL_law_976 ?_
  refine px_saload dL_law_977 (by first | exact s1 | exact s2 | exact he1 | exact s3) (by first | exact ix_k 1 (by omega) hL hL2 | exact ix_k 2 (by omega) hL hL2 | exact ix_k 3 (by omega) hL hL2 | exact ix_k 4 (by omega) hL hL2 | exact ix_k 5 (by omega) hL hL2) ?_
  refine px_aload_n dL_law_978 rfl ?_
  refine px_iload_n dL_law_979 rfl ?_
  refine px_iconst (v := 2) dL_law_980 (by decide) ?_
  refine px_iadd dL_law_981 ?_
  refine px_saload dL_law_982 (by first | exact s1 | exact s2 | exact he1 | exact s3) (by first | exact ix_k 1 (by omega) hL hL2 | exact ix_k 2 (by omega) hL hL2 | exact ix_k 3 (by omega) hL hL2 | exact ix_k 4 (by omega) hL hL2 | exact ix_k 5 (by omega) hL hL2) ?_
  refine px_callV1 (ν := mX7_get) (ci := 7) rfl rfl lk_L_136 in_X7_get se_X7_get mok_X7_get dL_law_983 (c2) (by first | exact s1 | exact s2 | exact he1 | exact s3) rfl rfl (by omega) (by simp) ?_
  refine px_l_eq (tgt := 1147) dL_law_986 dL_law_987 (by decide) (fun hc987 => ?_) (fun hc987 => ?_)
  · refine px_iinc3 rfl hinc dL_law_1147 ?_
    refine px_goto (tgt := 18) dL_law_1150 (by decide) ?_
    exact hk
  · exact absurd rfl hc987
theorem w_move (h : LI b L xs e r N0 W0 q C n w g M bk) (hq : q ≤ 511) (hL : 6 * q + 5 < L) (hL2 : L ≤ 3072) : ∃ (C' : CS) (n' w' : Nat) (G : Nat → Option va_E) (M' : MS) (bk' : BK), LI b L xs e r N0 W0 (q + 1) C' n' w' G M' bk' ∧ ∀ rr h1, EX B D 100 mL_law 18 [some (.ref b), some (.ref e), some (.ref r), some (.int (nI (6 * (q + 1))))] [] (n', w', mH r G M') rr h1 → EX B D 100 mL_law 992 [some (.ref b), some (.ref e), some (.ref r), some (.int (nI (6 * q)))] [] (n, w, mH r g M) rr h1 := by
  obtain ⟨n', w', G, M', bk', c1, c2, c3, s2, s3⟩ := h.two (B := B) (D := D) hq (some3 (e_move h.1 h.2.2.1 (xs (nI (6 * q) + 1).toNatClampNeg) (xs (nI (6 * q) + 2).toNatClampNeg) (xs (nI (6 * q) + 3).toNatClampNeg) (xs (nI (6 * q) + 4).toNatClampNeg) (xs (nI (6 * q) + 5).toNatClampNeg))) (fun n' w' G hcap => m_move h.2.1 (xs (nI (6 * q) + 1).toNatClampNeg) (xs (nI (6 * q) + 2).toNatClampNeg) (xs (nI (6 * q) + 3).toNatClampNeg) (xs (nI (6 * q) + 4).toNatClampNeg) (xs (nI (6 * q) + 5).toNatClampNeg))
  have s1 := h.2.2.2.2.1
  have he1 := h.1.1
  have hinc : nI (6 * q) + Int32.ofInt 6 = nI (6 * (q + 1)) := nI_add (6 * q) 6
  refine ⟨_, n', w', G, M', bk', c3, fun rr h1 hk => ?_⟩
  refine px_aload_n dL_law_992 rfl ?_
  refine px_aload_n dL_law_993 rfl ?_
  refine px_iload_n dL_law_994 rfl ?_
  refine px_iconst (v := 1) dL_law_995 (by decide) ?_
  refine px_iadd dL_law_996 ?_
  refine px_saload dL_law_997 (by first | exact s1 | exact s2 | exact he1 | exact s3) (by first | exact ix_k 1 (by omega) hL hL2 | exact ix_k 2 (by omega) hL hL2 | exact ix_k 3 (by omega) hL hL2 | exact ix_k 4 (by omega) hL hL2 | exact ix_k 5 (by omega) hL hL2) ?_
  refine px_aload_n dL_law_998 rfl ?_
  refine px_iload_n dL_law_999 rfl ?_
  refine px_iconst (v := 2) dL_law_1000 (by decide) ?_
  refine px_iadd dL_law_1001 ?_
  refine px_saload dL_law_1002 (by first | exact s1 | exact s2 | exact he1 | exact s3) (by first | exact ix_k 1 (by omega) hL hL2 | exact ix_k 2 (by omega) hL hL2 | exact ix_k 3 (by omega) hL hL2 | exact ix_k 4 (by omega) hL hL2 | exact ix_k 5 (by omega) hL hL2) ?_
  refine px_aload_n dL_law_1003 rfl ?_
  refine px_iload_n dL_law_1004 rfl ?_
  refine px_iconst (v := 3) dL_law_1005 (by decide) ?_
  refine px_iadd dL_law_1006 ?_
  refine px_saload dL_law_1007 (by first | exact s1 | exact s2 | exact he1 | exact s3) (by first | exact ix_k 1 (by omega) hL hL2 | exact ix_k 2 (by omega) hL hL2 | exact ix_k 3 (by omega) hL hL2 | exact ix_k 4 (by omega) hL hL2 | exact ix_k 5 (by omega) hL hL2) ?_
  refine px_aload_n dL_law_1008 rfl ?_
  refine px_iload_n dL_law_1009 rfl ?_
  refine px_iconst (v := 4) dL_law_1010 (by decide) ?_
  refine px_iadd dL_law_1011 ?_
  refine px_saload dL_law_1012 (by first | exact s1 | exact s2 | exact he1 | exact s3) (by first | exact ix_k 1 (by omega) hL hL2 | exact ix_k 2 (by omega) hL hL2 | exact ix_k 3 (by omega) hL hL2 | exact ix_k 4 (by omega) hL hL2 | exact ix_k 5 (by omega) hL hL2) ?_
  refine px_aload_n dL_law_1013 rfl ?_
  refine px_iload_n dL_law_1014 rfl ?_
  refine px_iconst (v := 5) dL_law_1015 (by decide) ?_
  refine px_iadd dL_law_1016 ?_
  refine px_saload dL_law_1017 (by first | exact s1 | exact s2 | exact he1 | exact s3) (by first | exact ix_k 1 (by omega) hL hL2 | exact ix_k 2 (by omega) hL hL2 | exact ix_k 3 (by omega) hL hL2 | exact ix_k 4 (by omega) hL hL2 | exact ix_k 5 (by omega) hL hL2) ?_
  refine px_callV1 (ν := mX6_move) (ci := 6) rfl rfl lk_L_137 in_X6_move se_X6_move mok_X6_move dL_law_1018 (c1) (by first | exact s1 | exact s2 | exact he1 | exact s3) rfl rfl (by omega) (by simp) ?_
  refine px_aload_n dL_law_1021 rfl ?_
  refine px_aload_n dL_law_1022 rfl ?_
  refine px_iload_n dL_law_1023 rfl ?_
  refine px_iconst (v := 1) dL_law_1024 (by decide) ?_
  refine px_iadd dL_law_1025 ?_
  refine px_saload dL_law_1026 (by first | exact s1 | exact s2 | exact he1 | exact s3) (by first | exact ix_k 1 (by omega) hL hL2 | exact ix_k 2 (by omega) hL hL2 | exact ix_k 3 (by omega) hL hL2 | exact ix_k 4 (by omega) hL hL2 | exact ix_k 5 (by omega) hL hL2) ?_
  refine px_aload_n dL_law_1027 rfl ?_
  refine px_iload_n dL_law_1028 rfl ?_
  refine px_iconst (v := 2) dL_law_1029 (by decide) ?_
  refine px_iadd dL_law_1030 ?_
  refine px_saload dL_law_1031 (by first | exact s1 | exact s2 | exact he1 | exact s3) (by first | exact ix_k 1 (by omega) hL hL2 | exact ix_k 2 (by omega) hL hL2 | exact ix_k 3 (by omega) hL hL2 | exact ix_k 4 (by omega) hL hL2 | exact ix_k 5 (by omega) hL hL2) ?_
  refine px_aload_n dL_law_1032 rfl ?_
  refine px_iload_n dL_law_1033 rfl ?_
  refine px_iconst (v := 3) dL_law_1034 (by decide) ?_
  refine px_iadd dL_law_1035 ?_
  refine px_saload dL_law_1036 (by first | exact s1 | exact s2 | exact he1 | exact s3) (by first | exact ix_k 1 (by omega) hL hL2 | exact ix_k 2 (by omega) hL hL2 | exact ix_k 3 (by omega) hL hL2 | exact ix_k 4 (by omega) hL hL2 | exact ix_k 5 (by omega) hL hL2) ?_
  refine px_aload_n dL_law_1037 rfl ?_
  refine px_iload_n dL_law_1038 rfl ?_
  refine px_iconst (v := 4) dL_law_1039 (by decide) ?_
  refine px_iadd dL_law_1040 ?_
  refine px_saload dL_law_1041 (by first | exact s1 | exact s2 | exact he1 | exact s3) (by first | exact ix_k 1 (by omega) hL hL2 | exact ix_k 2 (by omega) hL hL2 | exact ix_k 3 (by omega) hL hL2 | exact ix_k 4 (by omega) hL hL2 | exact ix_k 5 (by omega) hL hL2) ?_
  refine px_aload_n dL_law_1042 rfl ?_
  refine px_iload_n dL_law_1043 rfl ?_
  refine px_iconst (v := 5) dL_law_1044 (by decide) ?_
  refine px_iadd dL_law_1045 ?_
  refine px_saload dL_law_1046 (by first | exact s1 | exact s2 | exact he1 | exact s3) (by first | exact ix_k 1 (by omega) hL hL2 | exact ix_k 2 (by omega) hL hL2 | exact ix_k 3 (by omega) hL hL2 | exact ix_k 4 (by omega) hL hL2 | exact ix_k 5 (by omega) hL hL2) ?_
  refine px_callV1 (ν := mX7_move) (ci := 7) rfl rfl lk_L_141 in_X7_move se_X7_move mok_X7_move dL_law_1047 (c2) (by first | exact s1 | exact s2 | exact he1 | exact s3) rfl rfl (by omega) (by simp) ?_
  refine px_icmp_eq (tgt := 1147) dL_law_1050 (by decide) (fun hc1050 => ?_) (fun hc1050 => ?_)
  · refine px_iinc3 rfl hinc dL_law_1147 ?_
    refine px_goto (tgt := 18) dL_law_1150 (by decide) ?_
    exact hk
  · exact absurd rfl hc1050
theorem w_lay (h : LI b L xs e r N0 W0 q C n w g M bk) (hq : q ≤ 511) (hL : 6 * q + 5 < L) (hL2 : L ≤ 3072) : ∃ (C' : CS) (n' w' : Nat) (G : Nat → Option va_E) (M' : MS) (bk' : BK), LI b L xs e r N0 W0 (q + 1) C' n' w' G M' bk' ∧ ∀ rr h1, EX B D 100 mL_law 18 [some (.ref b), some (.ref e), some (.ref r), some (.int (nI (6 * (q + 1))))] [] (n', w', mH r G M') rr h1 → EX B D 100 mL_law 1055 [some (.ref b), some (.ref e), some (.ref r), some (.int (nI (6 * q)))] [] (n, w, mH r g M) rr h1 := by
  obtain ⟨n', w', G, M', bk', c1, c2, c3, s2, s3⟩ := h.two (B := B) (D := D) hq (some3 (e_lay h.1 h.2.2.1 (xs (nI (6 * q) + 1).toNatClampNeg) (xs (nI (6 * q) + 2).toNatClampNeg))) (fun n' w' G hcap => m_lay h.2.1 (xs (nI (6 * q) + 1).toNatClampNeg) (xs (nI (6 * q) + 2).toNatClampNeg))
  have s1 := h.2.2.2.2.1
  have he1 := h.1.1
  have hinc : nI (6 * q) + Int32.ofInt 6 = nI (6 * (q + 1)) := nI_add (6 * q) 6
  refine ⟨_, n', w', G, M', bk', c3, fun rr h1 hk => ?_⟩
  refine px_aload_n dL_law_1055 rfl ?_
  refine px_aload_n dL_law_1056 rfl ?_
  refine px_iload_n dL_law_1057 rfl ?_
  refine px_iconst (v := 1) dL_law_1058 (by decide) ?_
  refine px_iadd dL_law_1059 ?_
  refine px_saload dL_law_1060 (by first | exact s1 | exact s2 | exact he1 | exact s3) (by first | exact ix_k 1 (by omega) hL hL2 | exact ix_k 2 (by omega) hL hL2 | exact ix_k 3 (by omega) hL hL2 | exact ix_k 4 (by omega) hL hL2 | exact ix_k 5 (by omega) hL hL2) ?_
  refine px_aload_n dL_law_1061 rfl ?_
  refine px_iload_n dL_law_1062 rfl ?_
  refine px_iconst (v := 2) dL_law_1063 (by decide) ?_
  refine px_iadd dL_law_1064 ?_
  refine px_saload dL_law_1065 (by first | exact s1 | exact s2 | exact he1 | exact s3) (by first | exact ix_k 1 (by omega) hL hL2 | exact ix_k 2 (by omega) hL hL2 | exact ix_k 3 (by omega) hL hL2 | exact ix_k 4 (by omega) hL hL2 | exact ix_k 5 (by omega) hL hL2) ?_
  refine px_callV1 (ν := mX6_lay) (ci := 6) rfl rfl lk_L_142 in_X6_lay se_X6_lay mok_X6_lay dL_law_1066 (c1) (by first | exact s1 | exact s2 | exact he1 | exact s3) rfl rfl (by omega) (by simp) ?_
  refine px_aload_n dL_law_1069 rfl ?_
  refine px_aload_n dL_law_1070 rfl ?_
  refine px_iload_n dL_law_1071 rfl ?_
  refine px_iconst (v := 1) dL_law_1072 (by decide) ?_
  refine px_iadd dL_law_1073 ?_
  refine px_saload dL_law_1074 (by first | exact s1 | exact s2 | exact he1 | exact s3) (by first | exact ix_k 1 (by omega) hL hL2 | exact ix_k 2 (by omega) hL hL2 | exact ix_k 3 (by omega) hL hL2 | exact ix_k 4 (by omega) hL hL2 | exact ix_k 5 (by omega) hL hL2) ?_
  refine px_aload_n dL_law_1075 rfl ?_
  refine px_iload_n dL_law_1076 rfl ?_
  refine px_iconst (v := 2) dL_law_1077 (by decide) ?_
  refine px_iadd dL_law_1078 ?_
  refine px_saload dL_law_1079 (by first | exact s1 | exact s2 | exact he1 | exact s3) (by first | exact ix_k 1 (by omega) hL hL2 | exact ix_k 2 (by omega) hL hL2 | exact ix_k 3 (by omega) hL hL2 | exact ix_k 4 (by omega) hL hL2 | exact ix_k 5 (by omega) hL hL2) ?_
  refine px_callV1 (ν := mX7_lay) (ci := 7) rfl rfl lk_L_145 in_X7_lay se_X7_lay mok_X7_lay dL_law_1080 (c2) (by first | exact s1 | exact s2 | exact he1 | exact s3) rfl rfl (by omega) (by simp) ?_
  refine px_icmp_eq (tgt := 1147) dL_law_1083 (by decide) (fun hc1083 => ?_) (fun hc1083 => ?_)
  · refine px_iinc3 rfl hinc dL_law_1147 ?_
    refine px_goto (tgt := 18) dL_law_1150 (by decide) ?_
    exact hk
  · exact absurd rfl hc1083
theorem w_judge (h : LI b L xs e r N0 W0 q C n w g M bk) (hq : q ≤ 511) (hL : 6 * q + 5 < L) (hL2 : L ≤ 3072) : ∃ (C' : CS) (n' w' : Nat) (G : Nat → Option va_E) (M' : MS) (bk' : BK), LI b L xs e r N0 W0 (q + 1) C' n' w' G M' bk' ∧ ∀ rr h1, EX B D 100 mL_law 18 [some (.ref b), some (.ref e), some (.ref r), some (.int (nI (6 * (q + 1))))] [] (n', w', mH r G M') rr h1 → EX B D 100 mL_law 1088 [some (.ref b), some (.ref e), some (.ref r), some (.int (nI (6 * q)))] [] (n, w, mH r g M) rr h1 := by
  obtain ⟨n', w', G, M', bk', c1, c2, c3, s2, s3⟩ := h.two (B := B) (D := D) hq (look h.1 (c_X6_judge h.1.1 h.1.2.1.w h.1.2.2.2.2.2 (xs (nI (6 * q) + 1).toNatClampNeg) (xs (nI (6 * q) + 2).toNatClampNeg))) (fun n' w' G hcap => m_judge h.2.1 (xs (nI (6 * q) + 1).toNatClampNeg) (xs (nI (6 * q) + 2).toNatClampNeg))
  have s1 := h.2.2.2.2.1
  have he1 := h.1.1
  have hinc : nI (6 * q) + Int32.ofInt 6 = nI (6 * (q + 1)) := nI_add (6 * q) 6
  refine ⟨_, n', w', G, M', bk', c3, fun rr h1 hk => ?_⟩
  refine px_aload_n dL_law_1088 rfl ?_
  refine px_aload_n dL_law_1089 rfl ?_
  refine px_iload_n dL_law_1090 rfl ?_
  refine px_iconst (v := 1) dL_law_1091 (by decide) ?_
  refine px_iadd dL_law_1092 ?_
  refine px_saload dL_law_1093 (by first | exact s1 | exact s2 | exact he1 | exact s3) (by first | exact ix_k 1 (by omega) hL hL2 | exact ix_k 2 (by omega) hL hL2 | exact ix_k 3 (by omega) hL hL2 | exact ix_k 4 (by omega) hL hL2 | exact ix_k 5 (by omega) hL hL2) ?_
  refine px_aload_n dL_law_1094 rfl ?_
  refine px_iload_n dL_law_1095 rfl ?_
  refine px_iconst (v := 2) dL_law_1096 (by decide) ?_
  refine px_iadd dL_law_1097 ?_
  refine px_saload dL_law_1098 (by first | exact s1 | exact s2 | exact he1 | exact s3) (by first | exact ix_k 1 (by omega) hL hL2 | exact ix_k 2 (by omega) hL hL2 | exact ix_k 3 (by omega) hL hL2 | exact ix_k 4 (by omega) hL hL2 | exact ix_k 5 (by omega) hL hL2) ?_
  refine px_callV1 (ν := mX6_judge) (ci := 6) rfl rfl lk_L_146 in_X6_judge se_X6_judge mok_X6_judge dL_law_1099 (c1) (by first | exact s1 | exact s2 | exact he1 | exact s3) rfl rfl (by omega) (by simp) ?_
  refine px_aload_n dL_law_1102 rfl ?_
  refine px_aload_n dL_law_1103 rfl ?_
  refine px_iload_n dL_law_1104 rfl ?_
  refine px_iconst (v := 1) dL_law_1105 (by decide) ?_
  refine px_iadd dL_law_1106 ?_
  refine px_saload dL_law_1107 (by first | exact s1 | exact s2 | exact he1 | exact s3) (by first | exact ix_k 1 (by omega) hL hL2 | exact ix_k 2 (by omega) hL hL2 | exact ix_k 3 (by omega) hL hL2 | exact ix_k 4 (by omega) hL hL2 | exact ix_k 5 (by omega) hL hL2) ?_
  refine px_aload_n dL_law_1108 rfl ?_
  refine px_iload_n dL_law_1109 rfl ?_
  refine px_iconst (v := 2) dL_law_1110 (by decide) ?_
  refine px_iadd dL_law_1111 ?_
  refine px_saload dL_law_1112 (by first | exact s1 | exact s2 | exact he1 | exact s3) (by first | exact ix_k 1 (by omega) hL hL2 | exact ix_k 2 (by omega) hL hL2 | exact ix_k 3 (by omega) hL hL2 | exact ix_k 4 (by omega) hL hL2 | exact ix_k 5 (by omega) hL hL2) ?_
  refine px_callV1 (ν := mX7_judge) (ci := 7) rfl rfl lk_L_149 in_X7_judge se_X7_judge mok_X7_judge dL_law_1113 (c2) (by first | exact s1 | exact s2 | exact he1 | exact s3) rfl rfl (by omega) (by simp) ?_
  refine px_icmp_eq (tgt := 1147) dL_law_1116 (by decide) (fun hc1116 => ?_) (fun hc1116 => ?_)
  · refine px_iinc3 rfl hinc dL_law_1147 ?_
    refine px_goto (tgt := 18) dL_law_1150 (by decide) ?_
    exact hk
  · exact absurd rfl hc1116
theorem w_image (h : LI b L xs e r N0 W0 q C n w g M bk) (hq : q ≤ 511) (hL : 6 * q + 5 < L) (hL2 : L ≤ 3072) : ∃ (C' : CS) (n' w' : Nat) (G : Nat → Option va_E) (M' : MS) (bk' : BK), LI b L xs e r N0 W0 (q + 1) C' n' w' G M' bk' ∧ ∀ rr h1, EX B D 100 mL_law 18 [some (.ref b), some (.ref e), some (.ref r), some (.int (nI (6 * (q + 1))))] [] (n', w', mH r G M') rr h1 → EX B D 100 mL_law 1121 [some (.ref b), some (.ref e), some (.ref r), some (.int (nI (6 * q)))] [] (n, w, mH r g M) rr h1 := by
  obtain ⟨n', w', G, M', bk', c1, c2, c3, s2, s3⟩ := h.two (B := B) (D := D) hq (some3 (c_X6_image h.1 h.2.2.1 )) (fun n' w' G hcap => m_image h.2.1 )
  have s1 := h.2.2.2.2.1
  have he1 := h.1.1
  have hinc : nI (6 * q) + Int32.ofInt 6 = nI (6 * (q + 1)) := nI_add (6 * q) 6
  refine ⟨_, n', w', G, M', bk', c3, fun rr h1 hk => ?_⟩
  refine px_aload_n dL_law_1121 rfl ?_
  refine px_callV1 (ν := mX6_image) (ci := 6) rfl rfl lk_L_150 in_X6_image se_X6_image mok_X6_image dL_law_1122 (c1) (by first | exact s1 | exact s2 | exact he1 | exact s3) rfl rfl (by omega) (by simp) ?_
  refine px_aload_n dL_law_1125 rfl ?_
  refine px_callV1 (ν := mX7_image) (ci := 7) rfl rfl lk_L_153 in_X7_image se_X7_image mok_X7_image dL_law_1126 (c2) (by first | exact s1 | exact s2 | exact he1 | exact s3) rfl rfl (by omega) (by simp) ?_
  refine px_icmp_eq (tgt := 1147) dL_law_1129 (by decide) (fun hc1129 => ?_) (fun hc1129 => ?_)
  · refine px_iinc3 rfl hinc dL_law_1147 ?_
    refine px_goto (tgt := 18) dL_law_1150 (by decide) ?_
    exact hk
  · exact absurd rfl hc1129
theorem w_undo (h : LI b L xs e r N0 W0 q C n w g M bk) (hq : q ≤ 511) (hL : 6 * q + 5 < L) (hL2 : L ≤ 3072) : ∃ (C' : CS) (n' w' : Nat) (G : Nat → Option va_E) (M' : MS) (bk' : BK), LI b L xs e r N0 W0 (q + 1) C' n' w' G M' bk' ∧ ∀ rr h1, EX B D 100 mL_law 18 [some (.ref b), some (.ref e), some (.ref r), some (.int (nI (6 * (q + 1))))] [] (n', w', mH r G M') rr h1 → EX B D 100 mL_law 1134 [some (.ref b), some (.ref e), some (.ref r), some (.int (nI (6 * q)))] [] (n, w, mH r g M) rr h1 := by
  obtain ⟨n', w', G, M', bk', c1, c2, c3, s2, s3⟩ := h.two (B := B) (D := D) hq (some3 (c_X6_undo h.1 h.2.2.1 )) (fun n' w' G hcap => m_undo h.2.1 )
  have s1 := h.2.2.2.2.1
  have he1 := h.1.1
  have hinc : nI (6 * q) + Int32.ofInt 6 = nI (6 * (q + 1)) := nI_add (6 * q) 6
  refine ⟨_, n', w', G, M', bk', c3, fun rr h1 hk => ?_⟩
  refine px_aload_n dL_law_1134 rfl ?_
  refine px_callV1 (ν := mX6_undo) (ci := 6) rfl rfl lk_L_154 in_X6_undo se_X6_undo mok_X6_undo dL_law_1135 (c1) (by first | exact s1 | exact s2 | exact he1 | exact s3) rfl rfl (by omega) (by simp) ?_
  refine px_aload_n dL_law_1138 rfl ?_
  refine px_callV1 (ν := mX7_undo) (ci := 7) rfl rfl lk_L_157 in_X7_undo se_X7_undo mok_X7_undo dL_law_1139 (c2) (by first | exact s1 | exact s2 | exact he1 | exact s3) rfl rfl (by omega) (by simp) ?_
  refine px_icmp_eq (tgt := 1147) dL_law_1142 (by decide) (fun hc1142 => ?_) (fun hc1142 => ?_)
  · refine px_iinc3 rfl hinc dL_law_1147 ?_
    refine px_goto (tgt := 18) dL_law_1150 (by decide) ?_
    exact hk
  · exact absurd rfl hc1142
end M80
