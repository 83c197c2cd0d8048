/-! the law's calls, one by one -/
section M80
variable {B : Nat} {D : va_G} {b L : Nat} {xs : Nat → Int32} {e r N0 W0 q : Nat} {C : CS} {n w : Nat} {g : Nat → Option va_E} {M : MS} {bk : BK}
theorem ix_k (k : Nat) (hk : k < 6) (h : 6 * q + 5 < L) (hL : L ≤ 3072) : 0 ≤ (nI (6 * q) + nI k).toInt ∧ (nI (6 * q) + nI k).toInt < (L : Int) := by
  rw [nI_add, nI_toInt (by omega)]
  omega
theorem ix_1 (h : 6 * q + 5 < L) (hL : L ≤ 3072) : 0 ≤ (nI (6 * q) + 1).toInt ∧ (nI (6 * q) + 1).toInt < (L : Int) := ix_k 1 (by decide) h hL
theorem ix_2 (h : 6 * q + 5 < L) (hL : L ≤ 3072) : 0 ≤ (nI (6 * q) + 2).toInt ∧ (nI (6 * q) + 2).toInt < (L : Int) := ix_k 2 (by decide) h hL
theorem ix_3 (h : 6 * q + 5 < L) (hL : L ≤ 3072) : 0 ≤ (nI (6 * q) + 3).toInt ∧ (nI (6 * q) + 3).toInt < (L : Int) := ix_k 3 (by decide) h hL
theorem ix_4 (h : 6 * q + 5 < L) (hL : L ≤ 3072) : 0 ≤ (nI (6 * q) + 4).toInt ∧ (nI (6 * q) + 4).toInt < (L : Int) := ix_k 4 (by decide) h hL
theorem ix_5 (h : 6 * q + 5 < L) (hL : L ≤ 3072) : 0 ≤ (nI (6 * q) + 5).toInt ∧ (nI (6 * q) + 5).toInt < (L : Int) := ix_k 5 (by decide) h hL
theorem w_give (h : LI b L xs e r N0 W0 q C n w g M bk) (hq : q ≤ 511) (hL : 6 * q + 5 < L) (hL2 : L ≤ 3072) : ∃ (C' : CS) (n' w' : Nat) (G : Nat → Option va_E) (M' : MS) (bk' : BK), LI b L xs e r N0 W0 (q + 1) C' n' w' G M' bk' ∧ ∀ rr h1, EX B D 100 mL_law 18 [some (.ref b), some (.ref e), some (.ref r), some (.int (nI (6 * (q + 1))))] [] (n', w', mH r G M') rr h1 → EX B D 100 mL_law 184 [some (.ref b), some (.ref e), some (.ref r), some (.int (nI (6 * q)))] [] (n, w, mH r g M) rr h1 := by
  obtain ⟨n', w', G, M', bk', c1, c2, c3, s2, s3⟩ := h.two (B := B) (D := D) hq (e_give h.1 h.2.2.1 (xs (nI (6 * q) + 1).toNatClampNeg) (xs (nI (6 * q) + 2).toNatClampNeg)) (fun n' w' G hcap => m_give h.2.1 (xs (nI (6 * q) + 1).toNatClampNeg) (xs (nI (6 * q) + 2).toNatClampNeg))
  have s1 := h.2.2.2.2.1
  have he1 := h.1.1
  have hinc : nI (6 * q) + Int32.ofInt 6 = nI (6 * (q + 1)) := nI_add (6 * q) 6
  refine ⟨_, n', w', G, M', bk', c3, fun rr h1 hk => ?_⟩
  refine px_aload_n dL_law_184 rfl ?_
  refine px_aload_n dL_law_185 rfl ?_
  refine px_iload_n dL_law_186 rfl ?_
  refine px_iconst (v := 1) dL_law_187 (by decide) ?_
  refine px_iadd dL_law_188 ?_
  refine px_saload dL_law_189 s1 (ix_1 hL hL2) ?_
  refine px_aload_n dL_law_190 rfl ?_
  refine px_iload_n dL_law_191 rfl ?_
  refine px_iconst (v := 2) dL_law_192 (by decide) ?_
  refine px_iadd dL_law_193 ?_
  refine px_saload dL_law_194 s1 (ix_2 hL hL2) ?_
  refine px_callV1 (ν := mX6_give) (ci := 6) rfl rfl lk_L_13 in_X6_give se_X6_give mok_X6_give dL_law_195 (c1) he1 rfl rfl (by omega) (by simp) ?_
  refine px_aload_n dL_law_198 rfl ?_
  refine px_aload_n dL_law_199 rfl ?_
  refine px_iload_n dL_law_200 rfl ?_
  refine px_iconst (v := 1) dL_law_201 (by decide) ?_
  refine px_iadd dL_law_202 ?_
  refine px_saload dL_law_203 s2 (ix_1 hL hL2) ?_
  refine px_aload_n dL_law_204 rfl ?_
  refine px_iload_n dL_law_205 rfl ?_
  refine px_iconst (v := 2) dL_law_206 (by decide) ?_
  refine px_iadd dL_law_207 ?_
  refine px_saload dL_law_208 s2 (ix_2 hL hL2) ?_
  refine px_callV1 (ν := mX7_give) (ci := 7) rfl rfl lk_L_17 in_X7_give se_X7_give mok_X7_give dL_law_209 (c2) s3 rfl rfl (by omega) (by simp) ?_
  refine px_icmp_eq (tgt := 1147) dL_law_212 (by decide) (fun hc212 => ?_) (fun hc212 => ?_)
  · refine px_iinc3 rfl hinc dL_law_1147 ?_
    refine px_goto (tgt := 18) dL_law_1150 (by decide) ?_
    exact hk
  · exact absurd rfl hc212
theorem w_take (h : LI b L xs e r N0 W0 q C n w g M bk) (hq : q ≤ 511) (hL : 6 * q + 5 < L) (hL2 : L ≤ 3072) : ∃ (C' : CS) (n' w' : Nat) (G : Nat → Option va_E) (M' : MS) (bk' : BK), LI b L xs e r N0 W0 (q + 1) C' n' w' G M' bk' ∧ ∀ rr h1, EX B D 100 mL_law 18 [some (.ref b), some (.ref e), some (.ref r), some (.int (nI (6 * (q + 1))))] [] (n', w', mH r G M') rr h1 → EX B D 100 mL_law 217 [some (.ref b), some (.ref e), some (.ref r), some (.int (nI (6 * q)))] [] (n, w, mH r g M) rr h1 := by
  obtain ⟨n', w', G, M', bk', c1, c2, c3, s2, s3⟩ := h.two (B := B) (D := D) hq (some3 (e_take h.1 h.2.2.1 (xs (nI (6 * q) + 1).toNatClampNeg))) (fun n' w' G hcap => m_take h.2.1 (xs (nI (6 * q) + 1).toNatClampNeg))
  have s1 := h.2.2.2.2.1
  have he1 := h.1.1
  have hinc : nI (6 * q) + Int32.ofInt 6 = nI (6 * (q + 1)) := nI_add (6 * q) 6
  refine ⟨_, n', w', G, M', bk', c3, fun rr h1 hk => ?_⟩
  refine px_aload_n dL_law_217 rfl ?_
  refine px_aload_n dL_law_218 rfl ?_
  refine px_iload_n dL_law_219 rfl ?_
  refine px_iconst (v := 1) dL_law_220 (by decide) ?_
  refine px_iadd dL_law_221 ?_
  refine px_saload dL_law_222 s1 (ix_1 hL hL2) ?_
  refine px_callV1 (ν := mX6_take) (ci := 6) rfl rfl lk_L_18 in_X6_take se_X6_take mok_X6_take dL_law_223 (c1) he1 rfl rfl (by omega) (by simp) ?_
  refine px_aload_n dL_law_226 rfl ?_
  refine px_aload_n dL_law_227 rfl ?_
  refine px_iload_n dL_law_228 rfl ?_
  refine px_iconst (v := 1) dL_law_229 (by decide) ?_
  refine px_iadd dL_law_230 ?_
  refine px_saload dL_law_231 s2 (ix_1 hL hL2) ?_
  refine px_callV1 (ν := mX7_take) (ci := 7) rfl rfl lk_L_22 in_X7_take se_X7_take mok_X7_take dL_law_232 (c2) s3 rfl rfl (by omega) (by simp) ?_
  refine px_icmp_eq (tgt := 1147) dL_law_235 (by decide) (fun hc235 => ?_) (fun hc235 => ?_)
  · refine px_iinc3 rfl hinc dL_law_1147 ?_
    refine px_goto (tgt := 18) dL_law_1150 (by decide) ?_
    exact hk
  · exact absurd rfl hc235
end M80
