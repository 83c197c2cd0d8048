/-! the reference: RESULTS and FAILURES looked at -/
section M68
variable {B : Nat} {D : va_G} {n w r : Nat} {f : Nat → Option va_E} {bk : BK} {M : MS} {C : CS}
theorem m_result (h : RP bk M C) (hcap : ne bk + 16 ≤ 8900) (k : Int32) : RQ B D n w r f 50 mX7_result [.int k] bk M (.int (v_result C.1.1.A k)) C := by
  by_cases hk : s_isKey k = true
  · obtain ⟨j, hj, rfl⟩ := inK.mp hk
    have h0 : v_result C.1.1.A (nI j) = toldO (aHas C.1.1.A j) := by unfold v_result; rw [if_pos hk, nI_clamp (by omega)]
    rw [h0]
    obtain ⟨M', bk', x, c1, c2, c3⟩ := c_X7_has (B := B) (D := D) (n := n) (w := w) (r := r) (f := f) h.1 (by omega) h.2.1.1.1 h.2.1.1.2.2.1 hj
    refine ⟨M', bk', ?_, h.bs c2, by have := c2.2.2.2; omega⟩
    refine CT.of [some (.ref r), some (.int (nI j))] rfl (Nat.le_of_ble_eq_true rfl) pl_X7 trivial ?_
    refine px_iload_n dX7_result_0 rfl ?_
    refine px_callS1 (ν := mX7_isKey) lk_X7_208 st_X7_isKey mok_X7_isKey dX7_result_1 (cr_isKey _) rfl rfl (by omega) (by simp) ?_
    refine px_ifb_eq (tgt := 19) dX7_result_4 (by decide) (fun hc4 => ?_) (fun hc4 => ?_)
    · rw [hk] at hc4; cases hc4
    · refine px_aload_n dX7_result_7 rfl ?_
      refine px_aload_n dX7_result_8 rfl ?_
      refine px_iload_n dX7_result_9 rfl ?_
      refine px_callV1 (ν := mX7_has) (ci := 7) rfl rfl lk_X7_156 in_X7_has se_X7_has mok_X7_has dX7_result_10 (c1) (by exact mH_0) rfl rfl (by omega) (by simp) ?_
      refine px_callV1 (ν := mX7_toldOf) (ci := 7) rfl rfl lk_X7_211 in_X7_toldOf se_X7_toldOf mok_X7_toldOf dX7_result_13 (c_X7_toldOf c2.1 c3) (by exact mH_0) rfl rfl (by omega) (by simp) ?_
      refine px_goto (tgt := 20) dX7_result_16 (by decide) ?_
      exact px_reti dX7_result_20 (by rfl) (by rfl)
  · have h0 : v_result C.1.1.A k = -1 := by unfold v_result; rw [if_neg hk]
    rw [h0]
    refine RQ.same h ?_
    refine CT.of [some (.ref r), some (.int k)] rfl (Nat.le_of_ble_eq_true rfl) pl_X7 trivial ?_
    refine px_iload_n dX7_result_0 rfl ?_
    refine px_callS1 (ν := mX7_isKey) lk_X7_208 st_X7_isKey mok_X7_isKey dX7_result_1 (cr_isKey _) rfl rfl (by omega) (by simp) ?_
    refine px_ifb_eq (tgt := 19) dX7_result_4 (by decide) (fun hc4 => ?_) (fun hc4 => ?_)
    · refine px_iconst (v := (-1)) dX7_result_19 (by decide) ?_
      exact px_reti dX7_result_20 (by rfl) (by rfl)
    · exact absurd hc4 hk
theorem l_X7_causeOf_16 {d q : Nat} {x : Int32} (hq : q < 2 ^ 31) (hb : Bk M bk) : ∀ (l : List Q4) (k : Nat) (y : Int32), k ≤ q → Cd bk l y → (l = [] ∨ isF l = true) → ∃ z : Int32, EX B D d mX7_causeOf 16 [some (.ref r), some (.int x), some (.int (nI q)), some (.int (y)), some (.int (nI k))] [] (n, w, mH r f M) (some (.int z)) (n, w, mH r f M) ∧ Cd bk (l.drop (q - k)) z
  | [], k, y, hk, hy, hl => by
    have hy : y = -1 := hy
    subst hy
    refine ⟨-1, ?_, by rw [List.drop_nil]; rfl⟩
    refine px_iload dX7_causeOf_16 rfl ?_
    refine px_iload_n dX7_causeOf_18 rfl ?_
    refine px_icmp_ge (tgt := 41) dX7_causeOf_19 (by decide) (fun hc19 => ?_) (fun hc19 => ?_)
    · refine px_iload_n dX7_causeOf_41 rfl ?_
      exact px_reti dX7_causeOf_42 (by rfl) (by rfl)
    · refine px_iload_n dX7_causeOf_22 rfl ?_
      refine px_if_lt (tgt := 41) dX7_causeOf_23 (by decide) (fun hc23 => ?_) (fun hc23 => ?_)
      · refine px_iload_n dX7_causeOf_41 rfl ?_
        exact px_reti dX7_causeOf_42 (by rfl) (by rfl)
      · exact absurd (by decide) hc23
  | c :: l, k, y, hk, hy, hl => by
    have hf : isF (c :: l) = true := hl.resolve_left (by simp)
    obtain ⟨k', s', t', l', i, y', e1, e2, e3, e4, e5, e6, e7, e8⟩ := hy.row hf
    cases e1
    have hpos := hy.ne (List.cons_ne_nil _ _)
    by_cases hkq : k = q
    · subst hkq
      refine ⟨y, ?_, by rw [Nat.sub_self]; exact hy⟩
      refine px_iload dX7_causeOf_16 rfl ?_
      refine px_iload_n dX7_causeOf_18 rfl ?_
      refine px_icmp_ge (tgt := 41) dX7_causeOf_19 (by decide) (fun hc19 => ?_) (fun hc19 => ?_)
      · refine px_iload_n dX7_causeOf_41 rfl ?_
        exact px_reti dX7_causeOf_42 (by rfl) (by rfl)
      · exact absurd (Int32.le_refl _) hc19
    · obtain ⟨z, h1, h2⟩ := l_X7_causeOf_16 (d := d) (x := x) hq hb l (k + 1) y' (by omega) e7 e8
      have hrow := (hb.2.1 i _ e6).2.2.2
      have hrow : M.2.1 4 i = y' := hrow
      refine ⟨z, ?_, by rw [show q - k = (q - (k + 1)) + 1 by omega]; exact h2⟩
      refine px_iload dX7_causeOf_16 rfl ?_
      refine px_iload_n dX7_causeOf_18 rfl ?_
      refine px_icmp_ge (tgt := 41) dX7_causeOf_19 (by decide) (fun hc19 => ?_) (fun hc19 => ?_)
      · exact absurd hc19 (nI_ge (by omega) hq)
      · refine px_iload_n dX7_causeOf_22 rfl ?_
        refine px_if_lt (tgt := 41) dX7_causeOf_23 (by decide) (fun hc23 => ?_) (fun hc23 => ?_)
        · exact absurd hc23 hpos
        · refine px_aload_n dX7_causeOf_26 rfl ?_
          refine mx_get fl_X7_30 dX7_causeOf_27 rfl ?_
          refine px_iload_n dX7_causeOf_30 rfl ?_
          refine px_iconst (v := 2) dX7_causeOf_31 (by decide) ?_
          refine px_idiv dX7_causeOf_32 (by decide) ?_
          refine mx_iaload (j := 4) (m := 9000) (q := i) dX7_causeOf_33 (by decide) (by exact e5) (by omega) ?_
          rw [hrow]
          refine px_istore3 rfl dX7_causeOf_34 ?_
          refine px_iinc4 rfl (nI_inc k) dX7_causeOf_35 ?_
          refine px_goto (tgt := 16) dX7_causeOf_38 (by decide) ?_
          exact h1
theorem fl_code {A : AW} {t : Nat} {x : Int32} (h : CdO bk (A.rs (8 + t)) x) : Cd bk ((aFail A (8 + t)).getD []) (if t_isFail x = true then x else -1) ∧ ((aFail A (8 + t)).getD [] = [] ∨ isF ((aFail A (8 + t)).getD []) = true) := by
  have hf := fail_o h
  unfold aFail at hf ⊢
  rw [show aHas A (8 + t) = A.rs (8 + t) from if_neg (by omega)] at hf ⊢
  cases hr : A.rs (8 + t) with
  | none =>
    rw [hr] at hf
    rw [hf]
    exact ⟨rfl, Or.inl rfl⟩
  | some l =>
    rw [hr] at hf h
    have h2 := h.2.fail
    cases hl : isF l with
    | true =>
      rw [hl] at h2
      rw [h2]
      simp only [hl, if_true, Option.getD_some]
      exact ⟨h.2, Or.inr trivial⟩
    | false =>
      rw [hl] at h2
      rw [h2]
      simp only [hl, Bool.false_eq_true, if_false, Option.getD_none]
      exact ⟨rfl, Or.inl trivial⟩
theorem c_X7_causeOf {l : List Q4} {x : Int32} {q : Nat} (hq : q < 2 ^ 31) (hb : Bk M bk) (hx : Cd bk l (if t_isFail x = true then x else -1)) (hl : l = [] ∨ isF l = true) : ∃ z : Int32, CT B D 1 mX7_causeOf [.ref r, .int x, .int (nI q)] (n, w, mH r f M) (some (.int z)) (n, w, mH r f M) ∧ Cd bk (l.drop q) z := by
  obtain ⟨z, h1, h2⟩ := l_X7_causeOf_16 (B := B) (D := D) (n := n) (w := w) (r := r) (f := f) (d := 1) (x := x) hq hb l 0 _ (Nat.zero_le _) hx hl
  refine ⟨z, ?_, h2⟩
  refine CT.of [some (.ref r), some (.int x), some (.int (nI q)), none, none] rfl (Nat.le_of_ble_eq_true rfl) pl_X7 trivial ?_
  refine px_iload_n dX7_causeOf_0 rfl ?_
  refine px_callS1 (ν := mX7_isFailure) lk_X7_34 st_X7_isFailure mok_X7_isFailure dX7_causeOf_1 (c_X7_isFailure _) rfl rfl (by omega) (by simp) ?_
  refine px_ifb_eq (tgt := 11) dX7_causeOf_4 (by decide) (fun hc4 => ?_) (fun hc4 => ?_)
  · refine px_iconst (v := (-1)) dX7_causeOf_11 (by decide) ?_
    refine px_istore3 rfl dX7_causeOf_12 ?_
    refine px_iconst (v := 0) dX7_causeOf_13 (by decide) ?_
    refine px_istore4 rfl dX7_causeOf_14 ?_
    first | (rw [if_pos hc4] at h1; exact h1) | (rw [if_neg (by rw [hc4]; decide)] at h1; exact h1)
  · refine px_iload_n dX7_causeOf_7 rfl ?_
    refine px_goto (tgt := 12) dX7_causeOf_8 (by decide) ?_
    refine px_istore3 rfl dX7_causeOf_12 ?_
    refine px_iconst (v := 0) dX7_causeOf_13 (by decide) ?_
    refine px_istore4 rfl dX7_causeOf_14 ?_
    first | (rw [if_pos hc4] at h1; exact h1) | (rw [if_neg (by rw [hc4]; decide)] at h1; exact h1)
theorem sin_w (k : Int32) : s_isInL k.toInt64 0 2 = (!decide (k < 0) && !decide (2 < k)) := by
  rw [sin_lt (x := 0) (y := 2) (by decide) (by decide), Bool.eq_iff_iff]
  simp only [Bool.and_eq_true, Bool.not_eq_true', decide_eq_true_eq, decide_eq_false_iff_not, Int32.lt_iff_toInt_lt]
  rw [show (0 : Int32).toInt = 0 by decide, show (2 : Int32).toInt = 2 by decide]
  omega
theorem m_failure (h : RP bk M C) (k i x : Int32) : RQ B D n w r f 50 mX7_failure [.int k, .int i, .int x] bk M (.int (v_failure C.1.1.A k i x)) C := by
  refine RQ.same h ?_
  have hw := sin_w x
  by_cases hc : s_isTarget k = true ∧ ¬ x < 0 ∧ ¬ 2 < x
  · obtain ⟨hk, hx1, hx2⟩ := hc
    obtain ⟨t, ht, rfl⟩ := inT.mp hk
    rw [decide_eq_false hx1, decide_eq_false hx2] at hw
    have hw : s_isInL x.toInt64 0 2 = true := hw
    by_cases hi : i < 0
    · have h0 : v_failure C.1.1.A (nI (8 + t)) i x = -3 := by unfold v_failure; rw [if_pos ⟨hk, hx1, hx2⟩, if_pos hi]
      rw [h0]
      refine CT.of [some (.ref r), some (.int (nI (8 + t))), some (.int i), some (.int x), none] rfl (Nat.le_of_ble_eq_true rfl) pl_X7 trivial ?_
      refine px_iload_n dX7_failure_0 rfl ?_
      refine px_callS1 (ν := mX7_isTarget) lk_X7_101 st_X7_isTarget mok_X7_isTarget dX7_failure_1 (cr_isTarget _) rfl rfl (by omega) (by simp) ?_
      refine px_ifb_eq (tgt := 19) dX7_failure_4 (by decide) (fun hc4 => ?_) (fun hc4 => ?_)
      · rw [hk] at hc4; cases hc4
      · refine px_iload_n dX7_failure_7 rfl ?_
        refine px_i2l dX7_failure_8 ?_
        refine px_lconst (v := 0) dX7_failure_9 (by decide) ?_
        refine px_ldc2 dX7_failure_10 kc_X7_214 ?_
        refine px_callS1 (ν := mX7_isIn) lk_X7_7 st_X7_isIn mok_X7_isIn dX7_failure_13 (c_X7_isIn _ _ _) rfl rfl (by omega) (by simp) ?_
        refine px_ifb_ne (tgt := 21) dX7_failure_16 (by decide) (fun hc16 => ?_) (fun hc16 => ?_)
        · refine px_iload_n dX7_failure_21 rfl ?_
          refine px_if_ge (tgt := 29) dX7_failure_22 (by decide) (fun hc22 => ?_) (fun hc22 => ?_)
          · exact absurd hi (Int32.not_lt.mpr hc22)
          · refine px_iconst (v := (-1)) dX7_failure_25 (by decide) ?_
            refine px_goto (tgt := 39) dX7_failure_26 (by decide) ?_
            refine px_istore4 rfl dX7_failure_39 ?_
            refine px_iload dX7_failure_41 rfl ?_
            refine px_if_ge (tgt := 49) dX7_failure_43 (by decide) (fun hc43 => ?_) (fun hc43 => ?_)
            · exact absurd hc43 (by decide)
            · refine px_bipush (v := (-3)) dX7_failure_46 (by decide) ?_
              exact px_reti dX7_failure_48 (by rfl) (by rfl)
        · rw [hw] at hc16; cases hc16
    · obtain ⟨q, hq, rfl⟩ := nI_of hi
      obtain ⟨f1, f2⟩ := fl_code (h.2.1.1.2.2.1 t ht)
      obtain ⟨z, g1, g2⟩ := c_X7_causeOf (B := B) (D := D) (n := n) (w := w) (r := r) (f := f) hq h.1 f1 f2
      have hq0 : (0 : Int32) ≤ nI q := nI_pos' hq
      have h0 : v_failure C.1.1.A (nI (8 + t)) (nI q) x = v_pick x (((aFail C.1.1.A (8 + t)).getD [])[q]?) := by unfold v_failure; rw [if_pos ⟨hk, hx1, hx2⟩, if_neg hi, nI_clamp (by omega), nI_clamp hq]
      rw [h0]
      cases hd : ((aFail C.1.1.A (8 + t)).getD []).drop q with
      | nil =>
        rw [hd] at g2
        have g2 : z = -1 := g2
        subst g2
        have hn : ((aFail C.1.1.A (8 + t)).getD [])[q]? = none := List.getElem?_eq_none_iff.mpr (List.drop_eq_nil_iff.mp hd)
        rw [hn]
        refine CT.of [some (.ref r), some (.int (nI (8 + t))), some (.int (nI q)), some (.int x), none] rfl (Nat.le_of_ble_eq_true rfl) pl_X7 trivial ?_
        refine px_iload_n dX7_failure_0 rfl ?_
        refine px_callS1 (ν := mX7_isTarget) lk_X7_101 st_X7_isTarget mok_X7_isTarget dX7_failure_1 (cr_isTarget _) rfl rfl (by omega) (by simp) ?_
        refine px_ifb_eq (tgt := 19) dX7_failure_4 (by decide) (fun hc4 => ?_) (fun hc4 => ?_)
        · rw [hk] at hc4; cases hc4
        · refine px_iload_n dX7_failure_7 rfl ?_
          refine px_i2l dX7_failure_8 ?_
          refine px_lconst (v := 0) dX7_failure_9 (by decide) ?_
          refine px_ldc2 dX7_failure_10 kc_X7_214 ?_
          refine px_callS1 (ν := mX7_isIn) lk_X7_7 st_X7_isIn mok_X7_isIn dX7_failure_13 (c_X7_isIn _ _ _) rfl rfl (by omega) (by simp) ?_
          refine px_ifb_ne (tgt := 21) dX7_failure_16 (by decide) (fun hc16 => ?_) (fun hc16 => ?_)
          · refine px_iload_n dX7_failure_21 rfl ?_
            refine px_if_ge (tgt := 29) dX7_failure_22 (by decide) (fun hc22 => ?_) (fun hc22 => ?_)
            · refine px_aload_n dX7_failure_29 rfl ?_
              refine px_aload_n dX7_failure_30 rfl ?_
              refine px_iload_n dX7_failure_31 rfl ?_
              refine px_callV1 (ν := mX7_has) (ci := 7) rfl rfl lk_X7_156 in_X7_has se_X7_has mok_X7_has dX7_failure_32 (c_X7_has_t ht) (by exact mH_0) rfl rfl (by omega) (by simp) ?_
              refine px_iload_n dX7_failure_35 rfl ?_
              refine px_callV1 (ν := mX7_causeOf) (ci := 7) rfl rfl lk_X7_216 in_X7_causeOf se_X7_causeOf mok_X7_causeOf dX7_failure_36 (g1) (by exact mH_0) rfl rfl (by omega) (by simp) ?_
              refine px_istore4 rfl dX7_failure_39 ?_
              refine px_iload dX7_failure_41 rfl ?_
              refine px_if_ge (tgt := 49) dX7_failure_43 (by decide) (fun hc43 => ?_) (fun hc43 => ?_)
              · exact absurd hc43 (by decide)
              · refine px_bipush (v := (-3)) dX7_failure_46 (by decide) ?_
                exact px_reti dX7_failure_48 (by rfl) (by rfl)
            · exact absurd hq0 hc22
          · rw [hw] at hc16; cases hc16
      | cons c l =>
        have hsm : ((aFail C.1.1.A (8 + t)).getD [])[q]? = some c := by have := congrArg List.head? hd; rwa [List.head?_drop] at this
        rw [hsm]
        rw [hd] at g2
        have hfc : isF (c :: l) = true := by
          have hall : ∀ (l : List Q4) (y : Int32) (q : Nat), Cd bk l y → (l = [] ∨ isF l = true) → l.drop q = [] ∨ isF (l.drop q) = true := fun l => by
            induction l with
            | nil => intro y q _ _; left; exact List.drop_nil
            | cons a l ih =>
              intro y q hy hl
              cases q with
              | zero => exact hl
              | succ q =>
                obtain ⟨k', s', t', l', i, y', e1, e2, e3, e4, e5, e6, e7, e8⟩ := hy.row (hl.resolve_left (by simp))
                cases e1
                exact ih y' q e7 e8
          have := hall _ _ q f1 f2
          rw [hd] at this
          exact this.resolve_left (by simp)
        obtain ⟨k', s', t', l', i, y', e1, e2, e3, e4, e5, e6, e7, e8⟩ := g2.row hfc
        cases e1
        obtain ⟨r1, r2, r3, r4⟩ := h.1.2.1 i _ e6
        have hz : (0 : Int32) ≤ z := Int32.not_lt.mp (g2.ne (List.cons_ne_nil _ _))
        have v0 : x = 0 → v_pick x (some ((0, k', s', t') : Q4)) = k' := fun e => by rw [e]; rfl
        have v1 : ¬ x = 0 → x = 1 → v_pick x (some ((0, k', s', t') : Q4)) = s' := fun e1 e2 => by rw [e2]; rfl
        have v2 : ¬ x = 0 → ¬ x = 1 → v_pick x (some ((0, k', s', t') : Q4)) = t' := fun e1 e2 => by unfold v_pick; simp only [e1, e2, if_false]
        refine CT.of [some (.ref r), some (.int (nI (8 + t))), some (.int (nI q)), some (.int x), none] rfl (Nat.le_of_ble_eq_true rfl) pl_X7 trivial ?_
        refine px_iload_n dX7_failure_0 rfl ?_
        refine px_callS1 (ν := mX7_isTarget) lk_X7_101 st_X7_isTarget mok_X7_isTarget dX7_failure_1 (cr_isTarget _) rfl rfl (by omega) (by simp) ?_
        refine px_ifb_eq (tgt := 19) dX7_failure_4 (by decide) (fun hc4 => ?_) (fun hc4 => ?_)
        · rw [hk] at hc4; cases hc4
        · refine px_iload_n dX7_failure_7 rfl ?_
          refine px_i2l dX7_failure_8 ?_
          refine px_lconst (v := 0) dX7_failure_9 (by decide) ?_
          refine px_ldc2 dX7_failure_10 kc_X7_214 ?_
          refine px_callS1 (ν := mX7_isIn) lk_X7_7 st_X7_isIn mok_X7_isIn dX7_failure_13 (c_X7_isIn _ _ _) rfl rfl (by omega) (by simp) ?_
          refine px_ifb_ne (tgt := 21) dX7_failure_16 (by decide) (fun hc16 => ?_) (fun hc16 => ?_)
          · refine px_iload_n dX7_failure_21 rfl ?_
            refine px_if_ge (tgt := 29) dX7_failure_22 (by decide) (fun hc22 => ?_) (fun hc22 => ?_)
            · refine px_aload_n dX7_failure_29 rfl ?_
              refine px_aload_n dX7_failure_30 rfl ?_
              refine px_iload_n dX7_failure_31 rfl ?_
              refine px_callV1 (ν := mX7_has) (ci := 7) rfl rfl lk_X7_156 in_X7_has se_X7_has mok_X7_has dX7_failure_32 (c_X7_has_t ht) (by exact mH_0) rfl rfl (by omega) (by simp) ?_
              refine px_iload_n dX7_failure_35 rfl ?_
              refine px_callV1 (ν := mX7_causeOf) (ci := 7) rfl rfl lk_X7_216 in_X7_causeOf se_X7_causeOf mok_X7_causeOf dX7_failure_36 (g1) (by exact mH_0) rfl rfl (by omega) (by simp) ?_
              refine px_istore4 rfl dX7_failure_39 ?_
              refine px_iload dX7_failure_41 rfl ?_
              refine px_if_ge (tgt := 49) dX7_failure_43 (by decide) (fun hc43 => ?_) (fun hc43 => ?_)
              · refine px_iload_n dX7_failure_49 rfl ?_
                refine px_if_ne (tgt := 65) dX7_failure_50 (by decide) (fun hc50 => ?_) (fun hc50 => ?_)
                · refine px_iload_n dX7_failure_65 rfl ?_
                  refine px_iconst (v := 1) dX7_failure_66 (by decide) ?_
                  refine px_icmp_ne (tgt := 82) dX7_failure_67 (by decide) (fun hc67 => ?_) (fun hc67 => ?_)
                  · refine px_aload_n dX7_failure_82 rfl ?_
                    refine mx_get fl_X7_27 dX7_failure_83 rfl ?_
                    refine px_iload dX7_failure_86 rfl ?_
                    refine px_iconst (v := 2) dX7_failure_88 (by decide) ?_
                    refine px_idiv dX7_failure_89 (by decide) ?_
                    refine mx_iaload (j := 3) (m := 9000) (q := i) dX7_failure_90 (by decide) (by exact e5) (by omega) ?_
                    exact px_reti dX7_failure_91 (by first | (rw [v0 hc50, r1]; done) | (rw [v1 hc50 hc67, r2]; done) | (rw [v2 hc50 hc67, r3]; done)) (by rfl)
                  · refine px_aload_n dX7_failure_70 rfl ?_
                    refine mx_get fl_X7_24 dX7_failure_71 rfl ?_
                    refine px_iload dX7_failure_74 rfl ?_
                    refine px_iconst (v := 2) dX7_failure_76 (by decide) ?_
                    refine px_idiv dX7_failure_77 (by decide) ?_
                    refine mx_iaload (j := 2) (m := 9000) (q := i) dX7_failure_78 (by decide) (by exact e5) (by omega) ?_
                    refine px_goto (tgt := 91) dX7_failure_79 (by decide) ?_
                    exact px_reti dX7_failure_91 (by first | (rw [v0 hc50, r1]; done) | (rw [v1 hc50 hc67, r2]; done) | (rw [v2 hc50 hc67, r3]; done)) (by rfl)
                · refine px_aload_n dX7_failure_53 rfl ?_
                  refine mx_get fl_X7_20 dX7_failure_54 rfl ?_
                  refine px_iload dX7_failure_57 rfl ?_
                  refine px_iconst (v := 2) dX7_failure_59 (by decide) ?_
                  refine px_idiv dX7_failure_60 (by decide) ?_
                  refine mx_iaload (j := 1) (m := 9000) (q := i) dX7_failure_61 (by decide) (by exact e5) (by omega) ?_
                  refine px_goto (tgt := 91) dX7_failure_62 (by decide) ?_
                  exact px_reti dX7_failure_91 (by first | (rw [v0 hc50, r1]; done) | (rw [v1 hc50 hc67, r2]; done) | (rw [v2 hc50 hc67, r3]; done)) (by rfl)
              · exact absurd hz hc43
            · exact absurd hq0 hc22
          · rw [hw] at hc16; cases hc16
  · have h0 : v_failure C.1.1.A k i x = -1 := by unfold v_failure; rw [if_neg hc]
    rw [h0]
    have hcc : s_isTarget k = true → s_isInL x.toInt64 0 2 = true → False := fun a b => hc ⟨a, by rw [hw] at b; simpa using b⟩
    refine CT.of [some (.ref r), some (.int k), some (.int i), some (.int x), none] rfl (Nat.le_of_ble_eq_true rfl) pl_X7 trivial ?_
    refine px_iload_n dX7_failure_0 rfl ?_
    refine px_callS1 (ν := mX7_isTarget) lk_X7_101 st_X7_isTarget mok_X7_isTarget dX7_failure_1 (cr_isTarget _) rfl rfl (by omega) (by simp) ?_
    refine px_ifb_eq (tgt := 19) dX7_failure_4 (by decide) (fun hc4 => ?_) (fun hc4 => ?_)
    · refine px_iconst (v := (-1)) dX7_failure_19 (by decide) ?_
      exact px_reti dX7_failure_20 (by rfl) (by rfl)
    · refine px_iload_n dX7_failure_7 rfl ?_
      refine px_i2l dX7_failure_8 ?_
      refine px_lconst (v := 0) dX7_failure_9 (by decide) ?_
      refine px_ldc2 dX7_failure_10 kc_X7_214 ?_
      refine px_callS1 (ν := mX7_isIn) lk_X7_7 st_X7_isIn mok_X7_isIn dX7_failure_13 (c_X7_isIn _ _ _) rfl rfl (by omega) (by simp) ?_
      refine px_ifb_ne (tgt := 21) dX7_failure_16 (by decide) (fun hc16 => ?_) (fun hc16 => ?_)
      · exact (hcc hc4 hc16).elim
      · refine px_iconst (v := (-1)) dX7_failure_19 (by decide) ?_
        exact px_reti dX7_failure_20 (by rfl) (by rfl)
theorem l_X7_causes_23 {d : Nat} {k0 : Int32} (hb : Bk M bk) : ∀ (l : List Q4) (y : Int32) (j : Nat), Cd bk l y → (l = [] ∨ isF l = true) → j + l.length < 2 ^ 31 → EX B D d mX7_causes 23 [some (.ref r), some (.int k0), some (.int (nI j)), some (.int (y))] [] (n, w, mH r f M) (some (.int (nI (j + l.length)))) (n, w, mH r f M)
  | [], y, j, hy, hl, hj => by
    have hy : y = -1 := hy
    subst hy
    refine px_iload_n dX7_causes_23 rfl ?_
    refine px_if_lt (tgt := 51) dX7_causes_24 (by decide) (fun hc24 => ?_) (fun hc24 => ?_)
    · refine px_iload_n dX7_causes_51 rfl ?_
      exact px_reti dX7_causes_52 (by rfl) (by rfl)
    · exact absurd (by decide) hc24
  | c :: l, y, j, hy, hl, hj => by
    obtain ⟨k', s', t', l', i, y', e1, e2, e3, e4, e5, e6, e7, e8⟩ := hy.row (hl.resolve_left (by simp))
    cases e1
    have hpos := hy.ne (List.cons_ne_nil _ _)
    have hrow : M.2.1 4 i = y' := (hb.2.1 i _ e6).2.2.2
    have hj2 : j + l.length + 1 < 2 ^ 31 := by simp at hj; omega
    have ih := l_X7_causes_23 (d := d) (k0 := k0) hb l y' (j + 1) e7 e8 (by omega)
    rw [show j + 1 + l.length = j + (((0, k', s', t') : Q4) :: l).length by simp; omega] at ih
    rw [← nI_1] at ih
    refine px_iload_n dX7_causes_23 rfl ?_
    refine px_if_lt (tgt := 51) dX7_causes_24 (by decide) (fun hc24 => ?_) (fun hc24 => ?_)
    · exact absurd hc24 hpos
    · refine px_iload_n dX7_causes_27 rfl ?_
      refine px_if_ge (tgt := 35) dX7_causes_28 (by decide) (fun hc28 => ?_) (fun hc28 => ?_)
      · refine px_iload_n dX7_causes_35 rfl ?_
        refine px_iconst (v := 1) dX7_causes_36 (by decide) ?_
        refine px_iadd dX7_causes_37 ?_
        refine px_istore2 rfl dX7_causes_38 ?_
        refine px_aload_n dX7_causes_39 rfl ?_
        refine mx_get fl_X7_30 dX7_causes_40 rfl ?_
        refine px_iload_n dX7_causes_43 rfl ?_
        refine px_iconst (v := 2) dX7_causes_44 (by decide) ?_
        refine px_idiv dX7_causes_45 (by decide) ?_
        refine mx_iaload (j := 4) (m := 9000) (q := i) dX7_causes_46 (by decide) (by exact e5) (by omega) ?_
        rw [hrow]
        refine px_istore3 rfl dX7_causes_47 ?_
        refine px_goto (tgt := 23) dX7_causes_48 (by decide) ?_
        exact ih
      · exact absurd (nI_pos' (by omega)) hc28
theorem Cd.idx {bk : BK} : ∀ (l : List Q4) (y : Int32), Cd bk l y → (l = [] ∨ isF l = true) → ∃ is : List Nat, is.length = l.length ∧ is.Nodup ∧ ∀ i, i ∈ is → i < 9000 ∧ ∃ l2 : List Q4, l2.length ≤ l.length ∧ Cd bk l2 (nI (2 * i + 1))
  | [], y, hy, hl => ⟨[], rfl, List.nodup_nil, fun i hi => by cases hi⟩
  | c :: l, y, hy, hl => by
    obtain ⟨k', s', t', l', i, y', e1, e2, e3, e4, e5, e6, e7, e8⟩ := hy.row (hl.resolve_left (by simp))
    cases e1
    obtain ⟨is, h1, h2, h3⟩ := Cd.idx l y' e7 e8
    refine ⟨i :: is, by simp [h1], List.nodup_cons.mpr ⟨fun hm => ?_, h2⟩, fun j hj => ?_⟩
    · obtain ⟨-, l2, g1, g2⟩ := h3 i hm
      rw [← e4] at g2
      have := g2.inj hy
      rw [this] at g1
      simp at g1
      omega
    · rcases List.mem_cons.mp hj with e | e
      · subst e
        exact ⟨e3, _, Nat.le_refl _, by rw [← e4]; exact hy⟩
      · obtain ⟨g0, l2, g1, g2⟩ := h3 j e
        exact ⟨g0, l2, by simp; omega, g2⟩
theorem Cd.len {bk : BK} {l : List Q4} {y : Int32} (hy : Cd bk l y) (hl : l = [] ∨ isF l = true) : l.length ≤ 9000 := by
  obtain ⟨is, h1, h2, h3⟩ := Cd.idx l y hy hl
  have h4 := List.Nodup.length_le_of_subset (l₂ := List.range 9000) h2 (fun i hi => List.mem_range.mpr (h3 i hi).1)
  rw [List.length_range] at h4
  omega
theorem m_causes (h : RP bk M C) (k : Int32) : RQ B D n w r f 50 mX7_causes [.int k] bk M (.int (v_causes C.1.1.A k)) C := by
  refine RQ.same h ?_
  by_cases hk : s_isTarget k = true
  · obtain ⟨t, ht, rfl⟩ := inT.mp hk
    obtain ⟨f1, f2⟩ := fl_code (h.2.1.1.2.2.1 t ht)
    obtain ⟨z, g1, g2⟩ := c_X7_causeOf (B := B) (D := D) (n := n) (w := w) (r := r) (f := f) (q := 0) (by omega) h.1 f1 f2
    rw [List.drop_zero] at g2
    cases hF : aFail C.1.1.A (8 + t) with
    | none =>
      rw [hF] at g2
      have g2 : z = -1 := g2
      subst g2
      have h0 : v_causes C.1.1.A (nI (8 + t)) = -5 := by unfold v_causes; rw [if_pos hk, nI_clamp (by omega), hF]
      rw [h0]
      refine CT.of [some (.ref r), some (.int (nI (8 + t))), none, none] rfl (Nat.le_of_ble_eq_true rfl) pl_X7 trivial ?_
      refine px_iload_n dX7_causes_0 rfl ?_
      refine px_callS1 (ν := mX7_isTarget) lk_X7_101 st_X7_isTarget mok_X7_isTarget dX7_causes_1 (cr_isTarget _) rfl rfl (by omega) (by simp) ?_
      refine px_ifb_ne (tgt := 9) dX7_causes_4 (by decide) (fun hc4 => ?_) (fun hc4 => ?_)
      · refine px_bipush (v := (-5)) dX7_causes_9 (by decide) ?_
        refine px_istore2 rfl dX7_causes_11 ?_
        refine px_aload_n dX7_causes_12 rfl ?_
        refine px_aload_n dX7_causes_13 rfl ?_
        refine px_iload_n dX7_causes_14 rfl ?_
        refine px_callV1 (ν := mX7_has) (ci := 7) rfl rfl lk_X7_156 in_X7_has se_X7_has mok_X7_has dX7_causes_15 (c_X7_has_t ht) (by exact mH_0) rfl rfl (by omega) (by simp) ?_
        refine px_iconst (v := 0) dX7_causes_18 (by decide) ?_
        refine px_callV1 (ν := mX7_causeOf) (ci := 7) rfl rfl lk_X7_216 in_X7_causeOf se_X7_causeOf mok_X7_causeOf dX7_causes_19 (g1) (by exact mH_0) rfl rfl (by omega) (by simp) ?_
        refine px_istore3 rfl dX7_causes_22 ?_
        refine px_iload_n dX7_causes_23 rfl ?_
        refine px_if_lt (tgt := 51) dX7_causes_24 (by decide) (fun hc24 => ?_) (fun hc24 => ?_)
        · refine px_iload_n dX7_causes_51 rfl ?_
          exact px_reti dX7_causes_52 (by rfl) (by rfl)
        · exact absurd (by decide) hc24
      · rw [hk] at hc4; cases hc4
    | some l =>
      rw [hF] at g2 f2
      have g2 : Cd bk l z := g2
      have f2 : l = [] ∨ isF l = true := f2
      have h0 : v_causes C.1.1.A (nI (8 + t)) = nI (l.length - 1) := by unfold v_causes; rw [if_pos hk, nI_clamp (by omega), hF]
      rw [h0]
      have hfl : isF l = true := by
        unfold aFail at hF
        rw [show aHas C.1.1.A (8 + t) = C.1.1.A.rs (8 + t) from if_neg (by omega)] at hF
        split at hF
        · split at hF
          · next h1 => cases hF; exact h1
          · cases hF
        · cases hF
      obtain ⟨k', s', t', l', i, y', e1, e2, e3, e4, e5, e6, e7, e8⟩ := g2.row hfl
      subst e1
      have hpos := g2.ne (List.cons_ne_nil _ _)
      have hrow : M.2.1 4 i = y' := (h.1.2.1 i _ e6).2.2.2
      have ih := l_X7_causes_23 (B := B) (D := D) (n := n) (w := w) (r := r) (f := f) (d := 50) (k0 := nI (8 + t)) h.1 l' y' 0 e7 e8 (by have := e7.len e8; omega)
      rw [show 0 + l'.length = (((0, k', s', t') : Q4) :: l').length - 1 by simp] at ih
      refine CT.of [some (.ref r), some (.int (nI (8 + t))), none, none] rfl (Nat.le_of_ble_eq_true rfl) pl_X7 trivial ?_

      refine px_iload_n dX7_causes_0 rfl ?_
      refine px_callS1 (ν := mX7_isTarget) lk_X7_101 st_X7_isTarget mok_X7_isTarget dX7_causes_1 (cr_isTarget _) rfl rfl (by omega) (by simp) ?_
      refine px_ifb_ne (tgt := 9) dX7_causes_4 (by decide) (fun hc4 => ?_) (fun hc4 => ?_)
      · refine px_bipush (v := (-5)) dX7_causes_9 (by decide) ?_
        refine px_istore2 rfl dX7_causes_11 ?_
        refine px_aload_n dX7_causes_12 rfl ?_
        refine px_aload_n dX7_causes_13 rfl ?_
        refine px_iload_n dX7_causes_14 rfl ?_
        refine px_callV1 (ν := mX7_has) (ci := 7) rfl rfl lk_X7_156 in_X7_has se_X7_has mok_X7_has dX7_causes_15 (c_X7_has_t ht) (by exact mH_0) rfl rfl (by omega) (by simp) ?_
        refine px_iconst (v := 0) dX7_causes_18 (by decide) ?_
        refine px_callV1 (ν := mX7_causeOf) (ci := 7) rfl rfl lk_X7_216 in_X7_causeOf se_X7_causeOf mok_X7_causeOf dX7_causes_19 (g1) (by exact mH_0) rfl rfl (by omega) (by simp) ?_
        refine px_istore3 rfl dX7_causes_22 ?_
        refine px_iload_n dX7_causes_23 rfl ?_
        refine px_if_lt (tgt := 51) dX7_causes_24 (by decide) (fun hc24 => ?_) (fun hc24 => ?_)
        · exact absurd hc24 hpos
        · refine px_iload_n dX7_causes_27 rfl ?_
          refine px_if_ge (tgt := 35) dX7_causes_28 (by decide) (fun hc28 => ?_) (fun hc28 => ?_)
          · exact absurd hc28 (by decide)
          · refine px_iconst (v := 0) dX7_causes_31 (by decide) ?_
            refine px_goto (tgt := 38) dX7_causes_32 (by decide) ?_
            refine px_istore2 rfl dX7_causes_38 ?_
            refine px_aload_n dX7_causes_39 rfl ?_
            refine mx_get fl_X7_30 dX7_causes_40 rfl ?_
            refine px_iload_n dX7_causes_43 rfl ?_
            refine px_iconst (v := 2) dX7_causes_44 (by decide) ?_
            refine px_idiv dX7_causes_45 (by decide) ?_
            refine mx_iaload (j := 4) (m := 9000) (q := i) dX7_causes_46 (by decide) (by exact e5) (by omega) ?_
            rw [hrow]
            refine px_istore3 rfl dX7_causes_47 ?_
            refine px_goto (tgt := 23) dX7_causes_48 (by decide) ?_
            exact ih
      · rw [hk] at hc4; cases hc4
  · have h0 : v_causes C.1.1.A k = -1 := by unfold v_causes; rw [if_neg hk]
    rw [h0]
    refine CT.of [some (.ref r), some (.int k), none, none] rfl (Nat.le_of_ble_eq_true rfl) pl_X7 trivial ?_
    refine px_iload_n dX7_causes_0 rfl ?_
    refine px_callS1 (ν := mX7_isTarget) lk_X7_101 st_X7_isTarget mok_X7_isTarget dX7_causes_1 (cr_isTarget _) rfl rfl (by omega) (by simp) ?_
    refine px_ifb_ne (tgt := 9) dX7_causes_4 (by decide) (fun hc4 => ?_) (fun hc4 => ?_)
    · exact absurd hc4 hk
    · refine px_iconst (v := (-1)) dX7_causes_7 (by decide) ?_
      exact px_reti dX7_causes_8 (by rfl) (by rfl)
theorem l_X7_root_23 {d : Nat} {k0 : Int32} (hb : Bk M bk) : ∀ (l : List Q4) (y x : Int32), Cd bk l y → (l = [] ∨ isF l = true) → EX B D d mX7_root 23 [some (.ref r), some (.int k0), some (.int (x)), some (.int (y))] [] (n, w, mH r f M) (some (.int (q4_root x l))) (n, w, mH r f M)
  | [], y, x, hy, hl => by
    have hy : y = -1 := hy
    subst hy
    refine px_iload_n dX7_root_23 rfl ?_
    refine px_if_lt (tgt := 48) dX7_root_24 (by decide) (fun hc24 => ?_) (fun hc24 => ?_)
    · refine px_iload_n dX7_root_48 rfl ?_
      exact px_reti dX7_root_49 (by rfl) (by rfl)
    · exact absurd (by decide) hc24
  | c :: l, y, x, hy, hl => by
    obtain ⟨k', s', t', l', i, y', e1, e2, e3, e4, e5, e6, e7, e8⟩ := hy.row (hl.resolve_left (by simp))
    cases e1
    have hpos := hy.ne (List.cons_ne_nil _ _)
    have hrow : M.2.1 4 i = y' := (hb.2.1 i _ e6).2.2.2
    have hkey : M.2.1 1 i = k' := (hb.2.1 i _ e6).1
    have ih : EX B D d mX7_root 23 [some (.ref r), some (.int k0), some (.int (k')), some (.int (y'))] [] (n, w, mH r f M) (some (.int (q4_root x (((0, k', s', t') : Q4) :: l)))) (n, w, mH r f M) := l_X7_root_23 (d := d) (k0 := k0) hb l y' k' e7 e8
    refine px_iload_n dX7_root_23 rfl ?_
    refine px_if_lt (tgt := 48) dX7_root_24 (by decide) (fun hc24 => ?_) (fun hc24 => ?_)
    · exact absurd hc24 hpos
    · refine px_aload_n dX7_root_27 rfl ?_
      refine mx_get fl_X7_20 dX7_root_28 rfl ?_
      refine px_iload_n dX7_root_31 rfl ?_
      refine px_iconst (v := 2) dX7_root_32 (by decide) ?_
      refine px_idiv dX7_root_33 (by decide) ?_
      refine mx_iaload (j := 1) (m := 9000) (q := i) dX7_root_34 (by decide) (by exact e5) (by omega) ?_
      rw [hkey]
      refine px_istore2 rfl dX7_root_35 ?_
      refine px_aload_n dX7_root_36 rfl ?_
      refine mx_get fl_X7_30 dX7_root_37 rfl ?_
      refine px_iload_n dX7_root_40 rfl ?_
      refine px_iconst (v := 2) dX7_root_41 (by decide) ?_
      refine px_idiv dX7_root_42 (by decide) ?_
      refine mx_iaload (j := 4) (m := 9000) (q := i) dX7_root_43 (by decide) (by exact e5) (by omega) ?_
      rw [hrow]
      refine px_istore3 rfl dX7_root_44 ?_
      refine px_goto (tgt := 23) dX7_root_45 (by decide) ?_
      exact ih
theorem m_root (h : RP bk M C) (k : Int32) : RQ B D n w r f 50 mX7_root [.int k] bk M (.int (v_root C.1.1.A k)) C := by
  refine RQ.same h ?_
  by_cases hk : s_isTarget k = true
  · obtain ⟨t, ht, rfl⟩ := inT.mp hk
    obtain ⟨f1, f2⟩ := fl_code (h.2.1.1.2.2.1 t ht)
    obtain ⟨z, g1, g2⟩ := c_X7_causeOf (B := B) (D := D) (n := n) (w := w) (r := r) (f := f) (q := 0) (by omega) h.1 f1 f2
    rw [List.drop_zero] at g2
    have ih := l_X7_root_23 (B := B) (D := D) (n := n) (w := w) (r := r) (f := f) (d := 50) (k0 := nI (8 + t)) h.1 _ z (-5) g2 f2
    have h0 : v_root C.1.1.A (nI (8 + t)) = q4_root (-5) ((aFail C.1.1.A (8 + t)).getD []) := by
      unfold v_root
      rw [if_pos hk, nI_clamp (by omega)]
      cases hF : aFail C.1.1.A (8 + t) with
      | none => rfl
      | some l =>
        have hfl : isF l = true := by
          unfold aFail at hF
          rw [show aHas C.1.1.A (8 + t) = C.1.1.A.rs (8 + t) from if_neg (by omega)] at hF
          split at hF
          · split at hF
            · next h1 => cases hF; exact h1
            · cases hF
          · cases hF
        cases l with
        | nil => cases hfl
        | cons c l => rfl
    rw [h0]
    refine CT.of [some (.ref r), some (.int (nI (8 + t))), none, none] rfl (Nat.le_of_ble_eq_true rfl) pl_X7 trivial ?_
    refine px_iload_n dX7_root_0 rfl ?_
    refine px_callS1 (ν := mX7_isTarget) lk_X7_101 st_X7_isTarget mok_X7_isTarget dX7_root_1 (cr_isTarget _) rfl rfl (by omega) (by simp) ?_
    refine px_ifb_ne (tgt := 9) dX7_root_4 (by decide) (fun hc4 => ?_) (fun hc4 => ?_)
    · refine px_bipush (v := (-5)) dX7_root_9 (by decide) ?_
      refine px_istore2 rfl dX7_root_11 ?_
      refine px_aload_n dX7_root_12 rfl ?_
      refine px_aload_n dX7_root_13 rfl ?_
      refine px_iload_n dX7_root_14 rfl ?_
      refine px_callV1 (ν := mX7_has) (ci := 7) rfl rfl lk_X7_156 in_X7_has se_X7_has mok_X7_has dX7_root_15 (c_X7_has_t ht) (by exact mH_0) rfl rfl (by omega) (by simp) ?_
      refine px_iconst (v := 0) dX7_root_18 (by decide) ?_
      refine px_callV1 (ν := mX7_causeOf) (ci := 7) rfl rfl lk_X7_216 in_X7_causeOf se_X7_causeOf mok_X7_causeOf dX7_root_19 (g1) (by exact mH_0) rfl rfl (by omega) (by simp) ?_
      refine px_istore3 rfl dX7_root_22 ?_
      exact ih
    · rw [hk] at hc4; cases hc4
  · have h0 : v_root C.1.1.A k = -1 := by unfold v_root; rw [if_neg hk]
    rw [h0]
    refine CT.of [some (.ref r), some (.int k), none, none] rfl (Nat.le_of_ble_eq_true rfl) pl_X7 trivial ?_
    refine px_iload_n dX7_root_0 rfl ?_
    refine px_callS1 (ν := mX7_isTarget) lk_X7_101 st_X7_isTarget mok_X7_isTarget dX7_root_1 (cr_isTarget _) rfl rfl (by omega) (by simp) ?_
    refine px_ifb_ne (tgt := 9) dX7_root_4 (by decide) (fun hc4 => ?_) (fun hc4 => ?_)
    · exact absurd hc4 hk
    · refine px_iconst (v := (-1)) dX7_root_7 (by decide) ?_
      exact px_reti dX7_root_8 (by rfl) (by rfl)
theorem or_idem (x b : Int32) : x ||| b ||| b = x ||| b := by
  apply i32_ext
  simp only [Int32.toBitVec_or]
  ext i hi
  simp only [BitVec.getElem_or]
  cases x.toBitVec[i] <;> cases b.toBitVec[i] <;> rfl
theorem or_zero (x : Int32) : x ||| 0 = x := by
  apply i32_ext
  simp
theorem l_X7_blamed_34 {d t : Nat} {k : Int32} (hb : Bk M bk) {rr : Option Value} {h1 : pm_H} : ∀ (l : List Q4) (x y : Int32), Cd bk l y → (l = [] ∨ isF l = true) → EX B D d mX7_blamed 76 [some (.ref r), some (.int k), some (.int (if l.any (fun q => decide (q.2.1 = k)) = true then x ||| ((1 : Int32) <<< (nI t &&& 31)) else x)), some (.int (nI t)), some (.int (-1))] [] (n, w, mH r f M) rr h1 → EX B D d mX7_blamed 34 [some (.ref r), some (.int k), some (.int (x)), some (.int (nI t)), some (.int y)] [] (n, w, mH r f M) rr h1
  | [], x, y, hy, hl, hk => by
    have hy : y = -1 := hy
    subst hy
    refine px_iload dX7_blamed_34 rfl ?_
    refine px_if_lt (tgt := 76) dX7_blamed_36 (by decide) (fun hc36 => ?_) (fun hc36 => ?_)
    · exact hk
    · exact absurd (by decide) hc36
  | c :: l, x, y, hy, hl, hk => by
    obtain ⟨k', s', t', l', i, y', e1, e2, e3, e4, e5, e6, e7, e8⟩ := hy.row (hl.resolve_left (by simp))
    cases e1
    have hpos := hy.ne (List.cons_ne_nil _ _)
    have hrow : M.2.1 4 i = y' := (hb.2.1 i _ e6).2.2.2
    have hkey : M.2.1 1 i = k' := (hb.2.1 i _ e6).1
    have ih : ∀ z : Int32, z = (if k' = k then (1 : Int32) <<< (nI t &&& 31) else 0) → EX B D d mX7_blamed 34 [some (.ref r), some (.int k), some (.int (x ||| z)), some (.int (nI t)), some (.int y')] [] (n, w, mH r f M) rr h1 := fun z hz => by
      subst hz
      refine l_X7_blamed_34 (d := d) hb l _ y' e7 e8 ?_
      have hval : (if l.any (fun q => decide (q.2.1 = k)) = true then x ||| (if k' = k then (1 : Int32) <<< (nI t &&& 31) else 0) ||| ((1 : Int32) <<< (nI t &&& 31)) else x ||| (if k' = k then (1 : Int32) <<< (nI t &&& 31) else 0)) = (if (((0, k', s', t') : Q4) :: l).any (fun q => decide (q.2.1 = k)) = true then x ||| ((1 : Int32) <<< (nI t &&& 31)) else x) := by
        rw [List.any_cons]
        by_cases e : k' = k
        · rw [if_pos e, decide_eq_true (show ((0, k', s', t') : Q4).2.1 = k from e), Bool.true_or, if_pos rfl, or_idem]
          split <;> rfl
        · rw [if_neg e, decide_eq_false (show ¬ ((0, k', s', t') : Q4).2.1 = k from e), Bool.false_or, or_zero]
      rw [hval]; exact hk
    have z1 : M.2.1 1 i = k → (1 : Int32) <<< (nI t &&& 31) = (if k' = k then (1 : Int32) <<< (nI t &&& 31) else 0) := fun e => by rw [if_pos (hkey.symm.trans e)]
    have z0 : ¬ M.2.1 1 i = k → (0 : Int32) = (if k' = k then (1 : Int32) <<< (nI t &&& 31) else 0) := fun e => by rw [if_neg (fun e2 => e (hkey.trans e2))]
    refine px_iload dX7_blamed_34 rfl ?_
    refine px_if_lt (tgt := 76) dX7_blamed_36 (by decide) (fun hc36 => ?_) (fun hc36 => ?_)
    · exact absurd hc36 hpos
    · refine px_iload_n dX7_blamed_39 rfl ?_
      refine px_aload_n dX7_blamed_40 rfl ?_
      refine mx_get fl_X7_20 dX7_blamed_41 rfl ?_
      refine px_iload dX7_blamed_44 rfl ?_
      refine px_iconst (v := 2) dX7_blamed_46 (by decide) ?_
      refine px_idiv dX7_blamed_47 (by decide) ?_
      refine mx_iaload (j := 1) (m := 9000) (q := i) dX7_blamed_48 (by decide) (by exact e5) (by omega) ?_
      refine px_iload_n dX7_blamed_49 rfl ?_
      refine px_icmp_ne (tgt := 59) dX7_blamed_50 (by decide) (fun hc50 => ?_) (fun hc50 => ?_)
      · refine px_iconst (v := 0) dX7_blamed_59 (by decide) ?_
        refine px_ior dX7_blamed_60 ?_
        refine px_istore2 rfl dX7_blamed_61 ?_
        refine px_aload_n dX7_blamed_62 rfl ?_
        refine mx_get fl_X7_30 dX7_blamed_63 rfl ?_
        refine px_iload dX7_blamed_66 rfl ?_
        refine px_iconst (v := 2) dX7_blamed_68 (by decide) ?_
        refine px_idiv dX7_blamed_69 (by decide) ?_
        refine mx_iaload (j := 4) (m := 9000) (q := i) dX7_blamed_70 (by decide) (by exact e5) (by omega) ?_
        rw [hrow]
        refine px_istore4 rfl dX7_blamed_71 ?_
        refine px_goto (tgt := 34) dX7_blamed_73 (by decide) ?_
        exact ih _ (by first | exact z1 hc50 | exact z0 hc50)
      · refine px_iconst (v := 1) dX7_blamed_53 (by decide) ?_
        refine px_iload_n dX7_blamed_54 rfl ?_
        refine px_ishl dX7_blamed_55 ?_
        refine px_goto (tgt := 60) dX7_blamed_56 (by decide) ?_
        refine px_ior dX7_blamed_60 ?_
        refine px_istore2 rfl dX7_blamed_61 ?_
        refine px_aload_n dX7_blamed_62 rfl ?_
        refine mx_get fl_X7_30 dX7_blamed_63 rfl ?_
        refine px_iload dX7_blamed_66 rfl ?_
        refine px_iconst (v := 2) dX7_blamed_68 (by decide) ?_
        refine px_idiv dX7_blamed_69 (by decide) ?_
        refine mx_iaload (j := 4) (m := 9000) (q := i) dX7_blamed_70 (by decide) (by exact e5) (by omega) ?_
        rw [hrow]
        refine px_istore4 rfl dX7_blamed_71 ?_
        refine px_goto (tgt := 34) dX7_blamed_73 (by decide) ?_
        exact ih _ (by first | exact z1 hc50 | exact z0 hc50)
theorem l_X7_blamed_13 {d : Nat} {k : Int32} (hd : 3 ≤ d) (h : RP bk M C) : ∀ (q t : Nat) (x : Int32) (z : Option Value), t + q = 16 → EX B D d mX7_blamed 13 [some (.ref r), some (.int k), some (.int (x)), some (.int (nI t)), z] [] (n, w, mH r f M) (some (.int (bitsF (fun t => aBlames C.1.1.A k (8 + t)) q t x))) (n, w, mH r f M)
  | 0, t, x, z, ht => by
    have : t = 16 := by omega
    subst this
    refine px_iload_n dX7_blamed_13 rfl ?_
    refine px_bipush (v := 16) dX7_blamed_14 (by decide) ?_
    refine px_icmp_ge (tgt := 82) dX7_blamed_16 (by decide) (fun hc16 => ?_) (fun hc16 => ?_)
    · refine px_iload_n dX7_blamed_82 rfl ?_
      exact px_reti dX7_blamed_83 (by rfl) (by rfl)
    · exact absurd (by decide) hc16
  | q + 1, t, x, z, ht => by
    have ht2 : t < 16 := by omega
    obtain ⟨f1, f2⟩ := fl_code (h.2.1.1.2.2.1 t ht2)
    obtain ⟨y, g1, g2⟩ := c_X7_causeOf (B := B) (D := D) (n := n) (w := w) (r := r) (f := f) (q := 0) (by omega) h.1 f1 f2
    rw [List.drop_zero] at g2
    have hbl : aBlames C.1.1.A k (8 + t) = ((aFail C.1.1.A (8 + t)).getD []).any (fun q => decide (q.2.1 = k)) := by
      unfold aBlames
      cases aFail C.1.1.A (8 + t) <;> rfl
    have ih := l_X7_blamed_13 (d := d) (k := k) hd h q (t + 1) (if ((aFail C.1.1.A (8 + t)).getD []).any (fun q => decide (q.2.1 = k)) = true then x ||| ((1 : Int32) <<< (nI t &&& 31)) else x) (some (.int (-1))) (by omega)
    have hstep : bitsF (fun t => aBlames C.1.1.A k (8 + t)) (q + 1) t x = bitsF (fun t => aBlames C.1.1.A k (8 + t)) q (t + 1) (if ((aFail C.1.1.A (8 + t)).getD []).any (fun q => decide (q.2.1 = k)) = true then x ||| ((1 : Int32) <<< (nI t &&& 31)) else x) := by
      rw [bitsF, hbl]
    rw [hstep]
    refine px_iload_n dX7_blamed_13 rfl ?_
    refine px_bipush (v := 16) dX7_blamed_14 (by decide) ?_
    refine px_icmp_ge (tgt := 82) dX7_blamed_16 (by decide) (fun hc16 => ?_) (fun hc16 => ?_)
    · exact absurd hc16 (nI_ge (a := t) (b := 16) (by omega) (by omega))
    · refine px_aload_n dX7_blamed_19 rfl ?_
      refine px_aload_n dX7_blamed_20 rfl ?_
      refine px_bipush (v := 8) dX7_blamed_21 (by decide) ?_
      refine px_iload_n dX7_blamed_23 rfl ?_
      refine px_iadd dX7_blamed_24 ?_
      rw [show (8 : Int32) + nI t = nI (8 + t) from nI_add 8 t]
      refine px_callV1 (ν := mX7_has) (ci := 7) rfl rfl lk_X7_156 in_X7_has se_X7_has mok_X7_has dX7_blamed_25 (c_X7_has_t ht2) (by exact mH_0) rfl rfl (by omega) (by simp) ?_
      refine px_iconst (v := 0) dX7_blamed_28 (by decide) ?_
      refine px_callV1 (ν := mX7_causeOf) (ci := 7) rfl rfl lk_X7_216 in_X7_causeOf se_X7_causeOf mok_X7_causeOf dX7_blamed_29 (g1) (by exact mH_0) rfl rfl (by omega) (by simp) ?_
      refine px_istore4 rfl dX7_blamed_32 ?_
      refine l_X7_blamed_34 h.1 _ x y g2 f2 ?_
      refine px_iinc3 rfl (nI_inc t) dX7_blamed_76 ?_
      refine px_goto (tgt := 13) dX7_blamed_79 (by decide) ?_
      exact ih
theorem m_blamed (h : RP bk M C) (k : Int32) : RQ B D n w r f 50 mX7_blamed [.int k] bk M (.int (v_blamed C.1.1.A k)) C := by
  refine RQ.same h ?_
  by_cases hk : s_isKey k = true
  · have h0 : v_blamed C.1.1.A k = bitsF (fun t => aBlames C.1.1.A k (8 + t)) 16 0 0 := by unfold v_blamed; rw [if_pos hk]
    rw [h0]
    refine CT.of [some (.ref r), some (.int k), none, none, none] rfl (Nat.le_of_ble_eq_true rfl) pl_X7 trivial ?_
    refine px_iload_n dX7_blamed_0 rfl ?_
    refine px_callS1 (ν := mX7_isKey) lk_X7_208 st_X7_isKey mok_X7_isKey dX7_blamed_1 (cr_isKey _) rfl rfl (by omega) (by simp) ?_
    refine px_ifb_ne (tgt := 9) dX7_blamed_4 (by decide) (fun hc4 => ?_) (fun hc4 => ?_)
    · refine px_iconst (v := 0) dX7_blamed_9 (by decide) ?_
      refine px_istore2 rfl dX7_blamed_10 ?_
      refine px_iconst (v := 0) dX7_blamed_11 (by decide) ?_
      refine px_istore3 rfl dX7_blamed_12 ?_
      exact l_X7_blamed_13 (by omega) h 16 0 0 none rfl
    · rw [hk] at hc4; cases hc4
  · have h0 : v_blamed C.1.1.A k = -1 := by unfold v_blamed; rw [if_neg hk]
    rw [h0]
    refine CT.of [some (.ref r), some (.int k), none, none, none] rfl (Nat.le_of_ble_eq_true rfl) pl_X7 trivial ?_
    refine px_iload_n dX7_blamed_0 rfl ?_
    refine px_callS1 (ν := mX7_isKey) lk_X7_208 st_X7_isKey mok_X7_isKey dX7_blamed_1 (cr_isKey _) rfl rfl (by omega) (by simp) ?_
    refine px_ifb_ne (tgt := 9) dX7_blamed_4 (by decide) (fun hc4 => ?_) (fun hc4 => ?_)
    · exact absurd hc4 hk
    · refine px_iconst (v := (-1)) dX7_blamed_7 (by decide) ?_
      exact px_reti dX7_blamed_8 (by rfl) (by rfl)
end M68
