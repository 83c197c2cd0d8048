/-! the reference: RULES as texts -/
theorem nI_div3 {j : Nat} (h : j < 2 ^ 31) : nI j / 3 = nI (j / 3) := by
  apply Int32.toInt_inj.mp
  rw [Int32.toInt_div, nI_toInt h, nI_toInt (by omega), show (3 : Int32).toInt = 3 from rfl, Int.tdiv_eq_ediv_of_nonneg (by omega), Int.bmod_eq_of_le (by omega) (by omega)]
  omega
theorem sin_g (c : Int32) : s_isInL c.toInt64 48 57 = s_isFigure c := by
  rw [sin_lt (x := 48) (y := 57) (by decide) (by decide)]
  unfold s_isFigure
  rw [Bool.eq_iff_iff]
  simp only [Bool.and_eq_true, Bool.not_eq_true', decide_eq_true_eq, decide_eq_false_iff_not, Int32.lt_iff_toInt_lt]
  rw [show (48 : Int32).toInt = 48 by decide, show (57 : Int32).toInt = 57 by decide]
  omega
theorem tp_pos {L : Nat} {lt : Nat → Int32} (hL : L ≤ 50) : ∀ k i : Nat, i + k = L → tp_fault L lt k i = -1 ∨ ∃ x : Nat, x ≤ 60 ∧ tp_fault L lt k i = nI x
  | 0, i, hi => by
    rw [tp_fault]
    split
    · exact Or.inl rfl
    · exact Or.inr ⟨L, by omega, rfl⟩
  | k + 1, i, hi => by
    by_cases h1 : 36 ≤ i ∨ (if i % 3 = 0 then s_isSign (lt i) else s_isFigure (lt i)) = false
    · rw [tp_fault_s1 h1]
      exact Or.inr ⟨i, by omega, rfl⟩
    · by_cases h2 : 0 < i % 3 ∧ tp_nokey L lt (i - i % 3) (i % 3) = true
      · rw [tp_fault_s2 h1 h2]
        exact Or.inr ⟨i - i % 3 + 1, by omega, rfl⟩
      · rw [tp_fault_s3 h1 h2]
        exact tp_pos hL k (i + 1) (by omega)
theorem key_1 : ∀ a : Fin 10, s_isKey (10 * (nI (48 + a.val) - 48)) = !decide (50 < nI (48 + a.val)) := by decide +kernel
theorem key_2 {v : Nat} (h : v < 100) : s_isKey (nI v) = decide (nI v < 24) := by
  unfold s_isKey
  have h0 : ¬ nI v < 0 := nI_pos (by omega)
  rw [decide_eq_false h0, Bool.eq_iff_iff]
  simp only [Bool.and_eq_true, Bool.not_eq_true', decide_eq_true_eq, decide_eq_false_iff_not]
  rw [Int32.not_le]
  simp
section M74
variable {B : Nat} {D : va_G} {n w r : Nat} {f : Nat → Option va_E} {bk : BK} {M : MS} {C : CS} {T : Nat × (Nat → Int32)}
theorem c_X7_isFigure (hT : RT M T) {a : Nat} (ha : a < 60) : CT B D 1 mX7_isFigure [.ref r, .int (nI a)] (n, w, mH r f M) (some (.int (bi (decide (a < T.1) && s_isFigure (T.2 a))))) (n, w, mH r f M) := by
  have hL := hT.2.1
  have hs := sin_g (T.2 a)
  by_cases h : a < T.1
  · have hge : ¬ M.1 10 ≤ nI a := by rw [hT.1]; exact nI_ge h (by omega)
    have hv := hT.2.2 a h
    rw [decide_eq_true h, Bool.true_and]
    refine CT.of [some (.ref r), some (.int (nI a))] rfl (Nat.le_of_ble_eq_true rfl) pl_X7 (bi_01 _) ?_
    refine px_iload_n dX7_isFigure_0 rfl ?_
    refine px_aload_n dX7_isFigure_1 rfl ?_
    refine mx_get fl_X7_120 dX7_isFigure_2 rfl ?_
    refine px_icmp_ge (tgt := 31) dX7_isFigure_5 (by decide) (fun hc5 => ?_) (fun hc5 => ?_)
    · exact absurd hc5 hge
    · refine px_aload_n dX7_isFigure_8 rfl ?_
      refine mx_get fl_X7_57 dX7_isFigure_9 rfl ?_
      refine px_iload_n dX7_isFigure_12 rfl ?_
      refine mx_iaload (j := 8) (m := 50) (q := a) dX7_isFigure_13 (by decide) (by first | rfl | (simp (disch := omega) only [li0, li1, li2, li3, li5, li6, li8, li9, li10, li12, li13, li16, li20, li24, li25, li100, li408, li424, li824, nI_add, nI_mul, nI_sub]; first | done | rfl | (congr 1; omega))) (by omega) ?_
      rw [hv]
      refine px_i2l dX7_isFigure_14 ?_
      refine px_ldc2 dX7_isFigure_15 kc_X7_126 ?_
      refine px_ldc2 dX7_isFigure_18 kc_X7_128 ?_
      refine px_callS1 (ν := mX7_isIn) lk_X7_7 st_X7_isIn mok_X7_isIn dX7_isFigure_21 (c_X7_isIn _ _ _) rfl rfl (by omega) (by simp) ?_
      refine px_ifb_eq (tgt := 31) dX7_isFigure_24 (by decide) (fun hc24 => ?_) (fun hc24 => ?_)
      · refine px_iconst (v := 0) dX7_isFigure_31 (by decide) ?_
        exact px_reti dX7_isFigure_32 (by rw [← hs, hc24]; rfl) (by rfl)
      · refine px_iconst (v := 1) dX7_isFigure_27 (by decide) ?_
        refine px_goto (tgt := 32) dX7_isFigure_28 (by decide) ?_
        exact px_reti dX7_isFigure_32 (by rw [← hs, hc24]; rfl) (by rfl)
  · have hle : M.1 10 ≤ nI a := by rw [hT.1]; exact nI_le (by omega) (by omega)
    rw [decide_eq_false h, Bool.false_and]
    refine CT.of [some (.ref r), some (.int (nI a))] rfl (Nat.le_of_ble_eq_true rfl) pl_X7 (bi_01 _) ?_
    refine px_iload_n dX7_isFigure_0 rfl ?_
    refine px_aload_n dX7_isFigure_1 rfl ?_
    refine mx_get fl_X7_120 dX7_isFigure_2 rfl ?_
    refine px_icmp_ge (tgt := 31) dX7_isFigure_5 (by decide) (fun hc5 => ?_) (fun hc5 => ?_)
    · refine px_iconst (v := 0) dX7_isFigure_31 (by decide) ?_
      exact px_reti dX7_isFigure_32 (by rfl) (by rfl)
    · exact absurd hle hc5
theorem l_X7_fault_4 {d : Nat} (hd : 2 ≤ d) (hT : RT M T) : ∀ (k q : Nat) (z : Option Value), q + k = 12 → 3 * q ≤ T.1 → EX B D d mX7_fault 4 [some (.ref r), some (.int (nI (3 * q))), some (.int (nI q)), z] [] (n, w, mH r f M) (some (.int (tp_fault T.1 T.2 (T.1 - 3 * q) (3 * q)))) (n, w, mH r f M)
  | 0, q, z, hq, hqL => by
    have hL := hT.2.1
    have h10 := hT.1
    have : q = 12 := by omega
    subst this
    by_cases hlt : 36 < T.1
    · have hv : tp_fault T.1 T.2 (T.1 - 3 * 12) (3 * 12) = nI 36 := by
        obtain ⟨k, hk⟩ : ∃ k, T.1 - 3 * 12 = k + 1 := ⟨T.1 - 37, by omega⟩
        rw [hk]
        exact tp_fault_s1 (Or.inl (by omega))
      rw [hv]
      have hge : ¬ M.1 10 ≤ nI (3 * 12) := by rw [h10]; exact nI_ge (by omega) (by omega)
      refine px_iload_n dX7_fault_4 rfl ?_
      refine px_bipush (v := 12) dX7_fault_5 (by decide) ?_
      refine px_icmp_ge (tgt := 150) dX7_fault_7 (by decide) (fun hc7 => ?_) (fun hc7 => ?_)
      · refine px_iload_n dX7_fault_150 rfl ?_
        refine px_aload_n dX7_fault_151 rfl ?_
        refine mx_get fl_X7_120 dX7_fault_152 rfl ?_
        refine px_icmp_ge (tgt := 162) dX7_fault_155 (by decide) (fun hc155 => ?_) (fun hc155 => ?_)
        · exact absurd hc155 hge
        · refine px_iload_n dX7_fault_158 rfl ?_
          refine px_goto (tgt := 163) dX7_fault_159 (by decide) ?_
          exact px_reti dX7_fault_163 (by rfl) (by rfl)
      · exact absurd (by decide) hc7
    · have hv : tp_fault T.1 T.2 (T.1 - 3 * 12) (3 * 12) = -1 := by
        rw [show T.1 - 3 * 12 = 0 by omega, tp_fault, if_pos (by omega)]
      rw [hv]
      have hle : M.1 10 ≤ nI (3 * 12) := by rw [h10]; exact nI_le (by omega) (by omega)
      refine px_iload_n dX7_fault_4 rfl ?_
      refine px_bipush (v := 12) dX7_fault_5 (by decide) ?_
      refine px_icmp_ge (tgt := 150) dX7_fault_7 (by decide) (fun hc7 => ?_) (fun hc7 => ?_)
      · refine px_iload_n dX7_fault_150 rfl ?_
        refine px_aload_n dX7_fault_151 rfl ?_
        refine mx_get fl_X7_120 dX7_fault_152 rfl ?_
        refine px_icmp_ge (tgt := 162) dX7_fault_155 (by decide) (fun hc155 => ?_) (fun hc155 => ?_)
        · refine px_iconst (v := (-1)) dX7_fault_162 (by decide) ?_
          exact px_reti dX7_fault_163 (by rfl) (by rfl)
        · exact absurd hle hc155
      · exact absurd (by decide) hc7
  | k + 1, q, z, hq, hqL => by
    have hL := hT.2.1
    have h10 := hT.1
    have h12 : ¬ (12 : Int32) ≤ nI q := nI_ge (a := q) (b := 12) (by omega) (by omega)
    by_cases hlt : 3 * q < T.1
    · have hge : ¬ M.1 10 ≤ nI (3 * q) := by rw [h10]; exact nI_ge hlt (by omega)
      obtain ⟨R, hR⟩ : ∃ R, T.1 - 3 * q = R + 1 := ⟨T.1 - 3 * q - 1, by omega⟩
      rw [hR]
      have s0 := hT.2.2 (3 * q) hlt
      have hm0 : 3 * q % 3 = 0 := by omega
      by_cases hsg : s_isSign (T.2 (3 * q)) = true
      · have n1 : ¬ (36 ≤ 3 * q ∨ (if 3 * q % 3 = 0 then s_isSign (T.2 (3 * q)) else s_isFigure (T.2 (3 * q))) = false) := by
          rw [if_pos hm0, hsg]; intro h; rcases h with h | h
          · omega
          · cases h
        rw [tp_fault_s3 n1 (by omega)]
        -- from pc 44 on
        have key : EX B D d mX7_fault 44 [some (.ref r), some (.int (nI (3 * q))), some (.int (nI q)), z] [] (n, w, mH r f M) (some (.int (tp_fault T.1 T.2 R (3 * q + 1)))) (n, w, mH r f M) := by
          have f1 := c_X7_isFigure (B := B) (D := D) (n := n) (w := w) (r := r) (f := f) hT (a := 3 * q + 1) (by omega)
          by_cases hb1 : (decide (3 * q + 1 < T.1) && s_isFigure (T.2 (3 * q + 1))) = true
          · rw [hb1] at f1
            have hb1' : 3 * q + 1 < T.1 ∧ s_isFigure (T.2 (3 * q + 1)) = true := by simpa using hb1
            obtain ⟨l1, g1⟩ := hb1'
            have s1 := hT.2.2 (3 * q + 1) l1
            obtain ⟨R1, hR1⟩ : ∃ R1, R = R1 + 1 := ⟨R - 1, by omega⟩
            subst hR1
            have m1 : (3 * q + 1) % 3 = 1 := by omega
            have n2 : ¬ (36 ≤ 3 * q + 1 ∨ (if (3 * q + 1) % 3 = 0 then s_isSign (T.2 (3 * q + 1)) else s_isFigure (T.2 (3 * q + 1))) = false) := by
              rw [if_neg (by omega), g1]; intro h; rcases h with h | h
              · omega
              · cases h
            obtain ⟨x, hx, ex⟩ := fig_of g1
            have hla : ∀ j, j < T.1 → tp_la T.1 T.2 j = T.2 j := fun j hj => if_pos hj
            have hnk1 : tp_nokey T.1 T.2 (3 * q) 1 = (s_asks (T.2 (3 * q)) && decide (50 < T.2 (3 * q + 1))) := by
              unfold tp_nokey tp_least
              rw [if_pos rfl, hla _ hlt, hla _ l1, ex]
              have := key_1 ⟨x, hx⟩
              rw [this, Bool.not_not]
            by_cases hk1 : s_asks (T.2 (3 * q)) = true ∧ 50 < T.2 (3 * q + 1)
            · have hv : tp_fault T.1 T.2 (R1 + 1) (3 * q + 1) = nI (3 * q + 1) := by
                rw [tp_fault_s2 n2 ⟨by omega, by rw [m1, show 3 * q + 1 - 1 = 3 * q by omega, hnk1, hk1.1, decide_eq_true hk1.2]; rfl⟩, m1]
                rfl
              rw [hv]
              refine px_aload_n dX7_fault_44 rfl ?_
              refine mx_get fl_X7_57 dX7_fault_45 rfl ?_
              refine px_iload_n dX7_fault_48 rfl ?_
              refine mx_iaload (j := 8) (m := 50) (q := 3 * q) dX7_fault_49 (by decide) (by first | rfl | (simp (disch := omega) only [li0, li1, li2, li3, li5, li6, li8, li9, li10, li12, li13, li16, li20, li24, li25, li100, li408, li424, li824, nI_add, nI_mul, nI_sub]; first | done | rfl | (congr 1; omega))) (by omega) ?_
              rw [s0]
              refine px_istore3 rfl dX7_fault_50 ?_
              refine px_aload_n dX7_fault_51 rfl ?_
              refine px_iload_n dX7_fault_52 rfl ?_
              refine px_iconst (v := 1) dX7_fault_53 (by decide) ?_
              refine px_iadd dX7_fault_54 ?_
              rw [show nI (3 * q) + 1 = nI (3 * q + 1) from nI_1 _]
              refine px_callV1 (ν := mX7_isFigure) (ci := 7) rfl rfl lk_X7_133 in_X7_isFigure se_X7_isFigure mok_X7_isFigure dX7_fault_55 (f1) (by exact mH_0) rfl rfl (by omega) (by simp) ?_
              refine px_ifb_eq (tgt := 81) dX7_fault_58 (by decide) (fun hc58 => ?_) (fun hc58 => ?_)
              · cases hc58
              · refine px_iload_n dX7_fault_61 rfl ?_
                refine px_callS1 (ν := mX7_isAsking) lk_X7_123 st_X7_isAsking mok_X7_isAsking dX7_fault_62 (c_X7_isAsking _) rfl rfl (by omega) (by simp) ?_
                refine px_ifb_eq (tgt := 85) dX7_fault_65 (by decide) (fun hc65 => ?_) (fun hc65 => ?_)
                · rw [hk1.1] at hc65; cases hc65
                · refine px_aload_n dX7_fault_68 rfl ?_
                  refine mx_get fl_X7_57 dX7_fault_69 rfl ?_
                  refine px_iload_n dX7_fault_72 rfl ?_
                  refine px_iconst (v := 1) dX7_fault_73 (by decide) ?_
                  refine px_iadd dX7_fault_74 ?_
                  refine mx_iaload (j := 8) (m := 50) (q := 3 * q + 1) dX7_fault_75 (by decide) (by first | rfl | (simp (disch := omega) only [li0, li1, li2, li3, li5, li6, li8, li9, li10, li12, li13, li16, li20, li24, li25, li100, li408, li424, li824, nI_add, nI_mul, nI_sub]; first | done | rfl | (congr 1; omega))) (by omega) ?_
                  rw [s1]
                  refine px_bipush (v := 50) dX7_fault_76 (by decide) ?_
                  refine px_icmp_le (tgt := 85) dX7_fault_78 (by decide) (fun hc78 => ?_) (fun hc78 => ?_)
                  · exact absurd hk1.2 (Int32.not_lt.mpr hc78)
                  · refine px_iload_n dX7_fault_81 rfl ?_
                    refine px_iconst (v := 1) dX7_fault_82 (by decide) ?_
                    refine px_iadd dX7_fault_83 ?_
                    exact px_reti dX7_fault_84 (by rw [nI_1]) (by rfl)
            · have n3 : ¬ (0 < (3 * q + 1) % 3 ∧ tp_nokey T.1 T.2 (3 * q + 1 - (3 * q + 1) % 3) ((3 * q + 1) % 3) = true) := by
                rw [m1, show 3 * q + 1 - 1 = 3 * q by omega, hnk1]
                intro h
                have h2 := h.2
                simp only [Bool.and_eq_true, decide_eq_true_eq] at h2
                exact hk1 h2
              rw [tp_fault_s3 n2 n3]
              -- from pc 85 on
              have key2 : EX B D d mX7_fault 85 [some (.ref r), some (.int (nI (3 * q))), some (.int (nI q)), some (.int (T.2 (3 * q)))] [] (n, w, mH r f M) (some (.int (tp_fault T.1 T.2 R1 (3 * q + 1 + 1)))) (n, w, mH r f M) := by
                have f2 := c_X7_isFigure (B := B) (D := D) (n := n) (w := w) (r := r) (f := f) hT (a := 3 * q + 2) (by omega)
                by_cases hb2 : (decide (3 * q + 2 < T.1) && s_isFigure (T.2 (3 * q + 2))) = true
                · rw [hb2] at f2
                  have hb2' : 3 * q + 2 < T.1 ∧ s_isFigure (T.2 (3 * q + 2)) = true := by simpa using hb2
                  obtain ⟨l2, g2⟩ := hb2'
                  have s2 := hT.2.2 (3 * q + 2) l2
                  obtain ⟨R2, hR2⟩ : ∃ R2, R1 = R2 + 1 := ⟨R1 - 1, by omega⟩
                  subst hR2
                  have m2 : (3 * q + 1 + 1) % 3 = 2 := by omega
                  have n4 : ¬ (36 ≤ 3 * q + 1 + 1 ∨ (if (3 * q + 1 + 1) % 3 = 0 then s_isSign (T.2 (3 * q + 1 + 1)) else s_isFigure (T.2 (3 * q + 1 + 1))) = false) := by
                    rw [if_neg (by omega), show 3 * q + 1 + 1 = 3 * q + 2 by omega, g2]; intro h; rcases h with h | h
                    · omega
                    · cases h
                  obtain ⟨y, hy, ey⟩ := fig_of g2
                  have hnum : (10 : Int32) * (T.2 (3 * q + 1) - 48) + T.2 (3 * q + 2) - 48 = nI (10 * x + y) := by
                    rw [ex, ey]; exact two_figs ⟨x, hx⟩ ⟨y, hy⟩
                  have hnk2 : tp_nokey T.1 T.2 (3 * q) 2 = (s_asks (T.2 (3 * q)) && !decide (nI (10 * x + y) < 24)) := by
                    unfold tp_nokey tp_least
                    rw [if_neg (by omega), hla _ hlt]
                    unfold tp_num
                    rw [hla _ l1, show 3 * q + 1 + 1 = 3 * q + 2 by omega, hla _ l2, hnum, key_2 (by omega)]
                  by_cases hk2 : s_asks (T.2 (3 * q)) = true ∧ ¬ nI (10 * x + y) < 24
                  · have hv : tp_fault T.1 T.2 (R2 + 1) (3 * q + 1 + 1) = nI (3 * q + 1) := by
                      rw [tp_fault_s2 n4 ⟨by omega, by rw [m2, show 3 * q + 1 + 1 - 2 = 3 * q by omega, hnk2, hk2.1, decide_eq_false hk2.2]; rfl⟩, m2, show 3 * q + 1 + 1 - 2 = 3 * q by omega]
                    rw [hv]
                    refine px_aload_n dX7_fault_85 rfl ?_
                    refine px_iload_n dX7_fault_86 rfl ?_
                    refine px_iconst (v := 2) dX7_fault_87 (by decide) ?_
                    refine px_iadd dX7_fault_88 ?_
                    rw [show nI (3 * q) + 2 = nI (3 * q + 2) from nI_add _ 2]
                    refine px_callV1 (ν := mX7_isFigure) (ci := 7) rfl rfl lk_X7_133 in_X7_isFigure se_X7_isFigure mok_X7_isFigure dX7_fault_89 (f2) (by exact mH_0) rfl rfl (by omega) (by simp) ?_
                    refine px_ifb_ne (tgt := 99) dX7_fault_92 (by decide) (fun hc92 => ?_) (fun hc92 => ?_)
                    · refine px_iload_n dX7_fault_99 rfl ?_
                      refine px_callS1 (ν := mX7_isAsking) lk_X7_123 st_X7_isAsking mok_X7_isAsking dX7_fault_100 (c_X7_isAsking _) rfl rfl (by omega) (by simp) ?_
                      refine px_ifb_eq (tgt := 141) dX7_fault_103 (by decide) (fun hc103 => ?_) (fun hc103 => ?_)
                      · rw [hk2.1] at hc103; cases hc103
                      · refine px_bipush (v := 10) dX7_fault_106 (by decide) ?_
                        refine px_aload_n dX7_fault_108 rfl ?_
                        refine mx_get fl_X7_57 dX7_fault_109 rfl ?_
                        refine px_iload_n dX7_fault_112 rfl ?_
                        refine px_iconst (v := 1) dX7_fault_113 (by decide) ?_
                        refine px_iadd dX7_fault_114 ?_
                        refine mx_iaload (j := 8) (m := 50) (q := 3 * q + 1) dX7_fault_115 (by decide) (by first | rfl | (simp (disch := omega) only [li0, li1, li2, li3, li5, li6, li8, li9, li10, li12, li13, li16, li20, li24, li25, li100, li408, li424, li824, nI_add, nI_mul, nI_sub]; first | done | rfl | (congr 1; omega))) (by omega) ?_
                        rw [s1]
                        refine px_bipush (v := 48) dX7_fault_116 (by decide) ?_
                        refine px_isub dX7_fault_118 ?_
                        refine px_imul dX7_fault_119 ?_
                        refine px_aload_n dX7_fault_120 rfl ?_
                        refine mx_get fl_X7_57 dX7_fault_121 rfl ?_
                        refine px_iload_n dX7_fault_124 rfl ?_
                        refine px_iconst (v := 2) dX7_fault_125 (by decide) ?_
                        refine px_iadd dX7_fault_126 ?_
                        refine mx_iaload (j := 8) (m := 50) (q := 3 * q + 2) dX7_fault_127 (by decide) (by first | rfl | (simp (disch := omega) only [li0, li1, li2, li3, li5, li6, li8, li9, li10, li12, li13, li16, li20, li24, li25, li100, li408, li424, li824, nI_add, nI_mul, nI_sub]; first | done | rfl | (congr 1; omega))) (by omega) ?_
                        rw [s2]
                        refine px_iadd dX7_fault_128 ?_
                        refine px_bipush (v := 48) dX7_fault_129 (by decide) ?_
                        refine px_isub dX7_fault_131 ?_
                        rw [hnum]
                        refine px_bipush (v := 24) dX7_fault_132 (by decide) ?_
                        refine px_icmp_lt (tgt := 141) dX7_fault_134 (by decide) (fun hc134 => ?_) (fun hc134 => ?_)
                        · exact absurd hc134 hk2.2
                        · refine px_iload_n dX7_fault_137 rfl ?_
                          refine px_iconst (v := 1) dX7_fault_138 (by decide) ?_
                          refine px_iadd dX7_fault_139 ?_
                          exact px_reti dX7_fault_140 (by rw [nI_1]) (by rfl)
                    · cases hc92
                  · have n5 : ¬ (0 < (3 * q + 1 + 1) % 3 ∧ tp_nokey T.1 T.2 (3 * q + 1 + 1 - (3 * q + 1 + 1) % 3) ((3 * q + 1 + 1) % 3) = true) := by
                      rw [m2, show 3 * q + 1 + 1 - 2 = 3 * q by omega, hnk2]
                      intro h
                      have h2 := h.2
                      simp only [Bool.and_eq_true, Bool.not_eq_true', decide_eq_false_iff_not] at h2
                      exact hk2 h2
                    rw [tp_fault_s3 n4 n5]
                    have ih := l_X7_fault_4 (d := d) hd hT k (q + 1) (some (.int (T.2 (3 * q)))) (by omega) (by omega)
                    rw [show T.1 - 3 * (q + 1) = R2 by omega, show 3 * (q + 1) = 3 * q + 1 + 1 + 1 by omega] at ih
                    have hi3 : nI (3 * q) + Int32.ofInt 3 = nI (3 * q + 1 + 1 + 1) := nI_add (3 * q) 3
                    refine px_aload_n dX7_fault_85 rfl ?_
                    refine px_iload_n dX7_fault_86 rfl ?_
                    refine px_iconst (v := 2) dX7_fault_87 (by decide) ?_
                    refine px_iadd dX7_fault_88 ?_
                    rw [show nI (3 * q) + 2 = nI (3 * q + 2) from nI_add _ 2]
                    refine px_callV1 (ν := mX7_isFigure) (ci := 7) rfl rfl lk_X7_133 in_X7_isFigure se_X7_isFigure mok_X7_isFigure dX7_fault_89 (f2) (by exact mH_0) rfl rfl (by omega) (by simp) ?_
                    refine px_ifb_ne (tgt := 99) dX7_fault_92 (by decide) (fun hc92 => ?_) (fun hc92 => ?_)
                    · refine px_iload_n dX7_fault_99 rfl ?_
                      refine px_callS1 (ν := mX7_isAsking) lk_X7_123 st_X7_isAsking mok_X7_isAsking dX7_fault_100 (c_X7_isAsking _) rfl rfl (by omega) (by simp) ?_
                      refine px_ifb_eq (tgt := 141) dX7_fault_103 (by decide) (fun hc103 => ?_) (fun hc103 => ?_)
                      · refine px_iinc1 rfl hi3 dX7_fault_141 ?_
                        refine px_iinc2 rfl (nI_inc q) dX7_fault_144 ?_
                        refine px_goto (tgt := 4) dX7_fault_147 (by decide) ?_
                        exact ih
                      · refine px_bipush (v := 10) dX7_fault_106 (by decide) ?_
                        refine px_aload_n dX7_fault_108 rfl ?_
                        refine mx_get fl_X7_57 dX7_fault_109 rfl ?_
                        refine px_iload_n dX7_fault_112 rfl ?_
                        refine px_iconst (v := 1) dX7_fault_113 (by decide) ?_
                        refine px_iadd dX7_fault_114 ?_
                        refine mx_iaload (j := 8) (m := 50) (q := 3 * q + 1) dX7_fault_115 (by decide) (by first | rfl | (simp (disch := omega) only [li0, li1, li2, li3, li5, li6, li8, li9, li10, li12, li13, li16, li20, li24, li25, li100, li408, li424, li824, nI_add, nI_mul, nI_sub]; first | done | rfl | (congr 1; omega))) (by omega) ?_
                        rw [s1]
                        refine px_bipush (v := 48) dX7_fault_116 (by decide) ?_
                        refine px_isub dX7_fault_118 ?_
                        refine px_imul dX7_fault_119 ?_
                        refine px_aload_n dX7_fault_120 rfl ?_
                        refine mx_get fl_X7_57 dX7_fault_121 rfl ?_
                        refine px_iload_n dX7_fault_124 rfl ?_
                        refine px_iconst (v := 2) dX7_fault_125 (by decide) ?_
                        refine px_iadd dX7_fault_126 ?_
                        refine mx_iaload (j := 8) (m := 50) (q := 3 * q + 2) dX7_fault_127 (by decide) (by first | rfl | (simp (disch := omega) only [li0, li1, li2, li3, li5, li6, li8, li9, li10, li12, li13, li16, li20, li24, li25, li100, li408, li424, li824, nI_add, nI_mul, nI_sub]; first | done | rfl | (congr 1; omega))) (by omega) ?_
                        rw [s2]
                        refine px_iadd dX7_fault_128 ?_
                        refine px_bipush (v := 48) dX7_fault_129 (by decide) ?_
                        refine px_isub dX7_fault_131 ?_
                        rw [hnum]
                        refine px_bipush (v := 24) dX7_fault_132 (by decide) ?_
                        refine px_icmp_lt (tgt := 141) dX7_fault_134 (by decide) (fun hc134 => ?_) (fun hc134 => ?_)
                        · refine px_iinc1 rfl hi3 dX7_fault_141 ?_
                          refine px_iinc2 rfl (nI_inc q) dX7_fault_144 ?_
                          refine px_goto (tgt := 4) dX7_fault_147 (by decide) ?_
                          exact ih
                        · exact absurd ⟨hc103, hc134⟩ hk2
                    · cases hc92
                · have hb2' : (decide (3 * q + 2 < T.1) && s_isFigure (T.2 (3 * q + 2))) = false := by simpa using hb2
                  rw [hb2'] at f2
                  have hv : tp_fault T.1 T.2 R1 (3 * q + 1 + 1) = nI (3 * q + 2) := by
                    by_cases hl2 : 3 * q + 2 < T.1
                    · obtain ⟨R2, hR2⟩ : ∃ R2, R1 = R2 + 1 := ⟨R1 - 1, by omega⟩
                      rw [hR2]
                      refine tp_fault_s1 (Or.inr ?_)
                      rw [if_neg (by omega), show 3 * q + 1 + 1 = 3 * q + 2 by omega]
                      rw [decide_eq_true hl2, Bool.true_and] at hb2'
                      exact hb2'
                    · rw [show R1 = 0 by omega, tp_fault, if_neg (by omega)]
                      congr 1
                      omega
                  rw [hv]
                  refine px_aload_n dX7_fault_85 rfl ?_
                  refine px_iload_n dX7_fault_86 rfl ?_
                  refine px_iconst (v := 2) dX7_fault_87 (by decide) ?_
                  refine px_iadd dX7_fault_88 ?_
                  rw [show nI (3 * q) + 2 = nI (3 * q + 2) from nI_add _ 2]
                  refine px_callV1 (ν := mX7_isFigure) (ci := 7) rfl rfl lk_X7_133 in_X7_isFigure se_X7_isFigure mok_X7_isFigure dX7_fault_89 (f2) (by exact mH_0) rfl rfl (by omega) (by simp) ?_
                  refine px_ifb_ne (tgt := 99) dX7_fault_92 (by decide) (fun hc92 => ?_) (fun hc92 => ?_)
                  · cases hc92
                  · refine px_iload_n dX7_fault_95 rfl ?_
                    refine px_iconst (v := 2) dX7_fault_96 (by decide) ?_
                    refine px_iadd dX7_fault_97 ?_
                    exact px_reti dX7_fault_98 (by rw [show (2 : Int32) = nI 2 from rfl, nI_add]) (by rfl)
              refine px_aload_n dX7_fault_44 rfl ?_
              refine mx_get fl_X7_57 dX7_fault_45 rfl ?_
              refine px_iload_n dX7_fault_48 rfl ?_
              refine mx_iaload (j := 8) (m := 50) (q := 3 * q) dX7_fault_49 (by decide) (by first | rfl | (simp (disch := omega) only [li0, li1, li2, li3, li5, li6, li8, li9, li10, li12, li13, li16, li20, li24, li25, li100, li408, li424, li824, nI_add, nI_mul, nI_sub]; first | done | rfl | (congr 1; omega))) (by omega) ?_
              rw [s0]
              refine px_istore3 rfl dX7_fault_50 ?_
              refine px_aload_n dX7_fault_51 rfl ?_
              refine px_iload_n dX7_fault_52 rfl ?_
              refine px_iconst (v := 1) dX7_fault_53 (by decide) ?_
              refine px_iadd dX7_fault_54 ?_
              rw [show nI (3 * q) + 1 = nI (3 * q + 1) from nI_1 _]
              refine px_callV1 (ν := mX7_isFigure) (ci := 7) rfl rfl lk_X7_133 in_X7_isFigure se_X7_isFigure mok_X7_isFigure dX7_fault_55 (f1) (by exact mH_0) rfl rfl (by omega) (by simp) ?_
              refine px_ifb_eq (tgt := 81) dX7_fault_58 (by decide) (fun hc58 => ?_) (fun hc58 => ?_)
              · cases hc58
              · refine px_iload_n dX7_fault_61 rfl ?_
                refine px_callS1 (ν := mX7_isAsking) lk_X7_123 st_X7_isAsking mok_X7_isAsking dX7_fault_62 (c_X7_isAsking _) rfl rfl (by omega) (by simp) ?_
                refine px_ifb_eq (tgt := 85) dX7_fault_65 (by decide) (fun hc65 => ?_) (fun hc65 => ?_)
                · exact key2
                · refine px_aload_n dX7_fault_68 rfl ?_
                  refine mx_get fl_X7_57 dX7_fault_69 rfl ?_
                  refine px_iload_n dX7_fault_72 rfl ?_
                  refine px_iconst (v := 1) dX7_fault_73 (by decide) ?_
                  refine px_iadd dX7_fault_74 ?_
                  refine mx_iaload (j := 8) (m := 50) (q := 3 * q + 1) dX7_fault_75 (by decide) (by first | rfl | (simp (disch := omega) only [li0, li1, li2, li3, li5, li6, li8, li9, li10, li12, li13, li16, li20, li24, li25, li100, li408, li424, li824, nI_add, nI_mul, nI_sub]; first | done | rfl | (congr 1; omega))) (by omega) ?_
                  rw [s1]
                  refine px_bipush (v := 50) dX7_fault_76 (by decide) ?_
                  refine px_icmp_le (tgt := 85) dX7_fault_78 (by decide) (fun hc78 => ?_) (fun hc78 => ?_)
                  · exact key2
                  · exact absurd ⟨hc65, Int32.not_le.mp hc78⟩ hk1
          · have hb1' : (decide (3 * q + 1 < T.1) && s_isFigure (T.2 (3 * q + 1))) = false := by simpa using hb1
            rw [hb1'] at f1
            have hv : tp_fault T.1 T.2 R (3 * q + 1) = nI (3 * q + 1) := by
              by_cases hl1 : 3 * q + 1 < T.1
              · obtain ⟨R1, hR1⟩ : ∃ R1, R = R1 + 1 := ⟨R - 1, by omega⟩
                rw [hR1]
                refine tp_fault_s1 (Or.inr ?_)
                rw [if_neg (by omega)]
                rw [decide_eq_true hl1, Bool.true_and] at hb1'
                exact hb1'
              · rw [show R = 0 by omega, tp_fault, if_neg (by omega)]
                congr 1
                omega
            rw [hv]
            refine px_aload_n dX7_fault_44 rfl ?_
            refine mx_get fl_X7_57 dX7_fault_45 rfl ?_
            refine px_iload_n dX7_fault_48 rfl ?_
            refine mx_iaload (j := 8) (m := 50) (q := 3 * q) dX7_fault_49 (by decide) (by first | rfl | (simp (disch := omega) only [li0, li1, li2, li3, li5, li6, li8, li9, li10, li12, li13, li16, li20, li24, li25, li100, li408, li424, li824, nI_add, nI_mul, nI_sub]; first | done | rfl | (congr 1; omega))) (by omega) ?_
            rw [s0]
            refine px_istore3 rfl dX7_fault_50 ?_
            refine px_aload_n dX7_fault_51 rfl ?_
            refine px_iload_n dX7_fault_52 rfl ?_
            refine px_iconst (v := 1) dX7_fault_53 (by decide) ?_
            refine px_iadd dX7_fault_54 ?_
            rw [show nI (3 * q) + 1 = nI (3 * q + 1) from nI_1 _]
            refine px_callV1 (ν := mX7_isFigure) (ci := 7) rfl rfl lk_X7_133 in_X7_isFigure se_X7_isFigure mok_X7_isFigure dX7_fault_55 (f1) (by exact mH_0) rfl rfl (by omega) (by simp) ?_
            refine px_ifb_eq (tgt := 81) dX7_fault_58 (by decide) (fun hc58 => ?_) (fun hc58 => ?_)
            · refine px_iload_n dX7_fault_81 rfl ?_
              refine px_iconst (v := 1) dX7_fault_82 (by decide) ?_
              refine px_iadd dX7_fault_83 ?_
              exact px_reti dX7_fault_84 (by rw [nI_1]) (by rfl)
            · cases hc58
        refine px_iload_n dX7_fault_4 rfl ?_
        refine px_bipush (v := 12) dX7_fault_5 (by decide) ?_
        refine px_icmp_ge (tgt := 150) dX7_fault_7 (by decide) (fun hc7 => ?_) (fun hc7 => ?_)
        · exact absurd hc7 h12
        · refine px_iload_n dX7_fault_10 rfl ?_
          refine px_if_eq (tgt := 22) dX7_fault_11 (by decide) (fun hc11 => ?_) (fun hc11 => ?_)
          · refine px_iload_n dX7_fault_22 rfl ?_
            refine px_aload_n dX7_fault_23 rfl ?_
            refine mx_get fl_X7_120 dX7_fault_24 rfl ?_
            refine px_icmp_ge (tgt := 42) dX7_fault_27 (by decide) (fun hc27 => ?_) (fun hc27 => ?_)
            · exact absurd hc27 hge
            · refine px_aload_n dX7_fault_30 rfl ?_
              refine mx_get fl_X7_57 dX7_fault_31 rfl ?_
              refine px_iload_n dX7_fault_34 rfl ?_
              refine mx_iaload (j := 8) (m := 50) (q := 3 * q) dX7_fault_35 (by decide) (by first | rfl | (simp (disch := omega) only [li0, li1, li2, li3, li5, li6, li8, li9, li10, li12, li13, li16, li20, li24, li25, li100, li408, li424, li824, nI_add, nI_mul, nI_sub]; first | done | rfl | (congr 1; omega))) (by omega) ?_
              rw [s0]
              refine px_callS1 (ν := mX7_isSign) lk_X7_130 st_X7_isSign mok_X7_isSign dX7_fault_36 (c_X7_isSign _) rfl rfl (by omega) (by simp) ?_
              refine px_ifb_ne (tgt := 44) dX7_fault_39 (by decide) (fun hc39 => ?_) (fun hc39 => ?_)
              · exact key
              · rw [hsg] at hc39; cases hc39
          · refine px_iload_n dX7_fault_14 rfl ?_
            refine px_aload_n dX7_fault_15 rfl ?_
            refine mx_get fl_X7_120 dX7_fault_16 rfl ?_
            refine px_icmp_ge (tgt := 150) dX7_fault_19 (by decide) (fun hc19 => ?_) (fun hc19 => ?_)
            · exact absurd hc19 hge
            · refine px_iload_n dX7_fault_22 rfl ?_
              refine px_aload_n dX7_fault_23 rfl ?_
              refine mx_get fl_X7_120 dX7_fault_24 rfl ?_
              refine px_icmp_ge (tgt := 42) dX7_fault_27 (by decide) (fun hc27 => ?_) (fun hc27 => ?_)
              · exact absurd hc27 hge
              · refine px_aload_n dX7_fault_30 rfl ?_
                refine mx_get fl_X7_57 dX7_fault_31 rfl ?_
                refine px_iload_n dX7_fault_34 rfl ?_
                refine mx_iaload (j := 8) (m := 50) (q := 3 * q) dX7_fault_35 (by decide) (by first | rfl | (simp (disch := omega) only [li0, li1, li2, li3, li5, li6, li8, li9, li10, li12, li13, li16, li20, li24, li25, li100, li408, li424, li824, nI_add, nI_mul, nI_sub]; first | done | rfl | (congr 1; omega))) (by omega) ?_
                rw [s0]
                refine px_callS1 (ν := mX7_isSign) lk_X7_130 st_X7_isSign mok_X7_isSign dX7_fault_36 (c_X7_isSign _) rfl rfl (by omega) (by simp) ?_
                refine px_ifb_ne (tgt := 44) dX7_fault_39 (by decide) (fun hc39 => ?_) (fun hc39 => ?_)
                · exact key
                · rw [hsg] at hc39; cases hc39
      · have hsg' : s_isSign (T.2 (3 * q)) = false := by simpa using hsg
        rw [tp_fault_s1 (Or.inr (by rw [if_pos hm0]; exact hsg'))]
        refine px_iload_n dX7_fault_4 rfl ?_
        refine px_bipush (v := 12) dX7_fault_5 (by decide) ?_
        refine px_icmp_ge (tgt := 150) dX7_fault_7 (by decide) (fun hc7 => ?_) (fun hc7 => ?_)
        · exact absurd hc7 h12
        · refine px_iload_n dX7_fault_10 rfl ?_
          refine px_if_eq (tgt := 22) dX7_fault_11 (by decide) (fun hc11 => ?_) (fun hc11 => ?_)
          · refine px_iload_n dX7_fault_22 rfl ?_
            refine px_aload_n dX7_fault_23 rfl ?_
            refine mx_get fl_X7_120 dX7_fault_24 rfl ?_
            refine px_icmp_ge (tgt := 42) dX7_fault_27 (by decide) (fun hc27 => ?_) (fun hc27 => ?_)
            · exact absurd hc27 hge
            · refine px_aload_n dX7_fault_30 rfl ?_
              refine mx_get fl_X7_57 dX7_fault_31 rfl ?_
              refine px_iload_n dX7_fault_34 rfl ?_
              refine mx_iaload (j := 8) (m := 50) (q := 3 * q) dX7_fault_35 (by decide) (by first | rfl | (simp (disch := omega) only [li0, li1, li2, li3, li5, li6, li8, li9, li10, li12, li13, li16, li20, li24, li25, li100, li408, li424, li824, nI_add, nI_mul, nI_sub]; first | done | rfl | (congr 1; omega))) (by omega) ?_
              rw [s0]
              refine px_callS1 (ν := mX7_isSign) lk_X7_130 st_X7_isSign mok_X7_isSign dX7_fault_36 (c_X7_isSign _) rfl rfl (by omega) (by simp) ?_
              refine px_ifb_ne (tgt := 44) dX7_fault_39 (by decide) (fun hc39 => ?_) (fun hc39 => ?_)
              · rw [hsg'] at hc39; cases hc39
              · refine px_iload_n dX7_fault_42 rfl ?_
                exact px_reti dX7_fault_43 (by rfl) (by rfl)
          · refine px_iload_n dX7_fault_14 rfl ?_
            refine px_aload_n dX7_fault_15 rfl ?_
            refine mx_get fl_X7_120 dX7_fault_16 rfl ?_
            refine px_icmp_ge (tgt := 150) dX7_fault_19 (by decide) (fun hc19 => ?_) (fun hc19 => ?_)
            · exact absurd hc19 hge
            · refine px_iload_n dX7_fault_22 rfl ?_
              refine px_aload_n dX7_fault_23 rfl ?_
              refine mx_get fl_X7_120 dX7_fault_24 rfl ?_
              refine px_icmp_ge (tgt := 42) dX7_fault_27 (by decide) (fun hc27 => ?_) (fun hc27 => ?_)
              · exact absurd hc27 hge
              · refine px_aload_n dX7_fault_30 rfl ?_
                refine mx_get fl_X7_57 dX7_fault_31 rfl ?_
                refine px_iload_n dX7_fault_34 rfl ?_
                refine mx_iaload (j := 8) (m := 50) (q := 3 * q) dX7_fault_35 (by decide) (by first | rfl | (simp (disch := omega) only [li0, li1, li2, li3, li5, li6, li8, li9, li10, li12, li13, li16, li20, li24, li25, li100, li408, li424, li824, nI_add, nI_mul, nI_sub]; first | done | rfl | (congr 1; omega))) (by omega) ?_
                rw [s0]
                refine px_callS1 (ν := mX7_isSign) lk_X7_130 st_X7_isSign mok_X7_isSign dX7_fault_36 (c_X7_isSign _) rfl rfl (by omega) (by simp) ?_
                refine px_ifb_ne (tgt := 44) dX7_fault_39 (by decide) (fun hc39 => ?_) (fun hc39 => ?_)
                · rw [hsg'] at hc39; cases hc39
                · refine px_iload_n dX7_fault_42 rfl ?_
                  exact px_reti dX7_fault_43 (by rfl) (by rfl)
    · have heq : 3 * q = T.1 := by omega
      have hle : M.1 10 ≤ nI (3 * q) := by rw [h10]; exact nI_le (by omega) (by omega)
      by_cases hq0 : q = 0
      · subst hq0
        have hv : tp_fault T.1 T.2 (T.1 - 3 * 0) (3 * 0) = nI (3 * 0) := by
          rw [show T.1 - 3 * 0 = 0 by omega, tp_fault, if_neg (by omega)]
          congr 1
          omega
        rw [hv]
        refine px_iload_n dX7_fault_4 rfl ?_
        refine px_bipush (v := 12) dX7_fault_5 (by decide) ?_
        refine px_icmp_ge (tgt := 150) dX7_fault_7 (by decide) (fun hc7 => ?_) (fun hc7 => ?_)
        · exact absurd hc7 h12
        · refine px_iload_n dX7_fault_10 rfl ?_
          refine px_if_eq (tgt := 22) dX7_fault_11 (by decide) (fun hc11 => ?_) (fun hc11 => ?_)
          · refine px_iload_n dX7_fault_22 rfl ?_
            refine px_aload_n dX7_fault_23 rfl ?_
            refine mx_get fl_X7_120 dX7_fault_24 rfl ?_
            refine px_icmp_ge (tgt := 42) dX7_fault_27 (by decide) (fun hc27 => ?_) (fun hc27 => ?_)
            · refine px_iload_n dX7_fault_42 rfl ?_
              exact px_reti dX7_fault_43 (by rfl) (by rfl)
            · exact absurd hle hc27
          · exact absurd rfl hc11
      · have hv : tp_fault T.1 T.2 (T.1 - 3 * q) (3 * q) = -1 := by
          rw [show T.1 - 3 * q = 0 by omega, tp_fault, if_pos (by omega)]
        rw [hv]
        have hqz : ¬ nI q = 0 := nI_ne0 (by omega) (by omega)
        refine px_iload_n dX7_fault_4 rfl ?_
        refine px_bipush (v := 12) dX7_fault_5 (by decide) ?_
        refine px_icmp_ge (tgt := 150) dX7_fault_7 (by decide) (fun hc7 => ?_) (fun hc7 => ?_)
        · exact absurd hc7 h12
        · refine px_iload_n dX7_fault_10 rfl ?_
          refine px_if_eq (tgt := 22) dX7_fault_11 (by decide) (fun hc11 => ?_) (fun hc11 => ?_)
          · exact absurd hc11 hqz
          · refine px_iload_n dX7_fault_14 rfl ?_
            refine px_aload_n dX7_fault_15 rfl ?_
            refine mx_get fl_X7_120 dX7_fault_16 rfl ?_
            refine px_icmp_ge (tgt := 150) dX7_fault_19 (by decide) (fun hc19 => ?_) (fun hc19 => ?_)
            · refine px_iload_n dX7_fault_150 rfl ?_
              refine px_aload_n dX7_fault_151 rfl ?_
              refine mx_get fl_X7_120 dX7_fault_152 rfl ?_
              refine px_icmp_ge (tgt := 162) dX7_fault_155 (by decide) (fun hc155 => ?_) (fun hc155 => ?_)
              · refine px_iconst (v := (-1)) dX7_fault_162 (by decide) ?_
                exact px_reti dX7_fault_163 (by rfl) (by rfl)
              · exact absurd hle hc155
            · exact absurd hle hc19
theorem c_X7_fault (hT : RT M T) : CT B D 2 mX7_fault [.ref r] (n, w, mH r f M) (some (.int (tpF T))) (n, w, mH r f M) := by
  refine CT.of [some (.ref r), none, none, none] rfl (Nat.le_of_ble_eq_true rfl) pl_X7 trivial ?_
  refine px_iconst (v := 0) dX7_fault_0 (by decide) ?_
  refine px_istore1 rfl dX7_fault_1 ?_
  refine px_iconst (v := 0) dX7_fault_2 (by decide) ?_
  refine px_istore2 rfl dX7_fault_3 ?_
  exact l_X7_fault_4 (Nat.le_refl _) hT 12 0 none rfl (Nat.zero_le _)
end M74
