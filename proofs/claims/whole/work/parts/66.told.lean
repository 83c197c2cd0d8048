/-! the reference: told, tried -/
theorem sa_ne {M : MS} {j i q : Nat} {x : Int32} (h : i ≠ j) : (M.sa j q x).2.1 i = M.2.1 i := va_up_ne _ _ h
section M66
variable {B : Nat} {D : va_G} {n w r : Nat} {f : Nat → Option va_E} {bk : BK} {M : MS} {C : CS}
theorem hv_5 (A : AW) : cntF (t_hv A 1) 16 0 0 = cntF (fun k => (aHas A k).isSome) 16 8 0 := cntF_shift (fun k => (aHas A k).isSome) 16 0 0
theorem hv_6 (A : AW) : cntF (t_hv A 2) 16 0 0 = cntF (fun k => (aFail A k).isSome) 16 8 0 := cntF_shift (fun k => (aFail A k).isSome) 16 0 0
theorem m_told (h : RP bk M C) (x : Int32) : RQ B D n w r f 50 mX7_told [.int x] bk M (.int (v_told C x)) C := by
  refine RQ.same h ?_
  obtain ⟨h1, ⟨hN, hW⟩, h3, ⟨⟨q1, q2, q3, q4, q5, q6⟩, h5, h6⟩, h7, h8⟩ := h
  refine CT.of [some (.ref r), some (.int x)] rfl (Nat.le_of_ble_eq_true rfl) pl_X7 trivial ?_
  refine px_iload_n dX7_told_0 rfl ?_
  rcases sw_cases x 0 11 with h | h | ⟨j, hj, h⟩
  · refine px_tableOut (tgt := 103) dX7_told_1 (Or.inl h) (by decide) ?_
    have hne : ∀ z : Int32, 0 ≤ z.toInt → z.toInt ≤ 10 → ¬ x = z := fun z h1 h2 e => by subst e; omega
    refine px_iconst (v := (-1)) dX7_told_103 (by decide) ?_
    exact px_reti dX7_told_104 (by unfold v_told; rw [if_neg (hne 0 (by decide) (by decide)), if_neg (hne 1 (by decide) (by decide)), if_neg (hne 2 (by decide) (by decide)), if_neg (hne 3 (by decide) (by decide)), if_neg (hne 4 (by decide) (by decide)), if_neg (hne 5 (by decide) (by decide)), if_neg (hne 6 (by decide) (by decide)), if_neg (hne 7 (by decide) (by decide)), if_neg (hne 8 (by decide) (by decide)), if_neg (hne 9 (by decide) (by decide)), if_neg (hne 10 (by decide) (by decide))]) (by rfl)
  · refine px_tableOut (tgt := 103) dX7_told_1 (Or.inr (by omega)) (by decide) ?_
    have hne : ∀ z : Int32, 0 ≤ z.toInt → z.toInt ≤ 10 → ¬ x = z := fun z h1 h2 e => by subst e; omega
    refine px_iconst (v := (-1)) dX7_told_103 (by decide) ?_
    exact px_reti dX7_told_104 (by unfold v_told; rw [if_neg (hne 0 (by decide) (by decide)), if_neg (hne 1 (by decide) (by decide)), if_neg (hne 2 (by decide) (by decide)), if_neg (hne 3 (by decide) (by decide)), if_neg (hne 4 (by decide) (by decide)), if_neg (hne 5 (by decide) (by decide)), if_neg (hne 6 (by decide) (by decide)), if_neg (hne 7 (by decide) (by decide)), if_neg (hne 8 (by decide) (by decide)), if_neg (hne 9 (by decide) (by decide)), if_neg (hne 10 (by decide) (by decide))]) (by rfl)
  · match j, hj with
    | 0, _ =>
      have hx : x = 0 := Int32.toInt_inj.mp (by rw [h]; rfl)
      subst hx
      refine px_tableIn (off := 59) (tgt := 60) dX7_told_1 (by decide) (by decide) rfl (by decide) ?_
      refine px_aload_n dX7_told_60 rfl ?_
      refine mx_get fl_X7_178 dX7_told_61 rfl ?_
      exact px_reti dX7_told_64 (by rw [q3]; rfl) (by rfl)
    | 1, _ =>
      have hx : x = 1 := Int32.toInt_inj.mp (by rw [h]; rfl)
      subst hx
      refine px_tableIn (off := 64) (tgt := 65) dX7_told_1 (by decide) (by decide) rfl (by decide) ?_
      refine px_aload_n dX7_told_65 rfl ?_
      refine mx_get fl_X7_184 dX7_told_66 rfl ?_
      exact px_reti dX7_told_69 (by rw [q4]; rfl) (by rfl)
    | 2, _ =>
      have hx : x = 2 := Int32.toInt_inj.mp (by rw [h]; rfl)
      subst hx
      refine px_tableIn (off := 69) (tgt := 70) dX7_told_1 (by decide) (by decide) rfl (by decide) ?_
      refine px_aload_n dX7_told_70 rfl ?_
      refine mx_get fl_X7_153 dX7_told_71 rfl ?_
      exact px_reti dX7_told_74 (by rw [q5]; rfl) (by rfl)
    | 3, _ =>
      have hx : x = 3 := Int32.toInt_inj.mp (by rw [h]; rfl)
      subst hx
      refine px_tableIn (off := 74) (tgt := 75) dX7_told_1 (by decide) (by decide) rfl (by decide) ?_
      refine px_aload_n dX7_told_75 rfl ?_
      refine mx_get fl_X7_162 dX7_told_76 rfl ?_
      exact px_reti dX7_told_79 (by rw [q6]; rfl) (by rfl)
    | 4, _ =>
      have hx : x = 4 := Int32.toInt_inj.mp (by rw [h]; rfl)
      subst hx
      refine px_tableIn (off := 79) (tgt := 80) dX7_told_1 (by decide) (by decide) rfl (by decide) ?_
      refine px_aload_n dX7_told_80 rfl ?_
      refine px_iload_n dX7_told_81 rfl ?_
      refine px_iconst (v := 4) dX7_told_82 (by decide) ?_
      refine px_isub dX7_told_83 ?_
      rw [show (4 : Int32) - 4 = 0 from rfl]
      refine px_callV1 (ν := mX7_having) (ci := 7) rfl rfl lk_X7_231 in_X7_having se_X7_having mok_X7_having dX7_told_84 (c_X7_having_0 hN) (by exact mH_0) rfl rfl (by omega) (by simp) ?_
      exact px_reti dX7_told_87 (by rfl) (by rfl)
    | 5, _ =>
      have hx : x = 5 := Int32.toInt_inj.mp (by rw [h]; rfl)
      subst hx
      refine px_tableIn (off := 79) (tgt := 80) dX7_told_1 (by decide) (by decide) rfl (by decide) ?_
      refine px_aload_n dX7_told_80 rfl ?_
      refine px_iload_n dX7_told_81 rfl ?_
      refine px_iconst (v := 4) dX7_told_82 (by decide) ?_
      refine px_isub dX7_told_83 ?_
      rw [show (5 : Int32) - 4 = 1 from rfl]
      refine px_callV1 (ν := mX7_having) (ci := 7) rfl rfl lk_X7_231 in_X7_having se_X7_having mok_X7_having dX7_told_84 (c_X7_having_1 hN) (by exact mH_0) rfl rfl (by omega) (by simp) ?_
      exact px_reti dX7_told_87 (by rw [hv_5]; rfl) (by rfl)
    | 6, _ =>
      have hx : x = 6 := Int32.toInt_inj.mp (by rw [h]; rfl)
      subst hx
      refine px_tableIn (off := 79) (tgt := 80) dX7_told_1 (by decide) (by decide) rfl (by decide) ?_
      refine px_aload_n dX7_told_80 rfl ?_
      refine px_iload_n dX7_told_81 rfl ?_
      refine px_iconst (v := 4) dX7_told_82 (by decide) ?_
      refine px_isub dX7_told_83 ?_
      rw [show (6 : Int32) - 4 = 2 from rfl]
      refine px_callV1 (ν := mX7_having) (ci := 7) rfl rfl lk_X7_231 in_X7_having se_X7_having mok_X7_having dX7_told_84 (c_X7_having_2 hN) (by exact mH_0) rfl rfl (by omega) (by simp) ?_
      exact px_reti dX7_told_87 (by rw [hv_6]; rfl) (by rfl)
    | 7, _ =>
      have hx : x = 7 := Int32.toInt_inj.mp (by rw [h]; rfl)
      subst hx
      refine px_tableIn (off := 79) (tgt := 80) dX7_told_1 (by decide) (by decide) rfl (by decide) ?_
      refine px_aload_n dX7_told_80 rfl ?_
      refine px_iload_n dX7_told_81 rfl ?_
      refine px_iconst (v := 4) dX7_told_82 (by decide) ?_
      refine px_isub dX7_told_83 ?_
      rw [show (7 : Int32) - 4 = 3 from rfl]
      refine px_callV1 (ν := mX7_having) (ci := 7) rfl rfl lk_X7_231 in_X7_having se_X7_having mok_X7_having dX7_told_84 (c_X7_having_3 hN) (by exact mH_0) rfl rfl (by omega) (by simp) ?_
      exact px_reti dX7_told_87 (by rfl) (by rfl)
    | 8, _ =>
      have hx : x = 8 := Int32.toInt_inj.mp (by rw [h]; rfl)
      subst hx
      refine px_tableIn (off := 87) (tgt := 88) dX7_told_1 (by decide) (by decide) rfl (by decide) ?_
      refine px_aload_n dX7_told_88 rfl ?_
      refine mx_get fl_X7_120 dX7_told_89 rfl ?_
      exact px_reti dX7_told_92 (by rw [h7.1]; rfl) (by rfl)
    | 9, _ =>
      have hx : x = 9 := Int32.toInt_inj.mp (by rw [h]; rfl)
      subst hx
      refine px_tableIn (off := 92) (tgt := 93) dX7_told_1 (by decide) (by decide) rfl (by decide) ?_
      refine px_aload_n dX7_told_93 rfl ?_
      refine mx_get fl_X7_144 dX7_told_94 rfl ?_
      exact px_reti dX7_told_97 (by rw [q1]; rfl) (by rfl)
    | 10, _ =>
      have hx : x = 10 := Int32.toInt_inj.mp (by rw [h]; rfl)
      subst hx
      refine px_tableIn (off := 97) (tgt := 98) dX7_told_1 (by decide) (by decide) rfl (by decide) ?_
      refine px_aload_n dX7_told_98 rfl ?_
      refine mx_get fl_X7_70 dX7_told_99 rfl ?_
      exact px_reti dX7_told_102 (by rw [h6]; rfl) (by rfl)
    | k + 11, hk => exact absurd hk (by omega)
theorem lt_47 {d t i : Nat} {v : Int32} : ∀ (k j : Nat) (M : MS), j + k = 24 → ∃ M' : MS, (∀ rr h1, EX B D d mX7_tried 74 [some (.ref r), some (.int (nI (8 + t))), some (.int (nI i)), some (.int v), some (.int (nI 24)), none, none, none, none, none, none, none] [] (n, w, mH r f M') rr h1 → EX B D d mX7_tried 47 [some (.ref r), some (.int (nI (8 + t))), some (.int (nI i)), some (.int v), some (.int (nI j)), none, none, none, none, none, none, none] [] (n, w, mH r f M) rr h1) ∧ M'.1 = M.1 ∧ M'.2.2 = M.2.2 ∧ (∀ i, i ≠ 14 → M'.2.1 i = M.2.1 i)
  | 0, j, M, hj => by
    have : j = 24 := by omega
    subst this
    refine ⟨M, fun rr h1 hk => ?_, rfl, rfl, fun _ _ => rfl⟩
    refine px_iload dX7_tried_47 rfl ?_
    refine px_bipush (v := 24) dX7_tried_49 (by decide) ?_
    refine px_icmp_ge (tgt := 74) dX7_tried_51 (by decide) (fun hc51 => ?_) (fun hc51 => ?_)
    · exact hk
    · exact absurd (by decide) hc51
  | k + 1, j, M, hj => by
    obtain ⟨y, hy⟩ : ∃ y : Int32, narrow .boolean (.int (M.2.1 9 j)) = .int y := ⟨_, rfl⟩
    obtain ⟨M', e1, e2, e3, e4⟩ := lt_47 (d := d) (t := t) (i := i) (v := v) k (j + 1) (M.sa 14 j y) (by omega)
    refine ⟨M', fun rr h1 hk => ?_, e2, e3, fun i hi => (e4 i hi).trans (va_up_ne _ _ hi)⟩
    have e1 := e1 rr h1 hk
    refine px_iload dX7_tried_47 rfl ?_
    refine px_bipush (v := 24) dX7_tried_49 (by decide) ?_
    refine px_icmp_ge (tgt := 74) dX7_tried_51 (by decide) (fun hc51 => ?_) (fun hc51 => ?_)
    · exact absurd hc51 (nI_ge (a := j) (b := 24) (by omega) (by omega))
    · refine px_aload_n dX7_tried_54 rfl ?_
      refine mx_get fl_X7_79 dX7_tried_55 rfl ?_
      refine px_iload dX7_tried_58 rfl ?_
      refine px_aload_n dX7_tried_60 rfl ?_
      refine mx_get fl_X7_60 dX7_tried_61 rfl ?_
      refine px_iload dX7_tried_64 rfl ?_
      refine mx_baload (j := 9) (m := 24) (q := j) dX7_tried_66 (by decide) (by first | rfl | (simp (disch := omega) only [li0, li1, li2, li3, li5, li6, li8, li9, li10, li12, li13, li16, li20, li24, li25, li100, li408, li424, li824, nI_add, nI_mul, nI_sub]; first | done | rfl | (congr 1; omega))) (by omega) ?_
      refine mx_bastoreY (j := 14) (m := 24) (q := j) dX7_tried_67 (by decide) (by first | rfl | (simp (disch := omega) only [li0, li1, li2, li3, li5, li6, li8, li9, li10, li12, li13, li16, li20, li24, li25, li100, li408, li424, li824, nI_add, nI_mul, nI_sub]; first | done | rfl | (congr 1; omega))) (by omega) (fun y' hy' => ?_)
      rw [hy] at hy'
      cases hy'
      refine px_iinc4 rfl (nI_inc j) dX7_tried_68 ?_
      refine px_goto (tgt := 47) dX7_tried_71 (by decide) ?_
      exact e1
theorem lt_77 {d t i : Nat} {v : Int32} : ∀ (k j : Nat) (M : MS), j + k = 16 → ∃ M' : MS, (∀ rr h1, EX B D d mX7_tried 104 [some (.ref r), some (.int (nI (8 + t))), some (.int (nI i)), some (.int v), some (.int (nI 16)), none, none, none, none, none, none, none] [] (n, w, mH r f M') rr h1 → EX B D d mX7_tried 77 [some (.ref r), some (.int (nI (8 + t))), some (.int (nI i)), some (.int v), some (.int (nI j)), none, none, none, none, none, none, none] [] (n, w, mH r f M) rr h1) ∧ M'.1 = M.1 ∧ M'.2.2 = M.2.2 ∧ (∀ i, i ≠ 15 → M'.2.1 i = M.2.1 i) ∧ (∀ q, j ≤ q → q < 16 → M'.2.1 15 q = M.2.1 11 q) ∧ ∀ q, q < j → M'.2.1 15 q = M.2.1 15 q
  | 0, j, M, hj => by
    have : j = 16 := by omega
    subst this
    refine ⟨M, fun rr h1 hk => ?_, rfl, rfl, fun _ _ => rfl, fun q h1 h2 => by omega, fun q _ => rfl⟩
    refine px_iload dX7_tried_77 rfl ?_
    refine px_bipush (v := 16) dX7_tried_79 (by decide) ?_
    refine px_icmp_ge (tgt := 104) dX7_tried_81 (by decide) (fun hc81 => ?_) (fun hc81 => ?_)
    · exact hk
    · exact absurd (by decide) hc81
  | k + 1, j, M, hj => by
    have ea : (M.sa 15 j (M.2.1 11 j)).2.1 11 = M.2.1 11 := rfl
    have eb : (M.sa 15 j (M.2.1 11 j)).2.1 15 = va_up (M.2.1 15) j (M.2.1 11 j) := rfl
    obtain ⟨M', e1, e2, e3, e4, e5, e6⟩ := lt_77 (d := d) (t := t) (i := i) (v := v) k (j + 1) (M.sa 15 j (M.2.1 11 j)) (by omega)
    rw [ea] at e5
    rw [eb] at e6
    refine ⟨M', fun rr h1 hk => ?_, e2, e3, fun i hi => (e4 i hi).trans (va_up_ne _ _ hi), fun q h1 h2 => ?_, fun q hq => ?_⟩
    · have e1 := e1 rr h1 hk
      refine px_iload dX7_tried_77 rfl ?_
      refine px_bipush (v := 16) dX7_tried_79 (by decide) ?_
      refine px_icmp_ge (tgt := 104) dX7_tried_81 (by decide) (fun hc81 => ?_) (fun hc81 => ?_)
      · exact absurd hc81 (nI_ge (a := j) (b := 16) (by omega) (by omega))
      · refine px_aload_n dX7_tried_84 rfl ?_
        refine mx_get fl_X7_82 dX7_tried_85 rfl ?_
        refine px_iload dX7_tried_88 rfl ?_
        refine px_aload_n dX7_tried_90 rfl ?_
        refine mx_get fl_X7_67 dX7_tried_91 rfl ?_
        refine px_iload dX7_tried_94 rfl ?_
        refine mx_iaload (j := 11) (m := 16) (q := j) dX7_tried_96 (by decide) (by first | rfl | (simp (disch := omega) only [li0, li1, li2, li3, li5, li6, li8, li9, li10, li12, li13, li16, li20, li24, li25, li100, li408, li424, li824, nI_add, nI_mul, nI_sub]; first | done | rfl | (congr 1; omega))) (by omega) ?_
        refine mx_iastore (j := 15) (m := 16) (q := j) dX7_tried_97 (by decide) (by first | rfl | (simp (disch := omega) only [li0, li1, li2, li3, li5, li6, li8, li9, li10, li12, li13, li16, li20, li24, li25, li100, li408, li424, li824, nI_add, nI_mul, nI_sub]; first | done | rfl | (congr 1; omega))) (by omega) ?_
        refine px_iinc4 rfl (nI_inc j) dX7_tried_98 ?_
        refine px_goto (tgt := 77) dX7_tried_101 (by decide) ?_
        exact e1
    · by_cases e : q = j
      · subst e
        rw [e6 q (by omega), va_up_self]
      · exact e5 q (by omega) h2
    · rw [e6 q (by omega), va_up_ne _ _ (by omega)]
theorem lt_185 {d t i : Nat} {v : Int32} {z4 : Option Value} {z5 : Option Value} {z6 : Option Value} {z7 : Option Value} {z8 : Option Value} {z9 : Option Value} {y10 : Int32} : ∀ (k j : Nat) (M : MS), j + k = 24 → ∃ M' : MS, (∀ rr h1, EX B D d mX7_tried 212 [some (.ref r), some (.int (nI (8 + t))), some (.int (nI i)), some (.int v), z4, z5, z6, z7, z8, z9, some (.int y10), some (.int (nI 24))] [] (n, w, mH r f M') rr h1 → EX B D d mX7_tried 185 [some (.ref r), some (.int (nI (8 + t))), some (.int (nI i)), some (.int v), z4, z5, z6, z7, z8, z9, some (.int y10), some (.int (nI j))] [] (n, w, mH r f M) rr h1) ∧ M'.1 = M.1 ∧ M'.2.2 = M.2.2 ∧ (∀ i, i ≠ 9 → M'.2.1 i = M.2.1 i)
  | 0, j, M, hj => by
    have : j = 24 := by omega
    subst this
    refine ⟨M, fun rr h1 hk => ?_, rfl, rfl, fun _ _ => rfl⟩
    refine px_iload dX7_tried_185 rfl ?_
    refine px_bipush (v := 24) dX7_tried_187 (by decide) ?_
    refine px_icmp_ge (tgt := 212) dX7_tried_189 (by decide) (fun hc189 => ?_) (fun hc189 => ?_)
    · exact hk
    · exact absurd (by decide) hc189
  | k + 1, j, M, hj => by
    obtain ⟨y, hy⟩ : ∃ y : Int32, narrow .boolean (.int (M.2.1 14 j)) = .int y := ⟨_, rfl⟩
    obtain ⟨M', e1, e2, e3, e4⟩ := lt_185 (d := d) (t := t) (i := i) (v := v) (z4 := z4) (z5 := z5) (z6 := z6) (z7 := z7) (z8 := z8) (z9 := z9) (y10 := y10) k (j + 1) (M.sa 9 j y) (by omega)
    refine ⟨M', fun rr h1 hk => ?_, e2, e3, fun i hi => (e4 i hi).trans (va_up_ne _ _ hi)⟩
    have e1 := e1 rr h1 hk
    refine px_iload dX7_tried_185 rfl ?_
    refine px_bipush (v := 24) dX7_tried_187 (by decide) ?_
    refine px_icmp_ge (tgt := 212) dX7_tried_189 (by decide) (fun hc189 => ?_) (fun hc189 => ?_)
    · exact absurd hc189 (nI_ge (a := j) (b := 24) (by omega) (by omega))
    · refine px_aload_n dX7_tried_192 rfl ?_
      refine mx_get fl_X7_60 dX7_tried_193 rfl ?_
      refine px_iload dX7_tried_196 rfl ?_
      refine px_aload_n dX7_tried_198 rfl ?_
      refine mx_get fl_X7_79 dX7_tried_199 rfl ?_
      refine px_iload dX7_tried_202 rfl ?_
      refine mx_baload (j := 14) (m := 24) (q := j) dX7_tried_204 (by decide) (by first | rfl | (simp (disch := omega) only [li0, li1, li2, li3, li5, li6, li8, li9, li10, li12, li13, li16, li20, li24, li25, li100, li408, li424, li824, nI_add, nI_mul, nI_sub]; first | done | rfl | (congr 1; omega))) (by omega) ?_
      refine mx_bastoreY (j := 9) (m := 24) (q := j) dX7_tried_205 (by decide) (by first | rfl | (simp (disch := omega) only [li0, li1, li2, li3, li5, li6, li8, li9, li10, li12, li13, li16, li20, li24, li25, li100, li408, li424, li824, nI_add, nI_mul, nI_sub]; first | done | rfl | (congr 1; omega))) (by omega) (fun y' hy' => ?_)
      rw [hy] at hy'
      cases hy'
      refine px_iinc11 rfl (nI_inc j) dX7_tried_206 ?_
      refine px_goto (tgt := 185) dX7_tried_209 (by decide) ?_
      exact e1
theorem lt_215 {d t i : Nat} {v : Int32} {z4 : Option Value} {z5 : Option Value} {z6 : Option Value} {z7 : Option Value} {z8 : Option Value} {z9 : Option Value} {y10 : Int32} : ∀ (k j : Nat) (M : MS), j + k = 16 → ∃ M' : MS, (∀ rr h1, EX B D d mX7_tried 242 [some (.ref r), some (.int (nI (8 + t))), some (.int (nI i)), some (.int v), z4, z5, z6, z7, z8, z9, some (.int y10), some (.int (nI 16))] [] (n, w, mH r f M') rr h1 → EX B D d mX7_tried 215 [some (.ref r), some (.int (nI (8 + t))), some (.int (nI i)), some (.int v), z4, z5, z6, z7, z8, z9, some (.int y10), some (.int (nI j))] [] (n, w, mH r f M) rr h1) ∧ M'.1 = M.1 ∧ M'.2.2 = M.2.2 ∧ (∀ i, i ≠ 11 → M'.2.1 i = M.2.1 i) ∧ (∀ q, j ≤ q → q < 16 → M'.2.1 11 q = M.2.1 15 q) ∧ ∀ q, q < j → M'.2.1 11 q = M.2.1 11 q
  | 0, j, M, hj => by
    have : j = 16 := by omega
    subst this
    refine ⟨M, fun rr h1 hk => ?_, rfl, rfl, fun _ _ => rfl, fun q h1 h2 => by omega, fun q _ => rfl⟩
    refine px_iload dX7_tried_215 rfl ?_
    refine px_bipush (v := 16) dX7_tried_217 (by decide) ?_
    refine px_icmp_ge (tgt := 242) dX7_tried_219 (by decide) (fun hc219 => ?_) (fun hc219 => ?_)
    · exact hk
    · exact absurd (by decide) hc219
  | k + 1, j, M, hj => by
    have ea : (M.sa 11 j (M.2.1 15 j)).2.1 15 = M.2.1 15 := rfl
    have eb : (M.sa 11 j (M.2.1 15 j)).2.1 11 = va_up (M.2.1 11) j (M.2.1 15 j) := rfl
    obtain ⟨M', e1, e2, e3, e4, e5, e6⟩ := lt_215 (d := d) (t := t) (i := i) (v := v) (z4 := z4) (z5 := z5) (z6 := z6) (z7 := z7) (z8 := z8) (z9 := z9) (y10 := y10) k (j + 1) (M.sa 11 j (M.2.1 15 j)) (by omega)
    rw [ea] at e5
    rw [eb] at e6
    refine ⟨M', fun rr h1 hk => ?_, e2, e3, fun i hi => (e4 i hi).trans (va_up_ne _ _ hi), fun q h1 h2 => ?_, fun q hq => ?_⟩
    · have e1 := e1 rr h1 hk
      refine px_iload dX7_tried_215 rfl ?_
      refine px_bipush (v := 16) dX7_tried_217 (by decide) ?_
      refine px_icmp_ge (tgt := 242) dX7_tried_219 (by decide) (fun hc219 => ?_) (fun hc219 => ?_)
      · exact absurd hc219 (nI_ge (a := j) (b := 16) (by omega) (by omega))
      · refine px_aload_n dX7_tried_222 rfl ?_
        refine mx_get fl_X7_67 dX7_tried_223 rfl ?_
        refine px_iload dX7_tried_226 rfl ?_
        refine px_aload_n dX7_tried_228 rfl ?_
        refine mx_get fl_X7_82 dX7_tried_229 rfl ?_
        refine px_iload dX7_tried_232 rfl ?_
        refine mx_iaload (j := 15) (m := 16) (q := j) dX7_tried_234 (by decide) (by first | rfl | (simp (disch := omega) only [li0, li1, li2, li3, li5, li6, li8, li9, li10, li12, li13, li16, li20, li24, li25, li100, li408, li424, li824, nI_add, nI_mul, nI_sub]; first | done | rfl | (congr 1; omega))) (by omega) ?_
        refine mx_iastore (j := 11) (m := 16) (q := j) dX7_tried_235 (by decide) (by first | rfl | (simp (disch := omega) only [li0, li1, li2, li3, li5, li6, li8, li9, li10, li12, li13, li16, li20, li24, li25, li100, li408, li424, li824, nI_add, nI_mul, nI_sub]; first | done | rfl | (congr 1; omega))) (by omega) ?_
        refine px_iinc11 rfl (nI_inc j) dX7_tried_236 ?_
        refine px_goto (tgt := 215) dX7_tried_239 (by decide) ?_
        exact e1
    · by_cases e : q = j
      · subst e
        rw [e6 q (by omega), va_up_self]
      · exact e5 q (by omega) h2
    · rw [e6 q (by omega), va_up_ne _ _ (by omega)]
theorem m_tried (h : RP bk M C) (hcap : ne bk + 16 ≤ 8900) (k i v : Int32) : RQ B D n w r f 50 mX7_tried [.int k, .int i, .int v] bk M (.int (v_tried C k i v)) C := by
  by_cases hki : s_isTarget k = true ∧ s_isInput i = true
  · obtain ⟨hk, hi⟩ := hki
    obtain ⟨t, ht, rfl⟩ := inT.mp hk
    obtain ⟨i, hi8, rfl⟩ := inI.mp hi
    have hc : s_isInL v.toInt64 (-1000000) 1000000 = s_isContent v.toInt64 := rfl
    by_cases hv : s_isContent v.toInt64 = true
    · have h0 : v_tried C (nI (8 + t)) (nI i) v = (aAll (s_bitOf (nI (8 + t))) false (C.1.1.A.give i (some v), C.1.1.2)).1.st - C.1.1.st := by unfold v_tried; rw [if_pos ⟨hk, hi⟩, if_pos hv, nI_clamp (by omega)]
      rw [h0]
      rw [hv] at hc
      obtain ⟨h1, h2, h3, ⟨⟨q1, q2, q3, q4, q5, q6⟩, h5, h6⟩, h7, h8⟩ := h
      obtain ⟨g7, p1, p2⟩ := c_X7_pours_57 (B := B) (D := D) (n := n) (w := w) (r := r) (f := f) (M := M)
      obtain ⟨Ma, a1, a2, a3, a4⟩ := lt_47 (B := B) (D := D) (n := n) (w := w) (r := r) (f := f) (d := 50) (t := t) (i := i) (v := v) 24 0 (M.seta 7 g7) (by omega)
      obtain ⟨Mb, b1, b2, b3, b4, b5, -⟩ := lt_77 (B := B) (D := D) (n := n) (w := w) (r := r) (f := f) (d := 50) (t := t) (i := i) (v := v) 16 0 Ma (by omega)
      have es : Mb.1 = M.1 := b2.trans a2
      have el : Mb.2.2 = M.2.2 := b3.trans a3
      have ea : ∀ j, j ≠ 7 → j ≠ 14 → j ≠ 15 → Mb.2.1 j = M.2.1 j := fun j x y z => ((b4 j z).trans (a4 j y)).trans (va_up_ne _ _ x)
      have ea7 : Mb.2.1 7 = g7 := by
        rw [b4 7 (by omega), a4 7 (by omega)]
        show va_up M.2.1 7 g7 7 = g7
        rw [va_up_self]
      have ea15 : ∀ q, q < 16 → Mb.2.1 15 q = M.2.1 11 q := fun q hq => by
        rw [b5 q (Nat.zero_le _) hq, a4 11 (by omega)]
        show va_up M.2.1 7 g7 11 q = _
        rw [va_up_ne _ _ (by omega)]
      have hg5 : NW bk noX ((Mb.sa 5 i ((v + 1000000) * 2)).2.1 5) (C.1.1.A.give i (some v)) := by
        rw [sa5, ea 5 (by omega) (by omega) (by omega)]
        refine ⟨fun j hj => ?_, h2.1.2.1.ag (fun q _ _ => va_up_ne _ _ (by omega)), h2.1.2.2.1.ag List.prefix_rfl (fun q _ _ => va_up_ne _ _ (by omega)), h2.1.2.2.2.ag List.prefix_rfl (fun q _ _ => va_up_ne _ _ (by omega))⟩
        show match va_up C.1.1.A.inn i (some v) j with | none => _ | some c => _
        by_cases e : j = i
        · subst e
          rw [va_up_self, va_up_self]
          exact ⟨hv, rfl⟩
        · rw [va_up_ne _ _ e, va_up_ne _ _ e]
          exact h2.1.1 j hj
      have hbit : (1 : Int32) <<< ((nI (8 + t) - 8) &&& 31) = s_bitOf (nI (8 + t)) := by unfold s_bitOf; rw [if_pos hk]
      obtain ⟨M5, bk5, c1, c2, c3, c4, c5, c6, c7, c8, c9, c10⟩ := c_X7_built (B := B) (D := D) (n := n) (w := w) (r := r) (f := f) (M := Mb.sa 5 i ((v + 1000000) * 2)) (S := (C.1.1.A.give i (some v), C.1.1.2)) (set := s_bitOf (nI (8 + t))) (stop := false) (h1.of (by show Mb.1 4 = _; rw [es]) (fun j x y => (va_up_ne _ _ (by omega)).trans (ea j (by omega) (by omega) (by omega)))) hg5 h2.2 ⟨by show Mb.1 16 = _; rw [es]; exact q3, by show Mb.1 17 = _; rw [es]; exact q4, by show Mb.1 18 = _; rw [es]; exact q5, by show Mb.1 19 = _; rw [es]; exact q6⟩ hcap
      have h516 : M5.1 16 = (aAll (s_bitOf (nI (8 + t))) false (C.1.1.A.give i (some v), C.1.1.2)).1.st := c5.2.2.1
      obtain ⟨g5, p3, p4⟩ := c_X7_pours_75 (B := B) (D := D) (n := n) (w := w) (r := r) (f := f) (M := M5)
      obtain ⟨Mc, d1, d2, d3, d4⟩ := lt_185 (B := B) (D := D) (n := n) (w := w) (r := r) (f := f) (d := 50) (t := t) (i := i) (v := v) (z4 := some (.int (Mb.1 14))) (z5 := some (.int (Mb.1 15))) (z6 := some (.int (Mb.1 16))) (z7 := some (.int (Mb.1 17))) (z8 := some (.int (Mb.1 18))) (z9 := some (.int (Mb.1 19))) (y10 := M5.1 16 - Mb.1 16) 24 0 (M5.seta 5 g5) (by omega)
      obtain ⟨Md, e1, e2, e3, e4, e5, -⟩ := lt_215 (B := B) (D := D) (n := n) (w := w) (r := r) (f := f) (d := 50) (t := t) (i := i) (v := v) (z4 := some (.int (Mb.1 14))) (z5 := some (.int (Mb.1 15))) (z6 := some (.int (Mb.1 16))) (z7 := some (.int (Mb.1 17))) (z8 := some (.int (Mb.1 18))) (z9 := some (.int (Mb.1 19))) (y10 := M5.1 16 - Mb.1 16) 16 0 Mc (by omega)
      have fs : Md.1 = M5.1 := e2.trans d2
      have fl : Md.2.2 = M.2.2 := ((e3.trans d3).trans c9.2.2).trans el
      have fa : ∀ j, j ≠ 5 → j ≠ 9 → j ≠ 11 → Md.2.1 j = M5.2.1 j := fun j x y z => ((e4 j z).trans (d4 j y)).trans (va_up_ne _ _ x)
      have fa5 : ∀ q, q < 824 → Md.2.1 5 q = M.2.1 5 q := fun q hq => by
        rw [e4 5 (by omega), d4 5 (by omega)]
        show va_up M5.2.1 5 g5 5 q = _
        rw [va_up_self, p4 q hq, c9.2.1 7 (by omega), sa_ne (by omega), ea7]
        exact p2 q hq
      have fa11 : ∀ q, q < 16 → Md.2.1 11 q = M.2.1 11 q := fun q hq => by
        rw [e5 q (Nat.zero_le _) hq, d4 15 (by omega)]
        show va_up M5.2.1 5 g5 15 q = _
        rw [va_up_ne _ _ (by omega), c9.2.1 15 (by omega), sa_ne (by omega)]
        exact ea15 q hq
      have fk : ∀ j, (6 ≤ j ∧ j ≤ 6) ∨ j = 8 ∨ j = 17 → Md.2.1 j = M.2.1 j := fun j hj => by
        rw [fa j (by omega) (by omega) (by omega), c9.2.1 j (by omega), sa_ne (by omega)]
        exact ea j (by omega) (by omega) (by omega)
      refine ⟨(((((Md.sets 14 (Mb.1 14)).sets 15 (Mb.1 15)).sets 16 (Mb.1 16)).sets 17 (Mb.1 17)).sets 18 (Mb.1 18)).sets 19 (Mb.1 19), bk5, ?_, ⟨c2.of (by show Md.1 4 = _; rw [fs]) (fun j x y => fa j (by omega) (by omega) (by omega)), ⟨h2.1.ag c8 fa5, h2.2⟩, ⟨?_, fun e => ?_⟩, ⟨⟨?_, fun j x hx => ?_, ?_, ?_, ?_, ?_⟩, h5, ?_⟩, ⟨?_, h7.2.1, ?_⟩, ?_⟩, c10⟩
      · refine CT.of [some (.ref r), some (.int (nI (8 + t))), some (.int (nI i)), some (.int v), none, none, none, none, none, none, none, none] rfl (Nat.le_of_ble_eq_true rfl) pl_X7 trivial ?_
        refine px_iload_n dX7_tried_0 rfl ?_
        refine px_callS1 (ν := mX7_isTarget) lk_X7_101 st_X7_isTarget mok_X7_isTarget dX7_tried_1 (cr_isTarget _) rfl rfl (by omega) (by simp) ?_
        refine px_ifb_eq (tgt := 14) dX7_tried_4 (by decide) (fun hc4 => ?_) (fun hc4 => ?_)
        · rw [hk] at hc4; cases hc4
        · refine px_iload_n dX7_tried_7 rfl ?_
          refine px_callS1 (ν := mX7_isInput) lk_X7_108 st_X7_isInput mok_X7_isInput dX7_tried_8 (cr_isInput _) rfl rfl (by omega) (by simp) ?_
          refine px_ifb_ne (tgt := 16) dX7_tried_11 (by decide) (fun hc11 => ?_) (fun hc11 => ?_)
          · refine px_iload_n dX7_tried_16 rfl ?_
            refine px_i2l dX7_tried_17 ?_
            refine px_ldc2 dX7_tried_18 kc_X7_111 ?_
            refine px_ldc2 dX7_tried_21 kc_X7_113 ?_
            refine px_callS1 (ν := mX7_isIn) lk_X7_7 st_X7_isIn mok_X7_isIn dX7_tried_24 (c_X7_isIn _ _ _) rfl rfl (by omega) (by simp) ?_
            refine px_ifb_ne (tgt := 33) dX7_tried_27 (by decide) (fun hc27 => ?_) (fun hc27 => ?_)
            · refine px_aload_n dX7_tried_33 rfl ?_
              refine mx_get fl_X7_48 dX7_tried_34 rfl ?_
              refine px_aload_n dX7_tried_37 rfl ?_
              refine mx_get fl_X7_54 dX7_tried_38 rfl ?_
              refine px_callS0 (ν := mX7_pours) lk_X7_204 st_X7_pours mok_X7_pours dX7_tried_41 (p1) rfl rfl (by omega) (by simp) ?_
              refine px_iconst (v := 0) dX7_tried_44 (by decide) ?_
              refine px_istore4 rfl dX7_tried_45 ?_
              refine a1 _ _ ?_
              refine px_iconst (v := 0) dX7_tried_74 (by decide) ?_
              refine px_istore4 rfl dX7_tried_75 ?_
              refine b1 _ _ ?_
              refine px_aload_n dX7_tried_104 rfl ?_
              refine mx_get fl_X7_144 dX7_tried_105 rfl ?_
              refine px_istore4 rfl dX7_tried_108 ?_
              refine px_aload_n dX7_tried_110 rfl ?_
              refine mx_get fl_X7_70 dX7_tried_111 rfl ?_
              refine px_istore5 rfl dX7_tried_114 ?_
              refine px_aload_n dX7_tried_116 rfl ?_
              refine mx_get fl_X7_178 dX7_tried_117 rfl ?_
              refine px_istore6 rfl dX7_tried_120 ?_
              refine px_aload_n dX7_tried_122 rfl ?_
              refine mx_get fl_X7_184 dX7_tried_123 rfl ?_
              refine px_istore7 rfl dX7_tried_126 ?_
              refine px_aload_n dX7_tried_128 rfl ?_
              refine mx_get fl_X7_153 dX7_tried_129 rfl ?_
              refine px_istore8 rfl dX7_tried_132 ?_
              refine px_aload_n dX7_tried_134 rfl ?_
              refine mx_get fl_X7_162 dX7_tried_135 rfl ?_
              refine px_istore9 rfl dX7_tried_138 ?_
              refine px_aload_n dX7_tried_140 rfl ?_
              refine mx_get fl_X7_48 dX7_tried_141 rfl ?_
              refine px_iload_n dX7_tried_144 rfl ?_
              refine px_iload_n dX7_tried_145 rfl ?_
              refine px_callS1 (ν := mX7_numberResult) lk_X7_115 st_X7_numberResult mok_X7_numberResult dX7_tried_146 (c_X7_numberResult _) rfl rfl (by omega) (by simp) ?_
              refine mx_iastore (j := 5) (m := 824) (q := i) dX7_tried_149 (by decide) (by first | rfl | (simp (disch := omega) only [li0, li1, li2, li3, li5, li6, li8, li9, li10, li12, li13, li16, li20, li24, li25, li100, li408, li424, li824, nI_add, nI_mul, nI_sub]; first | done | rfl | (congr 1; omega))) (by omega) ?_
              refine px_aload_n dX7_tried_150 rfl ?_
              refine px_iconst (v := 1) dX7_tried_151 (by decide) ?_
              refine px_iload_n dX7_tried_152 rfl ?_
              refine px_bipush (v := 8) dX7_tried_153 (by decide) ?_
              refine px_isub dX7_tried_155 ?_
              refine px_ishl dX7_tried_156 ?_
              rw [hbit]
              refine px_iconst (v := 0) dX7_tried_157 (by decide) ?_
              refine px_callV1 (ν := mX7_built) (ci := 7) rfl rfl lk_X7_197 in_X7_built se_X7_built mok_X7_built dX7_tried_158 (c1) (by exact mH_0) rfl rfl (by omega) (by simp) ?_
              refine px_pop dX7_tried_161 rfl ?_
              refine px_aload_n dX7_tried_162 rfl ?_
              refine mx_get fl_X7_178 dX7_tried_163 rfl ?_
              refine px_iload dX7_tried_166 rfl ?_
              refine px_isub dX7_tried_168 ?_
              refine px_istore10 rfl dX7_tried_169 ?_
              refine px_aload_n dX7_tried_171 rfl ?_
              refine mx_get fl_X7_54 dX7_tried_172 rfl ?_
              refine px_aload_n dX7_tried_175 rfl ?_
              refine mx_get fl_X7_48 dX7_tried_176 rfl ?_
              refine px_callS0 (ν := mX7_pours) lk_X7_204 st_X7_pours mok_X7_pours dX7_tried_179 (p3) rfl rfl (by omega) (by simp) ?_
              refine px_iconst (v := 0) dX7_tried_182 (by decide) ?_
              refine px_istore11 rfl dX7_tried_183 ?_
              refine d1 _ _ ?_
              refine px_iconst (v := 0) dX7_tried_212 (by decide) ?_
              refine px_istore11 rfl dX7_tried_213 ?_
              refine e1 _ _ ?_
              refine px_aload_n dX7_tried_242 rfl ?_
              refine px_iload dX7_tried_243 rfl ?_
              refine mx_put fp_X7_144 dX7_tried_245 rfl rfl (by decide) rfl ?_
              refine px_aload_n dX7_tried_248 rfl ?_
              refine px_iload dX7_tried_249 rfl ?_
              refine mx_put fp_X7_70 dX7_tried_251 rfl rfl (by decide) rfl ?_
              refine px_aload_n dX7_tried_254 rfl ?_
              refine px_iload dX7_tried_255 rfl ?_
              refine mx_put fp_X7_178 dX7_tried_257 rfl rfl (by decide) rfl ?_
              refine px_aload_n dX7_tried_260 rfl ?_
              refine px_iload dX7_tried_261 rfl ?_
              refine mx_put fp_X7_184 dX7_tried_263 rfl rfl (by decide) rfl ?_
              refine px_aload_n dX7_tried_266 rfl ?_
              refine px_iload dX7_tried_267 rfl ?_
              refine mx_put fp_X7_153 dX7_tried_269 rfl rfl (by decide) rfl ?_
              refine px_aload_n dX7_tried_272 rfl ?_
              refine px_iload dX7_tried_273 rfl ?_
              refine mx_put fp_X7_162 dX7_tried_275 rfl rfl (by decide) rfl ?_
              refine px_iload dX7_tried_278 rfl ?_
              exact px_reti dX7_tried_280 (by rw [h516, es, q3]) (by rfl)
            · rw [hc] at hc27; cases hc27
          · rw [hi] at hc11; cases hc11
      · show Md.1 8 = _
        rw [fs, c9.1 8 (by omega)]
        show Mb.1 8 = _
        rw [es]; exact h3.1
      · show NW bk5 noX (Md.2.1 6) C.2.1.2 ∧ _
        rw [fk 6 (by omega)]
        exact ⟨(h3.2 e).1.ag c8 (fun _ _ => rfl), (h3.2 e).2⟩
      · show Mb.1 14 = _; rw [es]; exact q1
      · show Md.2.1 11 j = _
        have := (List.getElem?_eq_some_iff.mp hx).1
        rw [fa11 j (by omega)]; exact q2 j x hx
      · show Mb.1 16 = _; rw [es]; exact q3
      · show Mb.1 17 = _; rw [es]; exact q4
      · show Mb.1 18 = _; rw [es]; exact q5
      · show Mb.1 19 = _; rw [es]; exact q6
      · show Mb.1 15 = _; rw [es]; exact h6
      · show Md.1 10 = _
        rw [fs, c9.1 10 (by omega)]
        show Mb.1 10 = _
        rw [es]; exact h7.1
      · show ∀ j, j < C.2.2.1.1 → Md.2.1 8 j = _
        rw [fk 8 (by omega)]; exact h7.2.2
      · show RLs Md C.2.2.2
        intro j hj
        show Md.2.1 17 j = _ ∧ _ ∧ ∀ q, q < 20 → Md.2.2 18 (20 * j + q) = _
        rw [fk 17 (by omega), fl]; exact h8 j hj
    · have h0 : v_tried C (nI (8 + t)) (nI i) v = -2 := by unfold v_tried; rw [if_pos ⟨hk, hi⟩, if_neg hv]
      rw [h0]
      have hv' : s_isContent v.toInt64 = false := by simpa using hv
      rw [hv'] at hc
      refine RQ.same h ?_
      refine CT.of [some (.ref r), some (.int (nI (8 + t))), some (.int (nI i)), some (.int v), none, none, none, none, none, none, none, none] rfl (Nat.le_of_ble_eq_true rfl) pl_X7 trivial ?_
      refine px_iload_n dX7_tried_0 rfl ?_
      refine px_callS1 (ν := mX7_isTarget) lk_X7_101 st_X7_isTarget mok_X7_isTarget dX7_tried_1 (cr_isTarget _) rfl rfl (by omega) (by simp) ?_
      refine px_ifb_eq (tgt := 14) dX7_tried_4 (by decide) (fun hc4 => ?_) (fun hc4 => ?_)
      · rw [hk] at hc4; cases hc4
      · refine px_iload_n dX7_tried_7 rfl ?_
        refine px_callS1 (ν := mX7_isInput) lk_X7_108 st_X7_isInput mok_X7_isInput dX7_tried_8 (cr_isInput _) rfl rfl (by omega) (by simp) ?_
        refine px_ifb_ne (tgt := 16) dX7_tried_11 (by decide) (fun hc11 => ?_) (fun hc11 => ?_)
        · refine px_iload_n dX7_tried_16 rfl ?_
          refine px_i2l dX7_tried_17 ?_
          refine px_ldc2 dX7_tried_18 kc_X7_111 ?_
          refine px_ldc2 dX7_tried_21 kc_X7_113 ?_
          refine px_callS1 (ν := mX7_isIn) lk_X7_7 st_X7_isIn mok_X7_isIn dX7_tried_24 (c_X7_isIn _ _ _) rfl rfl (by omega) (by simp) ?_
          refine px_ifb_ne (tgt := 33) dX7_tried_27 (by decide) (fun hc27 => ?_) (fun hc27 => ?_)
          · rw [hc] at hc27; cases hc27
          · refine px_bipush (v := (-2)) dX7_tried_30 (by decide) ?_
            exact px_reti dX7_tried_32 (by rfl) (by rfl)
        · rw [hi] at hc11; cases hc11
  · have h0 : v_tried C k i v = -1 := by unfold v_tried; rw [if_neg hki]
    rw [h0]
    refine RQ.same h ?_
    refine CT.of [some (.ref r), some (.int k), some (.int i), some (.int v), none, none, none, none, none, none, none, none] rfl (Nat.le_of_ble_eq_true rfl) pl_X7 trivial ?_
    refine px_iload_n dX7_tried_0 rfl ?_
    refine px_callS1 (ν := mX7_isTarget) lk_X7_101 st_X7_isTarget mok_X7_isTarget dX7_tried_1 (cr_isTarget _) rfl rfl (by omega) (by simp) ?_
    refine px_ifb_eq (tgt := 14) dX7_tried_4 (by decide) (fun hc4 => ?_) (fun hc4 => ?_)
    · refine px_iconst (v := (-1)) dX7_tried_14 (by decide) ?_
      exact px_reti dX7_tried_15 (by rfl) (by rfl)
    · refine px_iload_n dX7_tried_7 rfl ?_
      refine px_callS1 (ν := mX7_isInput) lk_X7_108 st_X7_isInput mok_X7_isInput dX7_tried_8 (cr_isInput _) rfl rfl (by omega) (by simp) ?_
      refine px_ifb_ne (tgt := 16) dX7_tried_11 (by decide) (fun hc11 => ?_) (fun hc11 => ?_)
      · exact absurd ⟨hc4, hc11⟩ hki
      · refine px_iconst (v := (-1)) dX7_tried_14 (by decide) ?_
        exact px_reti dX7_tried_15 (by rfl) (by rfl)
end M66
