/-! the reference: rule, the call -/
section M75
variable {B : Nat} {D : va_G} {n w r : Nat} {f : Nat → Option va_E} {bk : BK} {M : MS} {C : CS} {T : Nat × (Nat → Int32)}
theorem l_X7_rule_58 {d t m : Nat} (ht : t < 16) (hm : m ≤ 12) {lt : Nat → Int32} : ∀ (q j : Nat) (M : MS), j + q = m → (∀ i, i < 3 * m → M.2.1 8 i = lt i) → ∃ g : Nat → Int32, (∀ rr h1, EX B D d mX7_rule 139 [some (.ref r), some (.int (nI (8 + t))), some (.int (-1)), some (.int (nI m)), some (.int (nI (8 + 25 * t))), some (.int (nI m))] [] (n, w, mH r f (M.seta 5 g)) rr h1 → EX B D d mX7_rule 58 [some (.ref r), some (.int (nI (8 + t))), some (.int (-1)), some (.int (nI m)), some (.int (nI (8 + 25 * t))), some (.int (nI j))] [] (n, w, mH r f M) rr h1) ∧ (∀ i, j ≤ i → i < m → g (8 + 25 * t + (1 + 2 * i)) = lt (3 * i) ∧ g (8 + 25 * t + (2 + 2 * i)) = 10 * (lt (3 * i + 1) - 48) + lt (3 * i + 2) - 48) ∧ ∀ p, p < 8 + 25 * t + (1 + 2 * j) ∨ 8 + 25 * t + 25 ≤ p → g p = M.2.1 5 p
  | 0, j, M, hj, h8 => by
    have : j = m := by omega
    subst this
    refine ⟨M.2.1 5, fun rr h1 hk => ?_, fun i h1 h2 => by omega, fun p _ => rfl⟩
    have e : M.seta 5 (M.2.1 5) = M := by unfold MS.seta; rw [up_id]
    rw [e] at hk
    refine px_iload dX7_rule_58 rfl ?_
    refine px_iload_n dX7_rule_60 rfl ?_
    refine px_icmp_ge (tgt := 139) dX7_rule_61 (by decide) (fun hc61 => ?_) (fun hc61 => ?_)
    · exact hk
    · exact absurd (Int32.le_refl _) hc61
  | q + 1, j, M, hj, h8 => by
    have t0 := h8 (3 * j) (by omega)
    have t1 := h8 (3 * j + 1) (by omega)
    have t2 := h8 (3 * j + 2) (by omega)
    obtain ⟨g, e1, e2, e3⟩ := l_X7_rule_58 (d := d) (m := m) (lt := lt) ht hm q (j + 1) ((M.sa 5 (8 + 25 * t + (1 + 2 * j)) (lt (3 * j))).sa 5 (8 + 25 * t + (2 + 2 * j)) (10 * (lt (3 * j + 1) - 48) + lt (3 * j + 2) - 48)) (by omega) (fun i hi => by rw [sa_ne (by omega), sa_ne (by omega)]; exact h8 i hi)
    have es : ((M.sa 5 (8 + 25 * t + (1 + 2 * j)) (lt (3 * j))).sa 5 (8 + 25 * t + (2 + 2 * j)) (10 * (lt (3 * j + 1) - 48) + lt (3 * j + 2) - 48)).seta 5 g = M.seta 5 g := by unfold MS.sa MS.seta; simp only [bx_uu]
    rw [sa5, sa5] at e3
    rw [es] at e1
    refine ⟨g, fun rr h1 hk => ?_, fun i h1 h2 => ?_, fun p hp => ?_⟩
    · have e1 := e1 rr h1 hk
      refine px_iload dX7_rule_58 rfl ?_
      refine px_iload_n dX7_rule_60 rfl ?_
      refine px_icmp_ge (tgt := 139) dX7_rule_61 (by decide) (fun hc61 => ?_) (fun hc61 => ?_)
      · exact absurd hc61 (nI_ge (a := j) (b := m) (by omega) (by omega))
      · refine px_aload_n dX7_rule_64 rfl ?_
        refine mx_get fl_X7_48 dX7_rule_65 rfl ?_
        refine px_iload dX7_rule_68 rfl ?_
        refine px_iconst (v := 1) dX7_rule_70 (by decide) ?_
        refine px_iadd dX7_rule_71 ?_
        refine px_iconst (v := 2) dX7_rule_72 (by decide) ?_
        refine px_iload dX7_rule_73 rfl ?_
        refine px_imul dX7_rule_75 ?_
        refine px_iadd dX7_rule_76 ?_
        refine px_aload_n dX7_rule_77 rfl ?_
        refine mx_get fl_X7_57 dX7_rule_78 rfl ?_
        refine px_iconst (v := 3) dX7_rule_81 (by decide) ?_
        refine px_iload dX7_rule_82 rfl ?_
        refine px_imul dX7_rule_84 ?_
        refine mx_iaload (j := 8) (m := 50) (q := 3 * j) dX7_rule_85 (by decide) (by first | rfl | (simp (disch := omega) only [li0, li1, li2, li3, li5, li6, li8, li9, li10, li12, li13, li16, li20, li24, li25, li100, li408, li424, li824, nI_add, nI_mul, nI_sub]; first | done | rfl | (congr 1; omega))) (by omega) ?_
        rw [t0]
        refine mx_iastore (j := 5) (m := 824) (q := 8 + 25 * t + (1 + 2 * j)) dX7_rule_86 (by decide) (by first | rfl | (simp (disch := omega) only [li0, li1, li2, li3, li5, li6, li8, li9, li10, li12, li13, li16, li20, li24, li25, li100, li408, li424, li824, nI_add, nI_mul, nI_sub]; first | done | rfl | (congr 1; omega))) (by omega) ?_
        refine px_aload_n dX7_rule_87 rfl ?_
        refine mx_get fl_X7_48 dX7_rule_88 rfl ?_
        refine px_iload dX7_rule_91 rfl ?_
        refine px_iconst (v := 2) dX7_rule_93 (by decide) ?_
        refine px_iadd dX7_rule_94 ?_
        refine px_iconst (v := 2) dX7_rule_95 (by decide) ?_
        refine px_iload dX7_rule_96 rfl ?_
        refine px_imul dX7_rule_98 ?_
        refine px_iadd dX7_rule_99 ?_
        refine px_bipush (v := 10) dX7_rule_100 (by decide) ?_
        refine px_aload_n dX7_rule_102 rfl ?_
        refine mx_get fl_X7_57 dX7_rule_103 rfl ?_
        refine px_iconst (v := 3) dX7_rule_106 (by decide) ?_
        refine px_iload dX7_rule_107 rfl ?_
        refine px_imul dX7_rule_109 ?_
        refine px_iconst (v := 1) dX7_rule_110 (by decide) ?_
        refine px_iadd dX7_rule_111 ?_
        refine mx_iaload (j := 8) (m := 50) (q := 3 * j + 1) dX7_rule_112 (by decide) (by first | rfl | (simp (disch := omega) only [li0, li1, li2, li3, li5, li6, li8, li9, li10, li12, li13, li16, li20, li24, li25, li100, li408, li424, li824, nI_add, nI_mul, nI_sub]; first | done | rfl | (congr 1; omega))) (by omega) ?_
        rw [sa_ne (by omega), t1]
        refine px_bipush (v := 48) dX7_rule_113 (by decide) ?_
        refine px_isub dX7_rule_115 ?_
        refine px_imul dX7_rule_116 ?_
        refine px_aload_n dX7_rule_117 rfl ?_
        refine mx_get fl_X7_57 dX7_rule_118 rfl ?_
        refine px_iconst (v := 3) dX7_rule_121 (by decide) ?_
        refine px_iload dX7_rule_122 rfl ?_
        refine px_imul dX7_rule_124 ?_
        refine px_iconst (v := 2) dX7_rule_125 (by decide) ?_
        refine px_iadd dX7_rule_126 ?_
        refine mx_iaload (j := 8) (m := 50) (q := 3 * j + 2) dX7_rule_127 (by decide) (by first | rfl | (simp (disch := omega) only [li0, li1, li2, li3, li5, li6, li8, li9, li10, li12, li13, li16, li20, li24, li25, li100, li408, li424, li824, nI_add, nI_mul, nI_sub]; first | done | rfl | (congr 1; omega))) (by omega) ?_
        rw [sa_ne (by omega), t2]
        refine px_iadd dX7_rule_128 ?_
        refine px_bipush (v := 48) dX7_rule_129 (by decide) ?_
        refine px_isub dX7_rule_131 ?_
        refine mx_iastore (j := 5) (m := 824) (q := 8 + 25 * t + (2 + 2 * j)) dX7_rule_132 (by decide) (by first | rfl | (simp (disch := omega) only [li0, li1, li2, li3, li5, li6, li8, li9, li10, li12, li13, li16, li20, li24, li25, li100, li408, li424, li824, nI_add, nI_mul, nI_sub]; first | done | rfl | (congr 1; omega))) (by omega) ?_
        refine px_iinc5 rfl (nI_inc j) dX7_rule_133 ?_
        refine px_goto (tgt := 58) dX7_rule_136 (by decide) ?_
        exact e1
    · by_cases e : i = j
      · subst e
        refine ⟨?_, ?_⟩
        · rw [e3 _ (by omega), va_up_ne _ _ (by omega), va_up_self]
        · rw [e3 _ (by omega), va_up_self]
      · exact e2 i (by omega) h2
    · rw [e3 p (by omega), va_up_ne _ _ (by omega), va_up_ne _ _ (by omega)]
theorem m_rule (h : RP bk M C) (k : Int32) : RQ B D n w r f 50 mX7_rule [.int k] bk M (.int (v_rule C k).1) (v_rule C k).2 := by
  by_cases hk : s_isTarget k = true
  · obtain ⟨t, ht, rfl⟩ := inT.mp hk
    have hT := h.2.2.2.2.1
    have hf := c_X7_fault (B := B) (D := D) (n := n) (w := w) (r := r) (f := f) hT
    have h10 := hT.1
    have hL := hT.2.1
    have hdiv : M.1 10 / 3 = nI (C.2.2.1.1 / 3) := by rw [h10]; exact nI_div3 (by omega)
    by_cases hF : tpF C.2.2.1 = -1
    · have h0 : v_rule C (nI (8 + t)) = (nI (C.2.2.1.1 / 3), (((C.1.1.A.put (8 + t) (ruleOf C.2.2.1.1 C.2.2.1.2 (C.2.2.1.1 / 3)) (C.1.1.A.rs (8 + t)) none, C.1.1.2), C.1.2), (C.2.1, ((0, C.2.2.1.2), C.2.2.2)))) := by unfold v_rule; rw [if_pos hk, if_pos hF, nI_clamp (by omega)]
      rw [h0]
      rw [hF] at hf
      obtain ⟨m, m1, m2, m3, m4⟩ := tp_rule hL hF
      have hm3 : C.2.2.1.1 / 3 = m := by omega
      rw [hm3] at hdiv ⊢
      obtain ⟨g, e1, e2, e3⟩ := l_X7_rule_58 (B := B) (D := D) (n := n) (w := w) (r := r) (f := f) (d := 50) (m := m) (lt := C.2.2.1.2) ht m1 m 0 ((M.sets 10 0).sa 5 (8 + 25 * t) (nI m)) (by omega) (fun i hi => by rw [sa_ne (by omega)]; exact hT.2.2 i (by omega))
      have e3 : ∀ p, p < 8 + 25 * t + (1 + 2 * 0) ∨ 8 + 25 * t + 25 ≤ p → g p = va_up (M.2.1 5) (8 + 25 * t) (nI m) p := fun p hp => by rw [e3 p hp, sa5]; rfl
      have eM : (((M.sets 10 0).sa 5 (8 + 25 * t) (nI m)).seta 5 g).sa 5 (424 + 25 * t) (-1) = (M.sets 10 0).seta 5 (va_up g (424 + 25 * t) (-1)) := by
        rw [seta_sa]
        unfold MS.sa MS.seta
        simp only [bx_uu]
      have hrule : ∀ (i : Nat) (x : Int32 × Nat), (ruleOf C.2.2.1.1 C.2.2.1.2 m)[i]? = some x → i < m ∧ x.1 = C.2.2.1.2 (3 * i) ∧ x.2 < 100 ∧ nI x.2 = 10 * (C.2.2.1.2 (3 * i + 1) - 48) + C.2.2.1.2 (3 * i + 2) - 48 ∧ (s_asks x.1 = true → x.2 < 24) := fun i x hx => by
        unfold ruleOf at hx
        rw [List.getElem?_map] at hx
        obtain ⟨y, hy, exy⟩ := Option.map_eq_some_iff.mp hx
        have hi : i < m := by have := (List.getElem?_eq_some_iff.mp hy).1; simpa using this
        rw [List.getElem?_range hi] at hy
        cases hy
        obtain ⟨q1, v, q2, q3, q4⟩ := m4 i hi
        subst exy
        have hnum : tp_num C.2.2.1.1 C.2.2.1.2 (3 * i + 1) = 10 * (C.2.2.1.2 (3 * i + 1) - 48) + C.2.2.1.2 (3 * i + 2) - 48 := by
          unfold tp_num tp_la
          rw [if_pos (by omega), if_pos (by omega)]
        have e4 : (tp_num C.2.2.1.1 C.2.2.1.2 (3 * i + 1)).toNatClampNeg = v := by rw [q3, nI_clamp (by omega)]
        refine ⟨hi, rfl, ?_, ?_, ?_⟩
        · show (tp_num C.2.2.1.1 C.2.2.1.2 (3 * i + 1)).toNatClampNeg < 100
          rw [e4]; exact q2
        · show nI (tp_num C.2.2.1.1 C.2.2.1.2 (3 * i + 1)).toNatClampNeg = _
          rw [e4, ← q3, hnum]
        · intro hs
          show (tp_num C.2.2.1.1 C.2.2.1.2 (3 * i + 1)).toNatClampNeg < 24
          rw [e4]; exact q4 hs
      have hlen : (ruleOf C.2.2.1.1 C.2.2.1.2 m).length = m := by unfold ruleOf; rw [List.length_map, List.length_range]
      have hN : NW bk noX (va_up g (424 + 25 * t) (-1)) (C.1.1.A.put (8 + t) (ruleOf C.2.2.1.1 C.2.2.1.2 m) (C.1.1.A.rs (8 + t)) none) := h.2.1.1.put ht (fun q h1 h2 h3 h4 => by rw [va_up_ne _ _ (by omega), e3 q (by omega), va_up_ne _ _ (by omega)]) (by rw [hlen]; exact m1) (by rw [va_up_ne _ _ (by omega), e3 _ (by omega), va_up_self, hlen]) (fun i x hx => by
        obtain ⟨r1, r2, r3, r4, r5⟩ := hrule i x hx
        obtain ⟨g1, g2⟩ := e2 i (Nat.zero_le _) r1
        rw [va_up_ne _ _ (by omega), va_up_ne _ _ (by omega), g1, g2]
        exact ⟨r2.symm, r4.symm⟩) (by rw [va_up_ne _ _ (by omega), e3 _ (by omega), va_up_ne _ _ (by omega)]; exact h.2.1.1.2.2.1 t ht) (va_up_self _ _ _)
      have hW : WI (C.1.1.A.put (8 + t) (ruleOf C.2.2.1.1 C.2.2.1.2 m) (C.1.1.A.rs (8 + t)) none) := h.2.1.2.put (fun x hx => by
        obtain ⟨i, hi⟩ := List.mem_iff_getElem?.mp hx
        obtain ⟨r1, r2, r3, r4, r5⟩ := hrule i x hi
        exact ⟨r3, r5⟩)
      have hRP0 : RP bk (M.sets 10 0) (C.1, (C.2.1, ((0, C.2.2.1.2), C.2.2.2))) := by
        obtain ⟨h1, h2, h3, h4, h7, h8⟩ := h
        exact ⟨h1.of rfl (fun _ _ _ => rfl), h2, h3, h4, ⟨rfl, Nat.zero_le _, fun i hi => absurd hi (Nat.not_lt_zero _)⟩, h8⟩
      refine ⟨(((M.sets 10 0).sa 5 (8 + 25 * t) (nI m)).seta 5 g).sa 5 (424 + 25 * t) (-1), bk, ?_, by rw [eM]; exact hRP0.w hN hW, by omega⟩
      refine CT.of [some (.ref r), some (.int (nI (8 + t))), none, none, none, none] rfl (Nat.le_of_ble_eq_true rfl) pl_X7 trivial ?_
      refine px_iload_n dX7_rule_0 rfl ?_
      refine px_callS1 (ν := mX7_isTarget) lk_X7_101 st_X7_isTarget mok_X7_isTarget dX7_rule_1 (cr_isTarget _) rfl rfl (by omega) (by simp) ?_
      refine px_ifb_ne (tgt := 9) dX7_rule_4 (by decide) (fun hc4 => ?_) (fun hc4 => ?_)
      · refine px_aload_n dX7_rule_9 rfl ?_
        refine px_callV1 (ν := mX7_fault) (ci := 7) rfl rfl lk_X7_136 in_X7_fault se_X7_fault mok_X7_fault dX7_rule_10 (hf) (by exact mH_0) rfl rfl (by omega) (by simp) ?_
        refine px_istore2 rfl dX7_rule_13 ?_
        refine px_aload_n dX7_rule_14 rfl ?_
        refine mx_get fl_X7_120 dX7_rule_15 rfl ?_
        refine px_iconst (v := 3) dX7_rule_18 (by decide) ?_
        refine px_idiv dX7_rule_19 (by decide) ?_
        rw [hdiv]
        refine px_istore3 rfl dX7_rule_20 ?_
        refine px_aload_n dX7_rule_21 rfl ?_
        refine px_iconst (v := 0) dX7_rule_22 (by decide) ?_
        refine mx_put fp_X7_120 dX7_rule_23 rfl rfl (by decide) rfl ?_
        refine px_iload_n dX7_rule_26 rfl ?_
        refine px_if_lt (tgt := 35) dX7_rule_27 (by decide) (fun hc27 => ?_) (fun hc27 => ?_)
        · refine px_bipush (v := 8) dX7_rule_35 (by decide) ?_
          refine px_bipush (v := 25) dX7_rule_37 (by decide) ?_
          refine px_iload_n dX7_rule_39 rfl ?_
          refine px_bipush (v := 8) dX7_rule_40 (by decide) ?_
          refine px_isub dX7_rule_42 ?_
          refine px_imul dX7_rule_43 ?_
          refine px_iadd dX7_rule_44 ?_
          rw [show (8 : Int32) + 25 * (nI (8 + t) - 8) = nI (8 + 25 * t) by (simp (disch := omega) only [li0, li1, li2, li3, li5, li6, li8, li9, li10, li12, li13, li16, li20, li24, li25, li100, li408, li424, li824, nI_add, nI_mul, nI_sub]; first | done | rfl | (congr 1; omega))]
          refine px_istore4 rfl dX7_rule_45 ?_
          refine px_aload_n dX7_rule_47 rfl ?_
          refine mx_get fl_X7_48 dX7_rule_48 rfl ?_
          refine px_iload dX7_rule_51 rfl ?_
          refine px_iload_n dX7_rule_53 rfl ?_
          refine mx_iastore (j := 5) (m := 824) (q := 8 + 25 * t) dX7_rule_54 (by decide) (by first | rfl | (simp (disch := omega) only [li0, li1, li2, li3, li5, li6, li8, li9, li10, li12, li13, li16, li20, li24, li25, li100, li408, li424, li824, nI_add, nI_mul, nI_sub]; first | done | rfl | (congr 1; omega))) (by omega) ?_
          refine px_iconst (v := 0) dX7_rule_55 (by decide) ?_
          refine px_istore5 rfl dX7_rule_56 ?_
          refine e1 _ _ ?_
          refine px_aload_n dX7_rule_139 rfl ?_
          refine mx_get fl_X7_48 dX7_rule_140 rfl ?_
          refine px_aload_n dX7_rule_143 rfl ?_
          refine px_iload_n dX7_rule_144 rfl ?_
          refine px_callV1 (ν := mX7_traceAt) (ci := 7) rfl rfl lk_X7_98 in_X7_traceAt se_X7_traceAt mok_X7_traceAt dX7_rule_145 (c_X7_traceAt ht) (by exact mH_0) rfl rfl (by omega) (by simp) ?_
          refine px_iconst (v := (-1)) dX7_rule_148 (by decide) ?_
          refine mx_iastore (j := 5) (m := 824) (q := 424 + 25 * t) dX7_rule_149 (by decide) (by first | rfl | (simp (disch := omega) only [li0, li1, li2, li3, li5, li6, li8, li9, li10, li12, li13, li16, li20, li24, li25, li100, li408, li424, li824, nI_add, nI_mul, nI_sub]; first | done | rfl | (congr 1; omega))) (by omega) ?_
          refine px_iload_n dX7_rule_150 rfl ?_
          exact px_reti dX7_rule_151 (by rfl) (by rfl)
        · exact absurd (by decide) hc27
      · rw [hk] at hc4; cases hc4
    · have h0 : v_rule C (nI (8 + t)) = (-100 - tpF C.2.2.1, (C.1, (C.2.1, ((0, C.2.2.1.2), C.2.2.2)))) := by unfold v_rule; rw [if_pos hk, if_neg hF]
      rw [h0]
      have hpos : ¬ tpF C.2.2.1 < 0 := by
        rcases tp_pos (lt := C.2.2.1.2) hL C.2.2.1.1 0 (by omega) with e | ⟨x, hx, e⟩
        · exact absurd e hF
        · have e : tpF C.2.2.1 = nI x := e
          rw [e]; exact nI_pos (by omega)
      have hRP0 : RP bk (M.sets 10 0) (C.1, (C.2.1, ((0, C.2.2.1.2), C.2.2.2))) := by
        obtain ⟨h1, h2, h3, h4, h7, h8⟩ := h
        exact ⟨h1.of rfl (fun _ _ _ => rfl), h2, h3, h4, ⟨rfl, Nat.zero_le _, fun i hi => absurd hi (Nat.not_lt_zero _)⟩, h8⟩
      refine ⟨M.sets 10 0, bk, ?_, hRP0, by omega⟩
      refine CT.of [some (.ref r), some (.int (nI (8 + t))), none, none, none, none] rfl (Nat.le_of_ble_eq_true rfl) pl_X7 trivial ?_
      refine px_iload_n dX7_rule_0 rfl ?_
      refine px_callS1 (ν := mX7_isTarget) lk_X7_101 st_X7_isTarget mok_X7_isTarget dX7_rule_1 (cr_isTarget _) rfl rfl (by omega) (by simp) ?_
      refine px_ifb_ne (tgt := 9) dX7_rule_4 (by decide) (fun hc4 => ?_) (fun hc4 => ?_)
      · refine px_aload_n dX7_rule_9 rfl ?_
        refine px_callV1 (ν := mX7_fault) (ci := 7) rfl rfl lk_X7_136 in_X7_fault se_X7_fault mok_X7_fault dX7_rule_10 (hf) (by exact mH_0) rfl rfl (by omega) (by simp) ?_
        refine px_istore2 rfl dX7_rule_13 ?_
        refine px_aload_n dX7_rule_14 rfl ?_
        refine mx_get fl_X7_120 dX7_rule_15 rfl ?_
        refine px_iconst (v := 3) dX7_rule_18 (by decide) ?_
        refine px_idiv dX7_rule_19 (by decide) ?_
        refine px_istore3 rfl dX7_rule_20 ?_
        refine px_aload_n dX7_rule_21 rfl ?_
        refine px_iconst (v := 0) dX7_rule_22 (by decide) ?_
        refine mx_put fp_X7_120 dX7_rule_23 rfl rfl (by decide) rfl ?_
        refine px_iload_n dX7_rule_26 rfl ?_
        refine px_if_lt (tgt := 35) dX7_rule_27 (by decide) (fun hc27 => ?_) (fun hc27 => ?_)
        · exact absurd hc27 hpos
        · refine px_bipush (v := (-100)) dX7_rule_30 (by decide) ?_
          refine px_iload_n dX7_rule_32 rfl ?_
          refine px_isub dX7_rule_33 ?_
          exact px_reti dX7_rule_34 (by rfl) (by rfl)
      · rw [hk] at hc4; cases hc4
  · have h0 : v_rule C k = (-1, C) := by unfold v_rule; rw [if_neg hk]
    rw [h0]
    refine RQ.same h ?_
    refine CT.of [some (.ref r), some (.int k), none, none, none, none] rfl (Nat.le_of_ble_eq_true rfl) pl_X7 trivial ?_
    refine px_iload_n dX7_rule_0 rfl ?_
    refine px_callS1 (ν := mX7_isTarget) lk_X7_101 st_X7_isTarget mok_X7_isTarget dX7_rule_1 (cr_isTarget _) rfl rfl (by omega) (by simp) ?_
    refine px_ifb_ne (tgt := 9) dX7_rule_4 (by decide) (fun hc4 => ?_) (fun hc4 => ?_)
    · exact absurd hc4 hk
    · refine px_iconst (v := (-1)) dX7_rule_7 (by decide) ?_
      exact px_reti dX7_rule_8 (by rfl) (by rfl)
end M75
