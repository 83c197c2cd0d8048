/-! the reference: LISTS moved, laid, judged -/
theorem sub_le {p x z : Nat} (hp : p ≤ 20) (hx : x < 2 ^ 31) (hz : z < 2 ^ 31) : nI z ≤ nI p - nI x ↔ x + z ≤ p := by
  rw [Int32.le_iff_toInt_le, Int32.toInt_sub, nI_toInt hz, nI_toInt (by omega), nI_toInt hx, Int.bmod_eq_of_le (by omega) (by omega)]
  omega
theorem ladd_lt {j q s : Nat} (hj : j < 2 ^ 31) (hq : q < 16) (hs : s ≤ 20) : (nI j).toInt64 + (nI q).toInt64 < (nI s).toInt64 ↔ j + q < s := by
  rw [Int64.lt_iff_toInt_lt, Int64.toInt_add, Int32.toInt_toInt64, Int32.toInt_toInt64, Int32.toInt_toInt64, nI_toInt hj, nI_toInt (by omega), nI_toInt (by omega), Int.bmod_eq_of_le (by omega) (by omega)]
  omega
section M73
variable {B : Nat} {D : va_G} {n w r : Nat} {f : Nat → Option va_E} {bk : BK} {M : MS} {C : CS}
theorem l_X7_move_84 {d t s x y z : Nat} (ht : t < 4) (hx : x + z ≤ 20) : ∀ (q j : Nat) (M : MS), j + q = z → ∃ g : Nat → Int64, (∀ rr h1, EX B D d mX7_move 118 [some (.ref r), some (.int (nI t)), some (.int (nI x)), some (.int (nI s)), some (.int (nI y)), some (.int (nI z)), some (.int (nI z))] [] (n, w, mH r f (M.setl 19 g)) rr h1 → EX B D d mX7_move 84 [some (.ref r), some (.int (nI t)), some (.int (nI x)), some (.int (nI s)), some (.int (nI y)), some (.int (nI z)), some (.int (nI j))] [] (n, w, mH r f M) rr h1) ∧ (∀ p, j ≤ p → p < z → g p = M.2.2 18 (20 * t + x + p)) ∧ ∀ p, p < j → g p = M.2.2 19 p
  | 0, j, M, hj => by
    have : j = z := by omega
    subst this
    refine ⟨M.2.2 19, fun rr h1 hk => ?_, fun p h1 h2 => by omega, fun p _ => rfl⟩
    have e : M.setl 19 (M.2.2 19) = M := by unfold MS.setl; rw [up_id]
    rw [e] at hk
    refine px_iload dX7_move_84 rfl ?_
    refine px_iload dX7_move_86 rfl ?_
    refine px_icmp_ge (tgt := 118) dX7_move_88 (by decide) (fun hc88 => ?_) (fun hc88 => ?_)
    · exact hk
    · exact absurd (Int32.le_refl _) hc88
  | q + 1, j, M, hj => by
    obtain ⟨g, e1, e2, e3⟩ := l_X7_move_84 (d := d) (s := s) (y := y) ht hx q (j + 1) (M.setl 19 (va_up (M.2.2 19) j (M.2.2 18 (20 * t + x + j)))) (by omega)
    have es : (M.setl 19 (va_up (M.2.2 19) j (M.2.2 18 (20 * t + x + j)))).setl 19 g = M.setl 19 g := by unfold MS.setl; simp only [bx_uu]
    rw [setl_self] at e3
    rw [es] at e1
    refine ⟨g, fun rr h1 hk => ?_, fun p h1 h2 => ?_, fun p hp => ?_⟩
    · have e1 := e1 rr h1 hk
      refine px_iload dX7_move_84 rfl ?_
      refine px_iload dX7_move_86 rfl ?_
      refine px_icmp_ge (tgt := 118) dX7_move_88 (by decide) (fun hc88 => ?_) (fun hc88 => ?_)
      · exact absurd hc88 (nI_ge (a := j) (b := z) (by omega) (by omega))
      · refine px_aload_n dX7_move_91 rfl ?_
        refine mx_get fl_X7_95 dX7_move_92 rfl ?_
        refine px_iload dX7_move_95 rfl ?_
        refine px_aload_n dX7_move_97 rfl ?_
        refine mx_get fl_X7_91 dX7_move_98 rfl ?_
        refine px_bipush (v := 20) dX7_move_101 (by decide) ?_
        refine px_iload_n dX7_move_103 rfl ?_
        refine px_imul dX7_move_104 ?_
        refine px_iload_n dX7_move_105 rfl ?_
        refine px_iadd dX7_move_106 ?_
        refine px_iload dX7_move_107 rfl ?_
        refine px_iadd dX7_move_109 ?_
        refine mx_laload (j := 18) (m := 80) (q := 20 * t + x + j) dX7_move_110 (by decide) (by first | rfl | (simp (disch := omega) only [li0, li1, li2, li3, li5, li6, li8, li9, li10, li12, li13, li16, li20, li24, li25, li100, li408, li424, li824, nI_add, nI_mul, nI_sub]; first | done | rfl | (congr 1; omega))) (by omega) ?_
        refine mx_lastore (j := 19) (m := 20) (q := j) dX7_move_111 (by decide) (by first | rfl | (simp (disch := omega) only [li0, li1, li2, li3, li5, li6, li8, li9, li10, li12, li13, li16, li20, li24, li25, li100, li408, li424, li824, nI_add, nI_mul, nI_sub]; first | done | rfl | (congr 1; omega))) (by omega) ?_
        refine px_iinc6 rfl (nI_inc j) dX7_move_112 ?_
        refine px_goto (tgt := 84) dX7_move_115 (by decide) ?_
        exact e1
    · by_cases e : p = j
      · subst e; rw [e3 _ (by omega), va_up_self]
      · rw [e2 p (by omega) h2]; rfl
    · rw [e3 p (by omega), va_up_ne _ _ (by omega)]
theorem l_X7_move_121 {d t s x y z : Nat} (hs : s < 4) (hy : y + z ≤ 20) : ∀ (q j : Nat) (M : MS), j + q = z → ∃ g : Nat → Int64, EX B D d mX7_move 121 [some (.ref r), some (.int (nI t)), some (.int (nI x)), some (.int (nI s)), some (.int (nI y)), some (.int (nI z)), some (.int (nI j))] [] (n, w, mH r f M) (some (.int (nI z))) (n, w, mH r f (M.setl 18 g)) ∧ (∀ p, j ≤ p → p < z → g (20 * s + y + p) = M.2.2 19 p) ∧ ∀ p, p < 20 * s + y + j ∨ 20 * s + y + z ≤ p → g p = M.2.2 18 p
  | 0, j, M, hj => by
    have : j = z := by omega
    subst this
    refine ⟨M.2.2 18, ?_, fun p h1 h2 => by omega, fun p _ => rfl⟩
    have e : M.setl 18 (M.2.2 18) = M := by unfold MS.setl; rw [up_id]
    rw [e]
    refine px_iload dX7_move_121 rfl ?_
    refine px_iload dX7_move_123 rfl ?_
    refine px_icmp_ge (tgt := 156) dX7_move_125 (by decide) (fun hc125 => ?_) (fun hc125 => ?_)
    · refine px_iload dX7_move_156 rfl ?_
      exact px_reti dX7_move_158 (by rfl) (by rfl)
    · exact absurd (Int32.le_refl _) hc125
  | q + 1, j, M, hj => by
    obtain ⟨g, e1, e2, e3⟩ := l_X7_move_121 (d := d) (t := t) (x := x) hs hy q (j + 1) (M.setl 18 (va_up (M.2.2 18) (20 * s + y + j) (M.2.2 19 j))) (by omega)
    have es : (M.setl 18 (va_up (M.2.2 18) (20 * s + y + j) (M.2.2 19 j))).setl 18 g = M.setl 18 g := by unfold MS.setl; simp only [bx_uu]
    rw [setl_self] at e3
    rw [es] at e1
    refine ⟨g, ?_, fun p h1 h2 => ?_, fun p hp => ?_⟩
    · refine px_iload dX7_move_121 rfl ?_
      refine px_iload dX7_move_123 rfl ?_
      refine px_icmp_ge (tgt := 156) dX7_move_125 (by decide) (fun hc125 => ?_) (fun hc125 => ?_)
      · exact absurd hc125 (nI_ge (a := j) (b := z) (by omega) (by omega))
      · refine px_aload_n dX7_move_128 rfl ?_
        refine mx_get fl_X7_91 dX7_move_129 rfl ?_
        refine px_bipush (v := 20) dX7_move_132 (by decide) ?_
        refine px_iload_n dX7_move_134 rfl ?_
        refine px_imul dX7_move_135 ?_
        refine px_iload dX7_move_136 rfl ?_
        refine px_iadd dX7_move_138 ?_
        refine px_iload dX7_move_139 rfl ?_
        refine px_iadd dX7_move_141 ?_
        refine px_aload_n dX7_move_142 rfl ?_
        refine mx_get fl_X7_95 dX7_move_143 rfl ?_
        refine px_iload dX7_move_146 rfl ?_
        refine mx_laload (j := 19) (m := 20) (q := j) dX7_move_148 (by decide) (by first | rfl | (simp (disch := omega) only [li0, li1, li2, li3, li5, li6, li8, li9, li10, li12, li13, li16, li20, li24, li25, li100, li408, li424, li824, nI_add, nI_mul, nI_sub]; first | done | rfl | (congr 1; omega))) (by omega) ?_
        refine mx_lastore (j := 18) (m := 80) (q := 20 * s + y + j) dX7_move_149 (by decide) (by first | rfl | (simp (disch := omega) only [li0, li1, li2, li3, li5, li6, li8, li9, li10, li12, li13, li16, li20, li24, li25, li100, li408, li424, li824, nI_add, nI_mul, nI_sub]; first | done | rfl | (congr 1; omega))) (by omega) ?_
        refine px_iinc6 rfl (nI_inc j) dX7_move_150 ?_
        refine px_goto (tgt := 121) dX7_move_153 (by decide) ?_
        exact e1
    · by_cases e : p = j
      · subst e; rw [e3 _ (by omega), va_up_self]
      · rw [e2 p (by omega) h2]; rfl
    · rw [e3 p (by omega), va_up_ne _ _ (by omega)]
theorem m_move (h : RP bk M C) (k i u j c : Int32) : RQ B D n w r f 50 mX7_move [.int k, .int i, .int u, .int j, .int c] bk M (.int (v_move C.2.2.2 k i u j c).1) (C.1, (C.2.1, (C.2.2.1, (v_move C.2.2.2 k i u j c).2))) := by
  by_cases hku : s_isRow k = true ∧ s_isRow u = true
  · obtain ⟨hk, hu⟩ := hku
    obtain ⟨t, ht, rfl⟩ := inR.mp hk
    obtain ⟨s, hs, rfl⟩ := inR.mp hu
    obtain ⟨a1, a2, a3⟩ := h.2.2.2.2.2 t ht
    obtain ⟨b1, b2, b3⟩ := h.2.2.2.2.2 s hs
    by_cases hsm : (C.2.2.2 t).1.isSome = true ∧ (C.2.2.2 s).1.isSome = true
    · obtain ⟨h1, h2⟩ := hsm
      obtain ⟨p, hp⟩ := Option.isSome_iff_exists.mp h1
      obtain ⟨q, hq⟩ := Option.isSome_iff_exists.mp h2
      rw [hp] at a1 a2
      rw [hq] at b1 b2
      have a1 : M.2.1 17 t = nI p := a1
      have b1 : M.2.1 17 s = nI q := b1
      have a2 : p ≤ 20 := a2
      have b2 : q ≤ 20 := b2
      by_cases hsp : r_span (nI p) i c = true ∧ r_span (nI q) j c = true
      · obtain ⟨x, z, hx, hz, rfl, rfl⟩ := r_span_of hsp.1
        obtain ⟨y, z', hy, hz', rfl, ez⟩ := r_span_of hsp.2
        have s1 := (r_span_iff a2 hx hz).mp hsp.1
        have s2 := (r_span_iff b2 hy hz).mp hsp.2
        have hval : v_move C.2.2.2 (nI t) (nI x) (nI s) (nI y) (nI z) = (nI z, va_up C.2.2.2 s ((C.2.2.2 s).1, va_cpy (C.2.2.2 t).2 (C.2.2.2 s).2 x y z)) := by
          unfold v_move
          rw [if_pos ⟨hk, hu⟩, nI_clamp (by omega : t < 2 ^ 31), nI_clamp (by omega : s < 2 ^ 31), if_pos ⟨h1, h2⟩, hp, hq, Option.getD_some, Option.getD_some, if_pos hsp, nI_clamp hx, nI_clamp hy, nI_clamp hz]
        rw [hval]
        obtain ⟨g, e1, e2, e3⟩ := l_X7_move_84 (B := B) (D := D) (n := n) (w := w) (r := r) (f := f) (d := 50) (s := s) (y := y) ht (show x + z ≤ 20 by omega) z 0 M (by omega)
        obtain ⟨g', d1, d2, d3⟩ := l_X7_move_121 (B := B) (D := D) (n := n) (w := w) (r := r) (f := f) (d := 50) (t := t) (x := x) hs (show y + z ≤ 20 by omega) z 0 (M.setl 19 g) (by omega)
        rw [setl_self] at d2
        have d3 : ∀ p, p < 20 * s + y + 0 ∨ 20 * s + y + z ≤ p → g' p = M.2.2 18 p := d3
        refine ⟨(M.setl 19 g).setl 18 g', bk, ?_, h.rows rfl (fun _ _ => rfl) (fun i hi => ?_), by omega⟩
        · refine CT.of [some (.ref r), some (.int (nI t)), some (.int (nI x)), some (.int (nI s)), some (.int (nI y)), some (.int (nI z)), none] rfl (Nat.le_of_ble_eq_true rfl) pl_X7 trivial ?_
          refine px_iload_n dX7_move_0 rfl ?_
          refine px_callS1 (ν := mX7_isList) lk_X7_236 st_X7_isList mok_X7_isList dX7_move_1 (cr_isList _) rfl rfl (by omega) (by simp) ?_
          refine px_ifb_eq (tgt := 14) dX7_move_4 (by decide) (fun hc4 => ?_) (fun hc4 => ?_)
          · rw [hk] at hc4; cases hc4
          · refine px_iload_n dX7_move_7 rfl ?_
            refine px_callS1 (ν := mX7_isList) lk_X7_236 st_X7_isList mok_X7_isList dX7_move_8 (cr_isList _) rfl rfl (by omega) (by simp) ?_
            refine px_ifb_ne (tgt := 16) dX7_move_11 (by decide) (fun hc11 => ?_) (fun hc11 => ?_)
            · refine px_aload_n dX7_move_16 rfl ?_
              refine mx_get fl_X7_88 dX7_move_17 rfl ?_
              refine px_iload_n dX7_move_20 rfl ?_
              refine mx_iaload (j := 17) (m := 4) (q := t) dX7_move_21 (by decide) (by first | rfl | (simp (disch := omega) only [li0, li1, li2, li3, li5, li6, li8, li9, li10, li12, li13, li16, li20, li24, li25, li100, li408, li424, li824, nI_add, nI_mul, nI_sub]; first | done | rfl | (congr 1; omega))) (by omega) ?_
              rw [a1]
              refine px_if_lt (tgt := 34) dX7_move_22 (by decide) (fun hc22 => ?_) (fun hc22 => ?_)
              · exact absurd hc22 (nI_pos (by omega))
              · refine px_aload_n dX7_move_25 rfl ?_
                refine mx_get fl_X7_88 dX7_move_26 rfl ?_
                refine px_iload_n dX7_move_29 rfl ?_
                refine mx_iaload (j := 17) (m := 4) (q := s) dX7_move_30 (by decide) (by first | rfl | (simp (disch := omega) only [li0, li1, li2, li3, li5, li6, li8, li9, li10, li12, li13, li16, li20, li24, li25, li100, li408, li424, li824, nI_add, nI_mul, nI_sub]; first | done | rfl | (congr 1; omega))) (by omega) ?_
                rw [b1]
                refine px_if_ge (tgt := 37) dX7_move_31 (by decide) (fun hc31 => ?_) (fun hc31 => ?_)
                · refine px_iload dX7_move_37 rfl ?_
                  refine px_if_lt (tgt := 78) dX7_move_39 (by decide) (fun hc39 => ?_) (fun hc39 => ?_)
                  · exact absurd hc39 (nI_pos (by omega))
                  · refine px_iload_n dX7_move_42 rfl ?_
                    refine px_if_lt (tgt := 78) dX7_move_43 (by decide) (fun hc43 => ?_) (fun hc43 => ?_)
                    · exact absurd hc43 (nI_pos (by omega))
                    · refine px_iload dX7_move_46 rfl ?_
                      refine px_if_lt (tgt := 78) dX7_move_48 (by decide) (fun hc48 => ?_) (fun hc48 => ?_)
                      · exact absurd hc48 (nI_pos (by omega))
                      · refine px_iload dX7_move_51 rfl ?_
                        refine px_aload_n dX7_move_53 rfl ?_
                        refine mx_get fl_X7_88 dX7_move_54 rfl ?_
                        refine px_iload_n dX7_move_57 rfl ?_
                        refine mx_iaload (j := 17) (m := 4) (q := t) dX7_move_58 (by decide) (by first | rfl | (simp (disch := omega) only [li0, li1, li2, li3, li5, li6, li8, li9, li10, li12, li13, li16, li20, li24, li25, li100, li408, li424, li824, nI_add, nI_mul, nI_sub]; first | done | rfl | (congr 1; omega))) (by omega) ?_
                        rw [a1]
                        refine px_iload_n dX7_move_59 rfl ?_
                        refine px_isub dX7_move_60 ?_
                        refine px_icmp_gt (tgt := 78) dX7_move_61 (by decide) (fun hc61 => ?_) (fun hc61 => ?_)
                        · exact absurd hc61 (Int32.not_lt.mpr ((sub_le a2 hx hz).mpr s1))
                        · refine px_iload dX7_move_64 rfl ?_
                          refine px_aload_n dX7_move_66 rfl ?_
                          refine mx_get fl_X7_88 dX7_move_67 rfl ?_
                          refine px_iload_n dX7_move_70 rfl ?_
                          refine mx_iaload (j := 17) (m := 4) (q := s) dX7_move_71 (by decide) (by first | rfl | (simp (disch := omega) only [li0, li1, li2, li3, li5, li6, li8, li9, li10, li12, li13, li16, li20, li24, li25, li100, li408, li424, li824, nI_add, nI_mul, nI_sub]; first | done | rfl | (congr 1; omega))) (by omega) ?_
                          rw [b1]
                          refine px_iload dX7_move_72 rfl ?_
                          refine px_isub dX7_move_74 ?_
                          refine px_icmp_le (tgt := 81) dX7_move_75 (by decide) (fun hc75 => ?_) (fun hc75 => ?_)
                          · refine px_iconst (v := 0) dX7_move_81 (by decide) ?_
                            refine px_istore6 rfl dX7_move_82 ?_
                            refine e1 _ _ ?_
                            refine px_iconst (v := 0) dX7_move_118 (by decide) ?_
                            refine px_istore6 rfl dX7_move_119 ?_
                            exact d1
                          · exact absurd ((sub_le b2 hy hz).mpr s2) hc75
                · exact absurd (nI_pos' (by omega)) hc31
            · rw [hu] at hc11; cases hc11
        · rw [setl_self]
          show M.2.1 17 i = _ ∧ _
          dsimp only
          have hRi := h.2.2.2.2.2 i hi
          by_cases e : i = s
          · subst e
            rw [va_up_self, hq]
            refine ⟨b1, b2, fun v hv => ?_⟩
            dsimp only
            by_cases hin : y ≤ v ∧ v < y + z
            · have e4 := d2 (v - y) (Nat.zero_le _) (by omega)
              rw [show 20 * i + y + (v - y) = 20 * i + v by omega] at e4
              rw [e4, e2 (v - y) (Nat.zero_le _) (by omega), pk_cpy_in hin.1 hin.2, show 20 * t + x + (v - y) = 20 * t + (x + (v - y)) by omega]
              exact a3 _ (by omega)
            · rw [d3 _ (by omega), pk_cpy_out (by omega)]
              exact b3 v hv
          · rw [va_up_ne _ _ e]
            refine ⟨hRi.1, hRi.2.1, fun v hv => ?_⟩
            rw [d3 _ (by omega)]
            exact hRi.2.2 v hv
      · have hval : v_move C.2.2.2 (nI t) i (nI s) j c = (-13, C.2.2.2) := by
          unfold v_move
          rw [if_pos ⟨hk, hu⟩, nI_clamp (by omega : t < 2 ^ 31), nI_clamp (by omega : s < 2 ^ 31), if_pos ⟨h1, h2⟩, hp, hq, Option.getD_some, Option.getD_some, if_neg hsp]
        rw [hval]
        refine RQ.same h ?_
        have hno : ¬ c < 0 → ¬ i < 0 → ¬ j < 0 → ¬ nI p - i < c → c ≤ nI q - j → False := fun n1 n2 n3 n4 n5 => by
          obtain ⟨z, hz, rfl⟩ := nI_of n1
          obtain ⟨x, hx, rfl⟩ := nI_of n2
          obtain ⟨y, hy, rfl⟩ := nI_of n3
          exact hsp ⟨(r_span_iff a2 hx hz).mpr ((sub_le a2 hx hz).mp (Int32.not_lt.mp n4)), (r_span_iff b2 hy hz).mpr ((sub_le b2 hy hz).mp n5)⟩
        refine CT.of [some (.ref r), some (.int (nI t)), some (.int i), some (.int (nI s)), some (.int j), some (.int c), none] rfl (Nat.le_of_ble_eq_true rfl) pl_X7 trivial ?_
        refine px_iload_n dX7_move_0 rfl ?_
        refine px_callS1 (ν := mX7_isList) lk_X7_236 st_X7_isList mok_X7_isList dX7_move_1 (cr_isList _) rfl rfl (by omega) (by simp) ?_
        refine px_ifb_eq (tgt := 14) dX7_move_4 (by decide) (fun hc4 => ?_) (fun hc4 => ?_)
        · rw [hk] at hc4; cases hc4
        · refine px_iload_n dX7_move_7 rfl ?_
          refine px_callS1 (ν := mX7_isList) lk_X7_236 st_X7_isList mok_X7_isList dX7_move_8 (cr_isList _) rfl rfl (by omega) (by simp) ?_
          refine px_ifb_ne (tgt := 16) dX7_move_11 (by decide) (fun hc11 => ?_) (fun hc11 => ?_)
          · refine px_aload_n dX7_move_16 rfl ?_
            refine mx_get fl_X7_88 dX7_move_17 rfl ?_
            refine px_iload_n dX7_move_20 rfl ?_
            refine mx_iaload (j := 17) (m := 4) (q := t) dX7_move_21 (by decide) (by first | rfl | (simp (disch := omega) only [li0, li1, li2, li3, li5, li6, li8, li9, li10, li12, li13, li16, li20, li24, li25, li100, li408, li424, li824, nI_add, nI_mul, nI_sub]; first | done | rfl | (congr 1; omega))) (by omega) ?_
            rw [a1]
            refine px_if_lt (tgt := 34) dX7_move_22 (by decide) (fun hc22 => ?_) (fun hc22 => ?_)
            · exact absurd hc22 (nI_pos (by omega))
            · refine px_aload_n dX7_move_25 rfl ?_
              refine mx_get fl_X7_88 dX7_move_26 rfl ?_
              refine px_iload_n dX7_move_29 rfl ?_
              refine mx_iaload (j := 17) (m := 4) (q := s) dX7_move_30 (by decide) (by first | rfl | (simp (disch := omega) only [li0, li1, li2, li3, li5, li6, li8, li9, li10, li12, li13, li16, li20, li24, li25, li100, li408, li424, li824, nI_add, nI_mul, nI_sub]; first | done | rfl | (congr 1; omega))) (by omega) ?_
              rw [b1]
              refine px_if_ge (tgt := 37) dX7_move_31 (by decide) (fun hc31 => ?_) (fun hc31 => ?_)
              · refine px_iload dX7_move_37 rfl ?_
                refine px_if_lt (tgt := 78) dX7_move_39 (by decide) (fun hc39 => ?_) (fun hc39 => ?_)
                · refine px_bipush (v := (-13)) dX7_move_78 (by decide) ?_
                  exact px_reti dX7_move_80 (by rfl) (by rfl)
                · refine px_iload_n dX7_move_42 rfl ?_
                  refine px_if_lt (tgt := 78) dX7_move_43 (by decide) (fun hc43 => ?_) (fun hc43 => ?_)
                  · refine px_bipush (v := (-13)) dX7_move_78 (by decide) ?_
                    exact px_reti dX7_move_80 (by rfl) (by rfl)
                  · refine px_iload dX7_move_46 rfl ?_
                    refine px_if_lt (tgt := 78) dX7_move_48 (by decide) (fun hc48 => ?_) (fun hc48 => ?_)
                    · refine px_bipush (v := (-13)) dX7_move_78 (by decide) ?_
                      exact px_reti dX7_move_80 (by rfl) (by rfl)
                    · refine px_iload dX7_move_51 rfl ?_
                      refine px_aload_n dX7_move_53 rfl ?_
                      refine mx_get fl_X7_88 dX7_move_54 rfl ?_
                      refine px_iload_n dX7_move_57 rfl ?_
                      refine mx_iaload (j := 17) (m := 4) (q := t) dX7_move_58 (by decide) (by first | rfl | (simp (disch := omega) only [li0, li1, li2, li3, li5, li6, li8, li9, li10, li12, li13, li16, li20, li24, li25, li100, li408, li424, li824, nI_add, nI_mul, nI_sub]; first | done | rfl | (congr 1; omega))) (by omega) ?_
                      rw [a1]
                      refine px_iload_n dX7_move_59 rfl ?_
                      refine px_isub dX7_move_60 ?_
                      refine px_icmp_gt (tgt := 78) dX7_move_61 (by decide) (fun hc61 => ?_) (fun hc61 => ?_)
                      · refine px_bipush (v := (-13)) dX7_move_78 (by decide) ?_
                        exact px_reti dX7_move_80 (by rfl) (by rfl)
                      · refine px_iload dX7_move_64 rfl ?_
                        refine px_aload_n dX7_move_66 rfl ?_
                        refine mx_get fl_X7_88 dX7_move_67 rfl ?_
                        refine px_iload_n dX7_move_70 rfl ?_
                        refine mx_iaload (j := 17) (m := 4) (q := s) dX7_move_71 (by decide) (by first | rfl | (simp (disch := omega) only [li0, li1, li2, li3, li5, li6, li8, li9, li10, li12, li13, li16, li20, li24, li25, li100, li408, li424, li824, nI_add, nI_mul, nI_sub]; first | done | rfl | (congr 1; omega))) (by omega) ?_
                        rw [b1]
                        refine px_iload dX7_move_72 rfl ?_
                        refine px_isub dX7_move_74 ?_
                        refine px_icmp_le (tgt := 81) dX7_move_75 (by decide) (fun hc75 => ?_) (fun hc75 => ?_)
                        · exact (hno hc39 hc43 hc48 hc61 hc75).elim
                        · refine px_bipush (v := (-13)) dX7_move_78 (by decide) ?_
                          exact px_reti dX7_move_80 (by rfl) (by rfl)
              · exact absurd (nI_pos' (by omega)) hc31
          · rw [hu] at hc11; cases hc11
    · have hval : v_move C.2.2.2 (nI t) i (nI s) j c = (-11, C.2.2.2) := by
        unfold v_move
        rw [if_pos ⟨hk, hu⟩, nI_clamp (by omega : t < 2 ^ 31), nI_clamp (by omega : s < 2 ^ 31), if_neg hsm]
      rw [hval]
      refine RQ.same h ?_
      have n1 : ¬ M.2.1 17 t < 0 → (C.2.2.2 t).1.isSome = true := fun e => by
        cases hr : (C.2.2.2 t).1 with
        | none => rw [hr] at a1; have a1 : M.2.1 17 t = -1 := a1; rw [a1] at e; exact absurd (by decide) e
        | some v => rfl
      have n2 : (0 : Int32) ≤ M.2.1 17 s → (C.2.2.2 s).1.isSome = true := fun e => by
        cases hr : (C.2.2.2 s).1 with
        | none => rw [hr] at b1; have b1 : M.2.1 17 s = -1 := b1; rw [b1] at e; exact absurd e (by decide)
        | some v => rfl
      refine CT.of [some (.ref r), some (.int (nI t)), some (.int i), some (.int (nI s)), some (.int j), some (.int c), none] rfl (Nat.le_of_ble_eq_true rfl) pl_X7 trivial ?_
      refine px_iload_n dX7_move_0 rfl ?_
      refine px_callS1 (ν := mX7_isList) lk_X7_236 st_X7_isList mok_X7_isList dX7_move_1 (cr_isList _) rfl rfl (by omega) (by simp) ?_
      refine px_ifb_eq (tgt := 14) dX7_move_4 (by decide) (fun hc4 => ?_) (fun hc4 => ?_)
      · rw [hk] at hc4; cases hc4
      · refine px_iload_n dX7_move_7 rfl ?_
        refine px_callS1 (ν := mX7_isList) lk_X7_236 st_X7_isList mok_X7_isList dX7_move_8 (cr_isList _) rfl rfl (by omega) (by simp) ?_
        refine px_ifb_ne (tgt := 16) dX7_move_11 (by decide) (fun hc11 => ?_) (fun hc11 => ?_)
        · refine px_aload_n dX7_move_16 rfl ?_
          refine mx_get fl_X7_88 dX7_move_17 rfl ?_
          refine px_iload_n dX7_move_20 rfl ?_
          refine mx_iaload (j := 17) (m := 4) (q := t) dX7_move_21 (by decide) (by first | rfl | (simp (disch := omega) only [li0, li1, li2, li3, li5, li6, li8, li9, li10, li12, li13, li16, li20, li24, li25, li100, li408, li424, li824, nI_add, nI_mul, nI_sub]; first | done | rfl | (congr 1; omega))) (by omega) ?_
          refine px_if_lt (tgt := 34) dX7_move_22 (by decide) (fun hc22 => ?_) (fun hc22 => ?_)
          · refine px_bipush (v := (-11)) dX7_move_34 (by decide) ?_
            exact px_reti dX7_move_36 (by rfl) (by rfl)
          · refine px_aload_n dX7_move_25 rfl ?_
            refine mx_get fl_X7_88 dX7_move_26 rfl ?_
            refine px_iload_n dX7_move_29 rfl ?_
            refine mx_iaload (j := 17) (m := 4) (q := s) dX7_move_30 (by decide) (by first | rfl | (simp (disch := omega) only [li0, li1, li2, li3, li5, li6, li8, li9, li10, li12, li13, li16, li20, li24, li25, li100, li408, li424, li824, nI_add, nI_mul, nI_sub]; first | done | rfl | (congr 1; omega))) (by omega) ?_
            refine px_if_ge (tgt := 37) dX7_move_31 (by decide) (fun hc31 => ?_) (fun hc31 => ?_)
            · exact absurd ⟨n1 hc22, n2 hc31⟩ hsm
            · refine px_bipush (v := (-11)) dX7_move_34 (by decide) ?_
              exact px_reti dX7_move_36 (by rfl) (by rfl)
        · rw [hu] at hc11; cases hc11
  · have hval : v_move C.2.2.2 k i u j c = (-1, C.2.2.2) := by unfold v_move; rw [if_neg hku]
    rw [hval]
    refine RQ.same h ?_
    refine CT.of [some (.ref r), some (.int k), some (.int i), some (.int u), some (.int j), some (.int c), none] rfl (Nat.le_of_ble_eq_true rfl) pl_X7 trivial ?_
    refine px_iload_n dX7_move_0 rfl ?_
    refine px_callS1 (ν := mX7_isList) lk_X7_236 st_X7_isList mok_X7_isList dX7_move_1 (cr_isList _) rfl rfl (by omega) (by simp) ?_
    refine px_ifb_eq (tgt := 14) dX7_move_4 (by decide) (fun hc4 => ?_) (fun hc4 => ?_)
    · refine px_iconst (v := (-1)) dX7_move_14 (by decide) ?_
      exact px_reti dX7_move_15 (by rfl) (by rfl)
    · refine px_iload_n dX7_move_7 rfl ?_
      refine px_callS1 (ν := mX7_isList) lk_X7_236 st_X7_isList mok_X7_isList dX7_move_8 (cr_isList _) rfl rfl (by omega) (by simp) ?_
      refine px_ifb_ne (tgt := 16) dX7_move_11 (by decide) (fun hc11 => ?_) (fun hc11 => ?_)
      · exact absurd ⟨hc4, hc11⟩ hku
      · refine px_iconst (v := (-1)) dX7_move_14 (by decide) ?_
        exact px_reti dX7_move_15 (by rfl) (by rfl)
theorem told_c {A : AW} (hS : NS bk (M.2.1 5) A.rs) (hb : Bk M bk) {q : Nat} (hq : q < 16) : CT B D 1 mX7_toldOf [.ref r, .int (M.2.1 5 (408 + q))] (n, w, mH r f M) (some (.int (toldO (aHas A (8 + q))))) (n, w, mH r f M) := by
  rw [show aHas A (8 + q) = A.rs (8 + q) from if_neg (by omega)]
  exact c_X7_toldOf hb (hS q hq)
theorem l_X7_judge_23 {d t s j : Nat} (hd : 2 ≤ d) (ht : t < 4) (hs : s ≤ 20) (hj : j < 2 ^ 31) (h : RP bk M C) (c1 : M.2.1 17 t = nI s) (c3 : ∀ q, q < 20 → M.2.2 18 (20 * t + q) = (C.2.2.2 t).2 q) : ∀ (k q : Nat), q + k = 16 → EX B D d mX7_judge 23 [some (.ref r), some (.int (nI t)), some (.int (nI j)), some (.int (nI q))] [] (n, w, mH r f M) (some (.int (aJ C.1.1.A s (C.2.2.2 t).2 (nI j) k))) (n, w, mH r f M)
  | 0, q, hq => by
    have : q = 16 := by omega
    subst this
    refine px_iload_n dX7_judge_23 rfl ?_
    refine px_bipush (v := 16) dX7_judge_24 (by decide) ?_
    refine px_icmp_ge (tgt := 94) dX7_judge_26 (by decide) (fun hc26 => ?_) (fun hc26 => ?_)
    · refine px_bipush (v := (-5)) dX7_judge_94 (by decide) ?_
      exact px_reti dX7_judge_96 (by rfl) (by rfl)
    · exact absurd (by decide) hc26
  | k + 1, q, hq => by
    have e15 : 15 - k = q := by omega
    have hh := rhas_add hs hj (show q < 16 by omega)
    have hl := ladd_lt hj (show q < 16 by omega) hs
    have hge : ¬ (16 : Int32) ≤ nI q := nI_ge (a := q) (b := 16) (by omega) (by omega)
    rw [aJ, e15, hh]
    by_cases hlt : j + q < s
    · rw [if_pos (decide_eq_true hlt), nI_add, nI_clamp (by omega)]
      have hv := c3 (j + q) (by omega)
      have ih := l_X7_judge_23 (d := d) hd ht hs hj h c1 c3 k (q + 1) (by omega)
      refine px_iload_n dX7_judge_23 rfl ?_
      refine px_bipush (v := 16) dX7_judge_24 (by decide) ?_
      refine px_icmp_ge (tgt := 94) dX7_judge_26 (by decide) (fun hc26 => ?_) (fun hc26 => ?_)
      · exact absurd hc26 hge
      · refine px_iload_n dX7_judge_29 rfl ?_
        refine px_if_lt (tgt := 49) dX7_judge_30 (by decide) (fun hc30 => ?_) (fun hc30 => ?_)
        · exact absurd hc30 (nI_pos hj)
        · refine px_iload_n dX7_judge_33 rfl ?_
          refine px_i2l dX7_judge_34 ?_
          refine px_iload_n dX7_judge_35 rfl ?_
          refine px_i2l dX7_judge_36 ?_
          refine px_ladd dX7_judge_37 ?_
          refine px_aload_n dX7_judge_38 rfl ?_
          refine mx_get fl_X7_88 dX7_judge_39 rfl ?_
          refine px_iload_n dX7_judge_42 rfl ?_
          refine mx_iaload (j := 17) (m := 4) (q := t) dX7_judge_43 (by decide) (by first | rfl | (simp (disch := omega) only [li0, li1, li2, li3, li5, li6, li8, li9, li10, li12, li13, li16, li20, li24, li25, li100, li408, li424, li824, nI_add, nI_mul, nI_sub]; first | done | rfl | (congr 1; omega))) (by omega) ?_
          rw [c1]
          refine px_i2l dX7_judge_44 ?_
          refine px_l_lt (tgt := 54) dX7_judge_45 dX7_judge_46 (by decide) (fun hc46 => ?_) (fun hc46 => ?_)
          · refine px_aload_n dX7_judge_54 rfl ?_
            refine mx_get fl_X7_91 dX7_judge_55 rfl ?_
            refine px_bipush (v := 20) dX7_judge_58 (by decide) ?_
            refine px_iload_n dX7_judge_60 rfl ?_
            refine px_imul dX7_judge_61 ?_
            refine px_iload_n dX7_judge_62 rfl ?_
            refine px_iadd dX7_judge_63 ?_
            refine px_iload_n dX7_judge_64 rfl ?_
            refine px_iadd dX7_judge_65 ?_
            refine mx_laload (j := 18) (m := 80) (q := 20 * t + j + q) dX7_judge_66 (by decide) (by first | rfl | (simp (disch := omega) only [li0, li1, li2, li3, li5, li6, li8, li9, li10, li12, li13, li16, li20, li24, li25, li100, li408, li424, li824, nI_add, nI_mul, nI_sub]; first | done | rfl | (congr 1; omega))) (by omega) ?_
            rw [show 20 * t + j + q = 20 * t + (j + q) by omega, hv]
            refine px_aload_n dX7_judge_67 rfl ?_
            refine px_aload_n dX7_judge_68 rfl ?_
            refine mx_get fl_X7_48 dX7_judge_69 rfl ?_
            refine px_sipush (v := 408) dX7_judge_72 (by decide) ?_
            refine px_iload_n dX7_judge_75 rfl ?_
            refine px_iadd dX7_judge_76 ?_
            refine mx_iaload (j := 5) (m := 824) (q := 408 + q) dX7_judge_77 (by decide) (by first | rfl | (simp (disch := omega) only [li0, li1, li2, li3, li5, li6, li8, li9, li10, li12, li13, li16, li20, li24, li25, li100, li408, li424, li824, nI_add, nI_mul, nI_sub]; first | done | rfl | (congr 1; omega))) (by omega) ?_
            refine px_callV1 (ν := mX7_toldOf) (ci := 7) rfl rfl lk_X7_211 in_X7_toldOf se_X7_toldOf mok_X7_toldOf dX7_judge_78 (told_c h.2.1.1.2.2.1 h.1 (by omega)) (by exact mH_0) rfl rfl (by omega) (by simp) ?_
            refine px_i2l dX7_judge_81 ?_
            refine px_l_eq (tgt := 88) dX7_judge_82 dX7_judge_83 (by decide) (fun hc83 => ?_) (fun hc83 => ?_)
            · refine px_iinc3 rfl (nI_inc q) dX7_judge_88 ?_
              refine px_goto (tgt := 23) dX7_judge_91 (by decide) ?_
              rw [if_pos hc83]; exact ih
            · refine px_iload_n dX7_judge_86 rfl ?_
              exact px_reti dX7_judge_87 (by rw [if_neg hc83]) (by rfl)
          · exact absurd (hl.mpr hlt) hc46
    · rw [if_neg (by rw [decide_eq_false hlt]; decide)]
      refine px_iload_n dX7_judge_23 rfl ?_
      refine px_bipush (v := 16) dX7_judge_24 (by decide) ?_
      refine px_icmp_ge (tgt := 94) dX7_judge_26 (by decide) (fun hc26 => ?_) (fun hc26 => ?_)
      · exact absurd hc26 hge
      · refine px_iload_n dX7_judge_29 rfl ?_
        refine px_if_lt (tgt := 49) dX7_judge_30 (by decide) (fun hc30 => ?_) (fun hc30 => ?_)
        · exact absurd hc30 (nI_pos hj)
        · refine px_iload_n dX7_judge_33 rfl ?_
          refine px_i2l dX7_judge_34 ?_
          refine px_iload_n dX7_judge_35 rfl ?_
          refine px_i2l dX7_judge_36 ?_
          refine px_ladd dX7_judge_37 ?_
          refine px_aload_n dX7_judge_38 rfl ?_
          refine mx_get fl_X7_88 dX7_judge_39 rfl ?_
          refine px_iload_n dX7_judge_42 rfl ?_
          refine mx_iaload (j := 17) (m := 4) (q := t) dX7_judge_43 (by decide) (by first | rfl | (simp (disch := omega) only [li0, li1, li2, li3, li5, li6, li8, li9, li10, li12, li13, li16, li20, li24, li25, li100, li408, li424, li824, nI_add, nI_mul, nI_sub]; first | done | rfl | (congr 1; omega))) (by omega) ?_
          rw [c1]
          refine px_i2l dX7_judge_44 ?_
          refine px_l_lt (tgt := 54) dX7_judge_45 dX7_judge_46 (by decide) (fun hc46 => ?_) (fun hc46 => ?_)
          · exact absurd (hl.mp hc46) hlt
          · refine px_bipush (v := 100) dX7_judge_49 (by decide) ?_
            refine px_iload_n dX7_judge_51 rfl ?_
            refine px_iadd dX7_judge_52 ?_
            exact px_reti dX7_judge_53 (by rfl) (by rfl)
theorem m_judge (h : RP bk M C) (k i : Int32) : RQ B D n w r f 50 mX7_judge [.int k, .int i] bk M (.int (v_judge C.1.1.A C.2.2.2 k i)) C := by
  refine RQ.same h ?_
  by_cases hk : s_isRow k = true
  · obtain ⟨t, ht, rfl⟩ := inR.mp hk
    obtain ⟨c1, c2, c3⟩ := h.2.2.2.2.2 t ht
    cases hr : (C.2.2.2 t).1 with
    | none =>
      rw [hr] at c1
      have c1 : M.2.1 17 t = -1 := c1
      have h0 : v_judge C.1.1.A C.2.2.2 (nI t) i = -11 := by unfold v_judge; rw [if_pos hk, nI_clamp (by omega), hr]
      rw [h0]
      refine CT.of [some (.ref r), some (.int (nI t)), some (.int i), none] rfl (Nat.le_of_ble_eq_true rfl) pl_X7 trivial ?_
      refine px_iload_n dX7_judge_0 rfl ?_
      refine px_callS1 (ν := mX7_isList) lk_X7_236 st_X7_isList mok_X7_isList dX7_judge_1 (cr_isList _) rfl rfl (by omega) (by simp) ?_
      refine px_ifb_ne (tgt := 9) dX7_judge_4 (by decide) (fun hc4 => ?_) (fun hc4 => ?_)
      · refine px_aload_n dX7_judge_9 rfl ?_
        refine mx_get fl_X7_88 dX7_judge_10 rfl ?_
        refine px_iload_n dX7_judge_13 rfl ?_
        refine mx_iaload (j := 17) (m := 4) (q := t) dX7_judge_14 (by decide) (by first | rfl | (simp (disch := omega) only [li0, li1, li2, li3, li5, li6, li8, li9, li10, li12, li13, li16, li20, li24, li25, li100, li408, li424, li824, nI_add, nI_mul, nI_sub]; first | done | rfl | (congr 1; omega))) (by omega) ?_
        rw [c1]
        refine px_if_ge (tgt := 21) dX7_judge_15 (by decide) (fun hc15 => ?_) (fun hc15 => ?_)
        · exact absurd hc15 (by decide)
        · refine px_bipush (v := (-11)) dX7_judge_18 (by decide) ?_
          exact px_reti dX7_judge_20 (by rfl) (by rfl)
      · rw [hk] at hc4; cases hc4
    | some s =>
      rw [hr] at c1 c2
      have c1 : M.2.1 17 t = nI s := c1
      have c2 : s ≤ 20 := c2
      have h0 : v_judge C.1.1.A C.2.2.2 (nI t) i = aJ C.1.1.A s (C.2.2.2 t).2 i 16 := by unfold v_judge; rw [if_pos hk, nI_clamp (by omega), hr]
      rw [h0]
      by_cases hi : i < 0
      · have e : aJ C.1.1.A s (C.2.2.2 t).2 i 16 = 100 + nI 0 := by
          rw [aJ, if_neg]
          show ¬ r_has (nI s) (i + nI (15 - 15)) = true
          rw [show nI (15 - 15) = 0 from rfl, Int32.add_zero]
          unfold r_has
          rw [decide_eq_true hi]
          simp
        rw [e]
        refine CT.of [some (.ref r), some (.int (nI t)), some (.int i), none] rfl (Nat.le_of_ble_eq_true rfl) pl_X7 trivial ?_
        refine px_iload_n dX7_judge_0 rfl ?_
        refine px_callS1 (ν := mX7_isList) lk_X7_236 st_X7_isList mok_X7_isList dX7_judge_1 (cr_isList _) rfl rfl (by omega) (by simp) ?_
        refine px_ifb_ne (tgt := 9) dX7_judge_4 (by decide) (fun hc4 => ?_) (fun hc4 => ?_)
        · refine px_aload_n dX7_judge_9 rfl ?_
          refine mx_get fl_X7_88 dX7_judge_10 rfl ?_
          refine px_iload_n dX7_judge_13 rfl ?_
          refine mx_iaload (j := 17) (m := 4) (q := t) dX7_judge_14 (by decide) (by first | rfl | (simp (disch := omega) only [li0, li1, li2, li3, li5, li6, li8, li9, li10, li12, li13, li16, li20, li24, li25, li100, li408, li424, li824, nI_add, nI_mul, nI_sub]; first | done | rfl | (congr 1; omega))) (by omega) ?_
          rw [c1]
          refine px_if_ge (tgt := 21) dX7_judge_15 (by decide) (fun hc15 => ?_) (fun hc15 => ?_)
          · refine px_iconst (v := 0) dX7_judge_21 (by decide) ?_
            refine px_istore3 rfl dX7_judge_22 ?_
            refine px_iload_n dX7_judge_23 rfl ?_
            refine px_bipush (v := 16) dX7_judge_24 (by decide) ?_
            refine px_icmp_ge (tgt := 94) dX7_judge_26 (by decide) (fun hc26 => ?_) (fun hc26 => ?_)
            · exact absurd hc26 (by decide)
            · refine px_iload_n dX7_judge_29 rfl ?_
              refine px_if_lt (tgt := 49) dX7_judge_30 (by decide) (fun hc30 => ?_) (fun hc30 => ?_)
              · refine px_bipush (v := 100) dX7_judge_49 (by decide) ?_
                refine px_iload_n dX7_judge_51 rfl ?_
                refine px_iadd dX7_judge_52 ?_
                exact px_reti dX7_judge_53 (by rfl) (by rfl)
              · exact absurd hi hc30
          · exact absurd (nI_pos' (by omega)) hc15
        · rw [hk] at hc4; cases hc4
      · obtain ⟨j, hj, rfl⟩ := nI_of hi
        refine CT.of [some (.ref r), some (.int (nI t)), some (.int (nI j)), none] rfl (Nat.le_of_ble_eq_true rfl) pl_X7 trivial ?_
        refine px_iload_n dX7_judge_0 rfl ?_
        refine px_callS1 (ν := mX7_isList) lk_X7_236 st_X7_isList mok_X7_isList dX7_judge_1 (cr_isList _) rfl rfl (by omega) (by simp) ?_
        refine px_ifb_ne (tgt := 9) dX7_judge_4 (by decide) (fun hc4 => ?_) (fun hc4 => ?_)
        · refine px_aload_n dX7_judge_9 rfl ?_
          refine mx_get fl_X7_88 dX7_judge_10 rfl ?_
          refine px_iload_n dX7_judge_13 rfl ?_
          refine mx_iaload (j := 17) (m := 4) (q := t) dX7_judge_14 (by decide) (by first | rfl | (simp (disch := omega) only [li0, li1, li2, li3, li5, li6, li8, li9, li10, li12, li13, li16, li20, li24, li25, li100, li408, li424, li824, nI_add, nI_mul, nI_sub]; first | done | rfl | (congr 1; omega))) (by omega) ?_
          rw [c1]
          refine px_if_ge (tgt := 21) dX7_judge_15 (by decide) (fun hc15 => ?_) (fun hc15 => ?_)
          · refine px_iconst (v := 0) dX7_judge_21 (by decide) ?_
            refine px_istore3 rfl dX7_judge_22 ?_
            exact l_X7_judge_23 (by omega) ht c2 hj h c1 c3 16 0 rfl
          · exact absurd (nI_pos' (by omega)) hc15
        · rw [hk] at hc4; cases hc4
  · have h0 : v_judge C.1.1.A C.2.2.2 k i = -1 := by unfold v_judge; rw [if_neg hk]
    rw [h0]
    refine CT.of [some (.ref r), some (.int k), some (.int i), none] rfl (Nat.le_of_ble_eq_true rfl) pl_X7 trivial ?_
    refine px_iload_n dX7_judge_0 rfl ?_
    refine px_callS1 (ν := mX7_isList) lk_X7_236 st_X7_isList mok_X7_isList dX7_judge_1 (cr_isList _) rfl rfl (by omega) (by simp) ?_
    refine px_ifb_ne (tgt := 9) dX7_judge_4 (by decide) (fun hc4 => ?_) (fun hc4 => ?_)
    · exact absurd hc4 hk
    · refine px_iconst (v := (-1)) dX7_judge_7 (by decide) ?_
      exact px_reti dX7_judge_8 (by rfl) (by rfl)
theorem l_X7_lay_23 {A : AW} {d t s j : Nat} (hd : 2 ≤ d) (ht : t < 4) (hs : s ≤ 20) (hj : j < 2 ^ 31) : ∀ (k q : Nat) (M : MS) (P : Nat → Int64), q + k = 16 → Bk M bk → NS bk (M.2.1 5) A.rs → M.2.1 17 t = nI s → (∀ v, v < 20 → M.2.2 18 (20 * t + v) = P v) → ∃ g : Nat → Int64, EX B D d mX7_lay 23 [some (.ref r), some (.int (nI t)), some (.int (nI j)), some (.int (nI q))] [] (n, w, mH r f M) (some (.int (aL A s (nI j) k P).1)) (n, w, mH r f (M.setl 18 g)) ∧ (∀ v, v < 20 → g (20 * t + v) = (aL A s (nI j) k P).2 v) ∧ ∀ p, p < 20 * t ∨ 20 * t + 20 ≤ p → g p = M.2.2 18 p
  | 0, q, M, P, hq, hb, hS, c1, c3 => by
    have : q = 16 := by omega
    subst this
    refine ⟨M.2.2 18, ?_, c3, fun p _ => rfl⟩
    have e : M.setl 18 (M.2.2 18) = M := by unfold MS.setl; rw [up_id]
    rw [e]
    refine px_iload_n dX7_lay_23 rfl ?_
    refine px_bipush (v := 16) dX7_lay_24 (by decide) ?_
    refine px_icmp_ge (tgt := 86) dX7_lay_26 (by decide) (fun hc26 => ?_) (fun hc26 => ?_)
    · refine px_bipush (v := 16) dX7_lay_86 (by decide) ?_
      exact px_reti dX7_lay_88 (by rfl) (by rfl)
    · exact absurd (by decide) hc26
  | k + 1, q, M, P, hq, hb, hS, c1, c3 => by
    have e15 : 15 - k = q := by omega
    have hh := rhas_add hs hj (show q < 16 by omega)
    have hl := ladd_lt hj (show q < 16 by omega) hs
    have hge : ¬ (16 : Int32) ≤ nI q := nI_ge (a := q) (b := 16) (by omega) (by omega)
    rw [aL, e15, hh]
    by_cases hlt : j + q < s
    · rw [if_pos (decide_eq_true hlt), nI_add, nI_clamp (by omega)]
      obtain ⟨g, e1, e2, e3⟩ := l_X7_lay_23 (A := A) (d := d) hd ht hs hj k (q + 1) (M.setl 18 (va_up (M.2.2 18) (20 * t + j + q) (toldO (aHas A (8 + q))).toInt64)) (va_up P (j + q) (toldO (aHas A (8 + q))).toInt64) (by omega) hb hS c1 (fun v hv => by
        rw [setl_self]
        by_cases e : v = j + q
        · subst e; rw [show 20 * t + (j + q) = 20 * t + j + q by omega, va_up_self, va_up_self]
        · rw [va_up_ne _ _ (by omega), va_up_ne _ _ e]; exact c3 v hv)
      have es : (M.setl 18 (va_up (M.2.2 18) (20 * t + j + q) (toldO (aHas A (8 + q))).toInt64)).setl 18 g = M.setl 18 g := by unfold MS.setl; simp only [bx_uu]
      rw [setl_self] at e3
      rw [es] at e1
      refine ⟨g, ?_, e2, fun p hp => by rw [e3 p hp, va_up_ne _ _ (by omega)]⟩
      refine px_iload_n dX7_lay_23 rfl ?_
      refine px_bipush (v := 16) dX7_lay_24 (by decide) ?_
      refine px_icmp_ge (tgt := 86) dX7_lay_26 (by decide) (fun hc26 => ?_) (fun hc26 => ?_)
      · exact absurd hc26 hge
      · refine px_iload_n dX7_lay_29 rfl ?_
        refine px_if_lt (tgt := 49) dX7_lay_30 (by decide) (fun hc30 => ?_) (fun hc30 => ?_)
        · exact absurd hc30 (nI_pos hj)
        · refine px_iload_n dX7_lay_33 rfl ?_
          refine px_i2l dX7_lay_34 ?_
          refine px_iload_n dX7_lay_35 rfl ?_
          refine px_i2l dX7_lay_36 ?_
          refine px_ladd dX7_lay_37 ?_
          refine px_aload_n dX7_lay_38 rfl ?_
          refine mx_get fl_X7_88 dX7_lay_39 rfl ?_
          refine px_iload_n dX7_lay_42 rfl ?_
          refine mx_iaload (j := 17) (m := 4) (q := t) dX7_lay_43 (by decide) (by first | rfl | (simp (disch := omega) only [li0, li1, li2, li3, li5, li6, li8, li9, li10, li12, li13, li16, li20, li24, li25, li100, li408, li424, li824, nI_add, nI_mul, nI_sub]; first | done | rfl | (congr 1; omega))) (by omega) ?_
          rw [c1]
          refine px_i2l dX7_lay_44 ?_
          refine px_l_lt (tgt := 52) dX7_lay_45 dX7_lay_46 (by decide) (fun hc46 => ?_) (fun hc46 => ?_)
          · refine px_aload_n dX7_lay_52 rfl ?_
            refine mx_get fl_X7_91 dX7_lay_53 rfl ?_
            refine px_bipush (v := 20) dX7_lay_56 (by decide) ?_
            refine px_iload_n dX7_lay_58 rfl ?_
            refine px_imul dX7_lay_59 ?_
            refine px_iload_n dX7_lay_60 rfl ?_
            refine px_iadd dX7_lay_61 ?_
            refine px_iload_n dX7_lay_62 rfl ?_
            refine px_iadd dX7_lay_63 ?_
            refine px_aload_n dX7_lay_64 rfl ?_
            refine px_aload_n dX7_lay_65 rfl ?_
            refine mx_get fl_X7_48 dX7_lay_66 rfl ?_
            refine px_sipush (v := 408) dX7_lay_69 (by decide) ?_
            refine px_iload_n dX7_lay_72 rfl ?_
            refine px_iadd dX7_lay_73 ?_
            refine mx_iaload (j := 5) (m := 824) (q := 408 + q) dX7_lay_74 (by decide) (by first | rfl | (simp (disch := omega) only [li0, li1, li2, li3, li5, li6, li8, li9, li10, li12, li13, li16, li20, li24, li25, li100, li408, li424, li824, nI_add, nI_mul, nI_sub]; first | done | rfl | (congr 1; omega))) (by omega) ?_
            refine px_callV1 (ν := mX7_toldOf) (ci := 7) rfl rfl lk_X7_211 in_X7_toldOf se_X7_toldOf mok_X7_toldOf dX7_lay_75 (told_c hS hb (by omega)) (by exact mH_0) rfl rfl (by omega) (by simp) ?_
            refine px_i2l dX7_lay_78 ?_
            refine mx_lastore (j := 18) (m := 80) (q := 20 * t + j + q) dX7_lay_79 (by decide) (by first | rfl | (simp (disch := omega) only [li0, li1, li2, li3, li5, li6, li8, li9, li10, li12, li13, li16, li20, li24, li25, li100, li408, li424, li824, nI_add, nI_mul, nI_sub]; first | done | rfl | (congr 1; omega))) (by omega) ?_
            refine px_iinc3 rfl (nI_inc q) dX7_lay_80 ?_
            refine px_goto (tgt := 23) dX7_lay_83 (by decide) ?_
            exact e1
          · exact absurd (hl.mpr hlt) hc46
    · rw [if_neg (by rw [decide_eq_false hlt]; decide)]
      refine ⟨M.2.2 18, ?_, c3, fun p _ => rfl⟩
      have e : M.setl 18 (M.2.2 18) = M := by unfold MS.setl; rw [up_id]
      rw [e]
      refine px_iload_n dX7_lay_23 rfl ?_
      refine px_bipush (v := 16) dX7_lay_24 (by decide) ?_
      refine px_icmp_ge (tgt := 86) dX7_lay_26 (by decide) (fun hc26 => ?_) (fun hc26 => ?_)
      · exact absurd hc26 hge
      · refine px_iload_n dX7_lay_29 rfl ?_
        refine px_if_lt (tgt := 49) dX7_lay_30 (by decide) (fun hc30 => ?_) (fun hc30 => ?_)
        · exact absurd hc30 (nI_pos hj)
        · refine px_iload_n dX7_lay_33 rfl ?_
          refine px_i2l dX7_lay_34 ?_
          refine px_iload_n dX7_lay_35 rfl ?_
          refine px_i2l dX7_lay_36 ?_
          refine px_ladd dX7_lay_37 ?_
          refine px_aload_n dX7_lay_38 rfl ?_
          refine mx_get fl_X7_88 dX7_lay_39 rfl ?_
          refine px_iload_n dX7_lay_42 rfl ?_
          refine mx_iaload (j := 17) (m := 4) (q := t) dX7_lay_43 (by decide) (by first | rfl | (simp (disch := omega) only [li0, li1, li2, li3, li5, li6, li8, li9, li10, li12, li13, li16, li20, li24, li25, li100, li408, li424, li824, nI_add, nI_mul, nI_sub]; first | done | rfl | (congr 1; omega))) (by omega) ?_
          rw [c1]
          refine px_i2l dX7_lay_44 ?_
          refine px_l_lt (tgt := 52) dX7_lay_45 dX7_lay_46 (by decide) (fun hc46 => ?_) (fun hc46 => ?_)
          · exact absurd (hl.mp hc46) hlt
          · refine px_bipush (v := (-13)) dX7_lay_49 (by decide) ?_
            exact px_reti dX7_lay_51 (by rfl) (by rfl)
theorem m_lay (h : RP bk M C) (k i : Int32) : RQ B D n w r f 50 mX7_lay [.int k, .int i] bk M (.int (v_lay C.1.1.A C.2.2.2 k i).1) (C.1, (C.2.1, (C.2.2.1, (v_lay C.1.1.A C.2.2.2 k i).2))) := by
  by_cases hk : s_isRow k = true
  · obtain ⟨t, ht, rfl⟩ := inR.mp hk
    obtain ⟨c1, c2, c3⟩ := h.2.2.2.2.2 t ht
    cases hr : (C.2.2.2 t).1 with
    | none =>
      rw [hr] at c1
      have c1 : M.2.1 17 t = -1 := c1
      have h0 : v_lay C.1.1.A C.2.2.2 (nI t) i = (-11, C.2.2.2) := by unfold v_lay; rw [if_pos hk, nI_clamp (by omega), hr]
      rw [h0]
      refine RQ.same h ?_
      refine CT.of [some (.ref r), some (.int (nI t)), some (.int i), none] rfl (Nat.le_of_ble_eq_true rfl) pl_X7 trivial ?_
      refine px_iload_n dX7_lay_0 rfl ?_
      refine px_callS1 (ν := mX7_isList) lk_X7_236 st_X7_isList mok_X7_isList dX7_lay_1 (cr_isList _) rfl rfl (by omega) (by simp) ?_
      refine px_ifb_ne (tgt := 9) dX7_lay_4 (by decide) (fun hc4 => ?_) (fun hc4 => ?_)
      · refine px_aload_n dX7_lay_9 rfl ?_
        refine mx_get fl_X7_88 dX7_lay_10 rfl ?_
        refine px_iload_n dX7_lay_13 rfl ?_
        refine mx_iaload (j := 17) (m := 4) (q := t) dX7_lay_14 (by decide) (by first | rfl | (simp (disch := omega) only [li0, li1, li2, li3, li5, li6, li8, li9, li10, li12, li13, li16, li20, li24, li25, li100, li408, li424, li824, nI_add, nI_mul, nI_sub]; first | done | rfl | (congr 1; omega))) (by omega) ?_
        rw [c1]
        refine px_if_ge (tgt := 21) dX7_lay_15 (by decide) (fun hc15 => ?_) (fun hc15 => ?_)
        · exact absurd hc15 (by decide)
        · refine px_bipush (v := (-11)) dX7_lay_18 (by decide) ?_
          exact px_reti dX7_lay_20 (by rfl) (by rfl)
      · rw [hk] at hc4; cases hc4
    | some s =>
      rw [hr] at c1 c2
      have c1 : M.2.1 17 t = nI s := c1
      have c2 : s ≤ 20 := c2
      have h0 : v_lay C.1.1.A C.2.2.2 (nI t) i = ((aL C.1.1.A s i 16 (C.2.2.2 t).2).1, va_up C.2.2.2 t (some s, (aL C.1.1.A s i 16 (C.2.2.2 t).2).2)) := by unfold v_lay; rw [if_pos hk, nI_clamp (by omega), hr]
      rw [h0]
      -- what the rows are then
      have hrows : ∀ g : Nat → Int64, (∀ v, v < 20 → g (20 * t + v) = (aL C.1.1.A s i 16 (C.2.2.2 t).2).2 v) → (∀ p, p < 20 * t ∨ 20 * t + 20 ≤ p → g p = M.2.2 18 p) → RLs (M.setl 18 g) (va_up C.2.2.2 t (some s, (aL C.1.1.A s i 16 (C.2.2.2 t).2).2)) := fun g g1 g2 u hu => by
        rw [setl_self]
        show M.2.1 17 u = _ ∧ _
        have hRi := h.2.2.2.2.2 u hu
        by_cases e : u = t
        · subst e
          rw [va_up_self]
          exact ⟨c1, c2, g1⟩
        · rw [va_up_ne _ _ e]
          refine ⟨hRi.1, hRi.2.1, fun v hv => ?_⟩
          rw [g2 _ (by omega)]
          exact hRi.2.2 v hv
      by_cases hi : i < 0
      · have e : aL C.1.1.A s i 16 (C.2.2.2 t).2 = (-13, (C.2.2.2 t).2) := by
          rw [aL, if_neg]
          show ¬ r_has (nI s) (i + nI (15 - 15)) = true
          rw [show nI (15 - 15) = 0 from rfl, Int32.add_zero]
          unfold r_has
          rw [decide_eq_true hi]
          simp
        have hr2 := hrows (M.2.2 18) (by rw [e]; exact c3) (fun _ _ => rfl)
        have em : M.setl 18 (M.2.2 18) = M := by unfold MS.setl; rw [up_id]
        rw [em] at hr2
        refine ⟨M, bk, ?_, h.rows rfl (fun _ _ => rfl) hr2, by omega⟩
        rw [e]
        refine CT.of [some (.ref r), some (.int (nI t)), some (.int i), none] rfl (Nat.le_of_ble_eq_true rfl) pl_X7 trivial ?_
        refine px_iload_n dX7_lay_0 rfl ?_
        refine px_callS1 (ν := mX7_isList) lk_X7_236 st_X7_isList mok_X7_isList dX7_lay_1 (cr_isList _) rfl rfl (by omega) (by simp) ?_
        refine px_ifb_ne (tgt := 9) dX7_lay_4 (by decide) (fun hc4 => ?_) (fun hc4 => ?_)
        · refine px_aload_n dX7_lay_9 rfl ?_
          refine mx_get fl_X7_88 dX7_lay_10 rfl ?_
          refine px_iload_n dX7_lay_13 rfl ?_
          refine mx_iaload (j := 17) (m := 4) (q := t) dX7_lay_14 (by decide) (by first | rfl | (simp (disch := omega) only [li0, li1, li2, li3, li5, li6, li8, li9, li10, li12, li13, li16, li20, li24, li25, li100, li408, li424, li824, nI_add, nI_mul, nI_sub]; first | done | rfl | (congr 1; omega))) (by omega) ?_
          rw [c1]
          refine px_if_ge (tgt := 21) dX7_lay_15 (by decide) (fun hc15 => ?_) (fun hc15 => ?_)
          · refine px_iconst (v := 0) dX7_lay_21 (by decide) ?_
            refine px_istore3 rfl dX7_lay_22 ?_
            refine px_iload_n dX7_lay_23 rfl ?_
            refine px_bipush (v := 16) dX7_lay_24 (by decide) ?_
            refine px_icmp_ge (tgt := 86) dX7_lay_26 (by decide) (fun hc26 => ?_) (fun hc26 => ?_)
            · exact absurd hc26 (by decide)
            · refine px_iload_n dX7_lay_29 rfl ?_
              refine px_if_lt (tgt := 49) dX7_lay_30 (by decide) (fun hc30 => ?_) (fun hc30 => ?_)
              · refine px_bipush (v := (-13)) dX7_lay_49 (by decide) ?_
                exact px_reti dX7_lay_51 (by rfl) (by rfl)
              · exact absurd hi hc30
          · exact absurd (nI_pos' (by omega)) hc15
        · rw [hk] at hc4; cases hc4
      · obtain ⟨j, hj, rfl⟩ := nI_of hi
        obtain ⟨g, e1, e2, e3⟩ := l_X7_lay_23 (B := B) (D := D) (n := n) (w := w) (r := r) (f := f) (A := C.1.1.A) (d := 50) (by omega) ht c2 hj 16 0 M (C.2.2.2 t).2 rfl h.1 h.2.1.1.2.2.1 c1 c3
        refine ⟨M.setl 18 g, bk, ?_, h.rows rfl (fun _ _ => rfl) (hrows g e2 e3), by omega⟩
        refine CT.of [some (.ref r), some (.int (nI t)), some (.int (nI j)), none] rfl (Nat.le_of_ble_eq_true rfl) pl_X7 trivial ?_
        refine px_iload_n dX7_lay_0 rfl ?_
        refine px_callS1 (ν := mX7_isList) lk_X7_236 st_X7_isList mok_X7_isList dX7_lay_1 (cr_isList _) rfl rfl (by omega) (by simp) ?_
        refine px_ifb_ne (tgt := 9) dX7_lay_4 (by decide) (fun hc4 => ?_) (fun hc4 => ?_)
        · refine px_aload_n dX7_lay_9 rfl ?_
          refine mx_get fl_X7_88 dX7_lay_10 rfl ?_
          refine px_iload_n dX7_lay_13 rfl ?_
          refine mx_iaload (j := 17) (m := 4) (q := t) dX7_lay_14 (by decide) (by first | rfl | (simp (disch := omega) only [li0, li1, li2, li3, li5, li6, li8, li9, li10, li12, li13, li16, li20, li24, li25, li100, li408, li424, li824, nI_add, nI_mul, nI_sub]; first | done | rfl | (congr 1; omega))) (by omega) ?_
          rw [c1]
          refine px_if_ge (tgt := 21) dX7_lay_15 (by decide) (fun hc15 => ?_) (fun hc15 => ?_)
          · refine px_iconst (v := 0) dX7_lay_21 (by decide) ?_
            refine px_istore3 rfl dX7_lay_22 ?_
            exact e1
          · exact absurd (nI_pos' (by omega)) hc15
        · rw [hk] at hc4; cases hc4
  · have h0 : v_lay C.1.1.A C.2.2.2 k i = (-1, C.2.2.2) := by unfold v_lay; rw [if_neg hk]
    rw [h0]
    refine RQ.same h ?_
    refine CT.of [some (.ref r), some (.int k), some (.int i), none] rfl (Nat.le_of_ble_eq_true rfl) pl_X7 trivial ?_
    refine px_iload_n dX7_lay_0 rfl ?_
    refine px_callS1 (ν := mX7_isList) lk_X7_236 st_X7_isList mok_X7_isList dX7_lay_1 (cr_isList _) rfl rfl (by omega) (by simp) ?_
    refine px_ifb_ne (tgt := 9) dX7_lay_4 (by decide) (fun hc4 => ?_) (fun hc4 => ?_)
    · exact absurd hc4 hk
    · refine px_iconst (v := (-1)) dX7_lay_7 (by decide) ?_
      exact px_reti dX7_lay_8 (by rfl) (by rfl)
end M73
