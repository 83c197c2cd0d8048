/-! the reference looks a TRACE through -/
def HR (B : Nat) (D : va_G) (dd F n w r : Nat) (f : Nat → Option va_E) : Prop := ∀ (S : BS) (t : Nat) (M : MS) (bk : BK) (X : Nat → Bool), t < 16 → BR bk X M S → S.dn (8 + t) = false → S.op (8 + t) = false → (∀ j, X j = true → S.op j = true) → 16 ≤ cd S.op + F → ne bk + 16 ≤ 8900 + cd S.dn →
  ∃ (M' : MS) (bk' : BK), CT B D dd mX7_builds [.ref r, .int (nI (8 + t))] (n, w, mH r f M) none (n, w, mH r f M') ∧ Po bk X M S bk' M' (aBuild F (8 + t) S) 0 ∧ (aBuild F (8 + t) S).dn (8 + t) = true
section M60
variable {B : Nat} {D : va_G} {n w r : Nat} {f : Nat → Option va_E} {X : Nat → Bool}
theorem BR.tr {bk M S} {t : Nat} {T : aAcc} (h : BR bk X M S) (ht : t < 16) (hX : X (8 + t) = false) (hT : S.A.tr (8 + t) = some T) : T.length ≤ 12 ∧ M.2.1 5 (424 + 25 * t) = nI T.length ∧ ∀ (i : Nat) (x : Nat × List Q4), T[i]? = some x → M.2.1 5 (424 + 25 * t + 1 + i) = nI x.1 ∧ x.1 < 24 ∧ x.2 ≠ [] ∧ Cd bk x.2 (M.2.1 5 (424 + 25 * t + 13 + i)) := by
  have := h.2.1.2.2.2 t ht hX
  rw [hT] at this
  exact this
theorem l_X7_isAsSeen_no {d t i : Nat} {M : MS} {L : Nat} (ht : t < 16) (hL : M.2.1 5 (424 + 25 * t) = nI L) {z5 : Option Value} : EX B D d mX7_isAsSeen 11 [some (.ref r), some (.int (nI (8 + t))), some (.int (nI (424 + 25 * t))), some (.int 0), some (.int (nI i)), z5] [] (n, w, mH r f M) (some (.int (bi false))) (n, w, mH r f M) := by
  refine px_iload dX7_isAsSeen_11 rfl ?_
  refine px_aload_n dX7_isAsSeen_13 rfl ?_
  refine mx_get fl_X7_48 dX7_isAsSeen_14 rfl ?_
  refine px_iload_n dX7_isAsSeen_17 rfl ?_
  refine mx_iaload (j := 5) (m := 824) (q := 424 + 25 * t) dX7_isAsSeen_18 (by decide) (by first | rfl | (simp (disch := omega) only [li0, li1, li2, li3, li5, li6, li8, li9, li10, li12, li13, li16, li20, li24, li25, li100, li408, li424, li824, nI_add, nI_mul, nI_sub]; first | done | rfl | (congr 1; omega))) (by omega) ?_
  refine px_icmp_ge (tgt := 119) dX7_isAsSeen_19 (by decide) (fun hc19 => ?_) (fun hc19 => ?_)
  · refine px_iload_n dX7_isAsSeen_119 rfl ?_
    exact px_reti dX7_isAsSeen_120 (by rfl) (by rfl)
  · refine px_iload_n dX7_isAsSeen_22 rfl ?_
    refine px_if_eq (tgt := 119) dX7_isAsSeen_23 (by decide) (fun hc23 => ?_) (fun hc23 => ?_)
    · refine px_iload_n dX7_isAsSeen_119 rfl ?_
      exact px_reti dX7_isAsSeen_120 (by rfl) (by rfl)
    · exact absurd rfl hc23
theorem l_X7_isAsSeen_11 {dd F d t : Nat} (hdd : 3 ≤ dd) (hd : dd + 1 ≤ d) (hH : HR B D dd F n w r f) (ht : t < 16) (hX0 : X (8 + t) = false) {T : aAcc} : ∀ (U : aAcc) (i : Nat) (S : BS) (M : MS) (bk : BK) (z5 : Option Value), T.drop i = U → i ≤ T.length → BR bk X M S → S.A.tr (8 + t) = some T → S.op (8 + t) = true → (∀ j, X j = true → S.op j = true) → 16 ≤ cd S.op + F → ne bk + 16 ≤ 8900 + cd S.dn →
    ∃ (M' : MS) (bk' : BK), EX B D d mX7_isAsSeen 11 [some (.ref r), some (.int (nI (8 + t))), some (.int (nI (424 + 25 * t))), some (.int 1), some (.int (nI i)), z5] [] (n, w, mH r f M) (some (.int (bi (aLook (aBuild F) U S).2))) (n, w, mH r f M') ∧ Po bk X M S bk' M' (aLook (aBuild F) U S).1 0 ∧ ((aLook (aBuild F) U S).2 = true → ∀ x, x ∈ U → 8 ≤ x.1 → (aLook (aBuild F) U S).1.dn x.1 = true)
  | [], i, S, M, bk, z5, hU, hi, hB, hT, hop, hX, hF, hcap => by
    have hi2 : i = T.length := by have := List.drop_eq_nil_iff.mp hU; omega
    subst hi2
    obtain ⟨t1, t2, t3⟩ := hB.tr ht hX0 hT
    refine ⟨M, bk, ?_, Po.rf hB, fun _ x hx => by cases hx⟩
    refine px_iload dX7_isAsSeen_11 rfl ?_
    refine px_aload_n dX7_isAsSeen_13 rfl ?_
    refine mx_get fl_X7_48 dX7_isAsSeen_14 rfl ?_
    refine px_iload_n dX7_isAsSeen_17 rfl ?_
    refine mx_iaload (j := 5) (m := 824) (q := 424 + 25 * t) dX7_isAsSeen_18 (by decide) (by first | rfl | (simp (disch := omega) only [li0, li1, li2, li3, li5, li6, li8, li9, li10, li12, li13, li16, li20, li24, li25, li100, li408, li424, li824, nI_add, nI_mul, nI_sub]; first | done | rfl | (congr 1; omega))) (by omega) ?_
    refine px_icmp_ge (tgt := 119) dX7_isAsSeen_19 (by decide) (fun hc19 => ?_) (fun hc19 => ?_)
    · refine px_iload_n dX7_isAsSeen_119 rfl ?_
      exact px_reti dX7_isAsSeen_120 (by rfl) (by rfl)
    · exact absurd (by rw [t2]; exact Int32.le_refl _) hc19
  | (k, res) :: U, i, S, M, bk, z5, hU, hi, hB, hT, hop, hX, hF, hcap => by
    obtain ⟨t1, t2, t3⟩ := hB.tr ht hX0 hT
    have hx : T[i]? = some (k, res) := by have := congrArg List.head? hU; rwa [List.head?_drop] at this
    have hi2 : i < T.length := (List.getElem?_eq_some_iff.mp hx).1
    have hge : ¬ M.2.1 5 (424 + 25 * t) ≤ nI i := by rw [t2]; exact nI_ge hi2 (by omega)
    obtain ⟨x1, x2, x3, x4⟩ := t3 i _ hx
    have x1 : M.2.1 5 (424 + 25 * t + 1 + i) = nI k := x1
    have x2 : k < 24 := x2
    have hU2 : T.drop (i + 1) = U := by rw [← List.drop_drop, hU]; rfl
    by_cases hko : 8 ≤ k ∧ S.op k = true
    · have ha : aLook (aBuild F) ((k, res) :: U) S = (S, false) := by rw [aLook, if_pos hko]
      rw [ha]
      obtain ⟨u, hu, rfl⟩ : ∃ u, u < 16 ∧ k = 8 + u := ⟨k - 8, by omega, by omega⟩
      have h10 : ¬ M.2.1 10 (8 + u) = 0 := by rw [(hB.2.2.1.1 u hu).2, hko.2]; decide
      refine ⟨M, bk, ?_, Po.rf hB, fun h => by cases h⟩
      refine px_iload dX7_isAsSeen_11 rfl ?_
      refine px_aload_n dX7_isAsSeen_13 rfl ?_
      refine mx_get fl_X7_48 dX7_isAsSeen_14 rfl ?_
      refine px_iload_n dX7_isAsSeen_17 rfl ?_
      refine mx_iaload (j := 5) (m := 824) (q := 424 + 25 * t) dX7_isAsSeen_18 (by decide) (by first | rfl | (simp (disch := omega) only [li0, li1, li2, li3, li5, li6, li8, li9, li10, li12, li13, li16, li20, li24, li25, li100, li408, li424, li824, nI_add, nI_mul, nI_sub]; first | done | rfl | (congr 1; omega))) (by omega) ?_
      refine px_icmp_ge (tgt := 119) dX7_isAsSeen_19 (by decide) (fun hc19 => ?_) (fun hc19 => ?_)
      · exact absurd hc19 hge
      · refine px_iload_n dX7_isAsSeen_22 rfl ?_
        refine px_if_eq (tgt := 119) dX7_isAsSeen_23 (by decide) (fun hc23 => ?_) (fun hc23 => ?_)
        · exact absurd hc23 (by decide)
        · refine px_aload_n dX7_isAsSeen_26 rfl ?_
          refine mx_get fl_X7_48 dX7_isAsSeen_27 rfl ?_
          refine px_iload_n dX7_isAsSeen_30 rfl ?_
          refine px_iconst (v := 1) dX7_isAsSeen_31 (by decide) ?_
          refine px_iadd dX7_isAsSeen_32 ?_
          refine px_iload dX7_isAsSeen_33 rfl ?_
          refine px_iadd dX7_isAsSeen_35 ?_
          refine mx_iaload (j := 5) (m := 824) (q := 424 + 25 * t + 1 + i) dX7_isAsSeen_36 (by decide) (by first | rfl | (simp (disch := omega) only [li0, li1, li2, li3, li5, li6, li8, li9, li10, li12, li13, li16, li20, li24, li25, li100, li408, li424, li824, nI_add, nI_mul, nI_sub]; first | done | rfl | (congr 1; omega))) (by omega) ?_
          rw [x1]
          refine px_istore5 rfl dX7_isAsSeen_37 ?_
          refine px_iload dX7_isAsSeen_39 rfl ?_
          refine px_callS1 (ν := mX7_isInput) lk_X7_108 st_X7_isInput mok_X7_isInput dX7_isAsSeen_41 (cr_isInput _) rfl rfl (by omega) (by simp) ?_
          refine px_ifb_ne (tgt := 57) dX7_isAsSeen_44 (by decide) (fun hc44 => ?_) (fun hc44 => ?_)
          · rw [inI_t hu] at hc44; cases hc44
          · refine px_aload_n dX7_isAsSeen_47 rfl ?_
            refine mx_get fl_X7_64 dX7_isAsSeen_48 rfl ?_
            refine px_iload dX7_isAsSeen_51 rfl ?_
            refine mx_baload (j := 10) (m := 24) (q := 8 + u) dX7_isAsSeen_53 (by decide) (by first | rfl | (simp (disch := omega) only [li0, li1, li2, li3, li5, li6, li8, li9, li10, li12, li13, li16, li20, li24, li25, li100, li408, li424, li824, nI_add, nI_mul, nI_sub]; first | done | rfl | (congr 1; omega))) (by omega) ?_
            refine px_if_ne (tgt := 61) dX7_isAsSeen_54 (by decide) (fun hc54 => ?_) (fun hc54 => ?_)
            · refine px_iconst (v := 0) dX7_isAsSeen_61 (by decide) ?_
              refine px_istore3 rfl dX7_isAsSeen_62 ?_
              refine px_iload_n dX7_isAsSeen_63 rfl ?_
              refine px_if_eq (tgt := 82) dX7_isAsSeen_64 (by decide) (fun hc64 => ?_) (fun hc64 => ?_)
              · refine px_iload_n dX7_isAsSeen_82 rfl ?_
                refine px_if_eq (tgt := 111) dX7_isAsSeen_83 (by decide) (fun hc83 => ?_) (fun hc83 => ?_)
                · refine px_iconst (v := 0) dX7_isAsSeen_111 (by decide) ?_
                  refine px_istore3 rfl dX7_isAsSeen_112 ?_
                  refine px_iinc4 rfl (nI_inc i) dX7_isAsSeen_113 ?_
                  refine px_goto (tgt := 11) dX7_isAsSeen_116 (by decide) ?_
                  exact l_X7_isAsSeen_no ht t2
                · exact absurd rfl hc83
              · exact absurd rfl hc64
            · exact absurd hc54 h10
    · have hN : Kp S (aNeed (aBuild F) k S) := Kp_need (Kp_build F) k S
      have ha : aLook (aBuild F) ((k, res) :: U) S = if oSame (aHas (aNeed (aBuild F) k S).A k) (some res) = true then aLook (aBuild F) U (aNeed (aBuild F) k S) else (aNeed (aBuild F) k S, false) := by rw [aLook, if_neg hko]
      rw [ha]
      have h10 : 8 ≤ k → M.2.1 10 k = 0 := fun h8 => by
        obtain ⟨u, hu, rfl⟩ : ∃ u, u < 16 ∧ k = 8 + u := ⟨k - 8, by omega, by omega⟩
        rw [(hB.2.2.1.1 u hu).2]
        cases h : S.op (8 + u) with
        | true => exact absurd ⟨by omega, h⟩ hko
        | false => rfl
      generalize hS1 : aNeed (aBuild F) k S = S1 at hN ⊢
      have hT1 : S1.A.tr (8 + t) = some T := by rw [(hN.2.2.2.1 _ hop).1]; exact hT
      have hop1 : S1.op (8 + t) = true := by rw [hN.1]; exact hop
      -- from pc 82 on
      have key : ∀ (M1 : MS) (bk1 : BK), Po bk X M S bk1 M1 S1 0 → (8 ≤ k → S1.dn k = true) → ∃ (M' : MS) (bk' : BK), EX B D d mX7_isAsSeen 82 [some (.ref r), some (.int (nI (8 + t))), some (.int (nI (424 + 25 * t))), some (.int 1), some (.int (nI i)), some (.int (nI k))] [] (n, w, mH r f M1) (some (.int (bi (if oSame (aHas S1.A k) (some res) = true then aLook (aBuild F) U S1 else (S1, false)).2))) (n, w, mH r f M') ∧ Po bk X M S bk' M' (if oSame (aHas S1.A k) (some res) = true then aLook (aBuild F) U S1 else (S1, false)).1 0 ∧ ((if oSame (aHas S1.A k) (some res) = true then aLook (aBuild F) U S1 else (S1, false)).2 = true → ∀ x, x ∈ (k, res) :: U → 8 ≤ x.1 → (if oSame (aHas S1.A k) (some res) = true then aLook (aBuild F) U S1 else (S1, false)).1.dn x.1 = true) := fun M1 bk1 hP hkd => by
        have hB1 := hP.1
        have hcap1 : ne bk1 + 16 ≤ 8900 + cd S1.dn := by have := hP.2.2.2.1; omega
        have hcd := cdN_le 16 S1.dn
        obtain ⟨M2, bk2, y, c1, c2, c3⟩ := c_X7_has (B := B) (D := D) (n := n) (w := w) (r := r) (f := f) hB1.1 (by unfold cd at hcap1; omega) hB1.2.1.1 hB1.2.1.2.2.1 x2
        have hP2 := hP.tra (c2.po hB1) (Nat.le_refl _)
        have hB2 := hP2.1
        obtain ⟨u1, u2, u3⟩ := hB2.tr ht hX0 hT1
        obtain ⟨v1, v2, v3, v4⟩ := u3 i _ hx
        have hsame := same_iff c2.1.2.2.1 c3 v3 v4
        have hcap2 : ne bk2 + 16 ≤ 8900 + cd S1.dn := by have := c2.2.2.2; omega
        cases hs : oSame (aHas S1.A k) (some res) with
        | true =>
          rw [hs] at hsame
          have heq : y = M2.2.1 5 (424 + 25 * t + 13 + i) := hsame.mpr rfl
          obtain ⟨M', bk', e1, e2, e3⟩ := l_X7_isAsSeen_11 hdd hd hH ht hX0 U (i + 1) S1 M2 bk2 (some (.int (nI k))) hU2 (by omega) hB2 hT1 hop1 (fun j hj => by rw [hN.1]; exact hX j hj) (by rw [hN.1]; exact hF) hcap2
          refine ⟨M', bk', ?_, hP2.tra e2 (Nat.le_refl _), fun h x hx h8 => ?_⟩
          · rw [if_pos rfl]
            refine px_iload_n dX7_isAsSeen_82 rfl ?_
            refine px_if_eq (tgt := 111) dX7_isAsSeen_83 (by decide) (fun hc83 => ?_) (fun hc83 => ?_)
            · exact absurd hc83 (by decide)
            · refine px_aload_n dX7_isAsSeen_86 rfl ?_
              refine px_iload dX7_isAsSeen_87 rfl ?_
              refine px_callV1 (ν := mX7_has) (ci := 7) rfl rfl lk_X7_156 in_X7_has se_X7_has mok_X7_has dX7_isAsSeen_89 (c1) (by exact mH_0) rfl rfl (by omega) (by simp) ?_
              refine px_aload_n dX7_isAsSeen_92 rfl ?_
              refine mx_get fl_X7_48 dX7_isAsSeen_93 rfl ?_
              refine px_iload_n dX7_isAsSeen_96 rfl ?_
              refine px_bipush (v := 13) dX7_isAsSeen_97 (by decide) ?_
              refine px_iadd dX7_isAsSeen_99 ?_
              refine px_iload dX7_isAsSeen_100 rfl ?_
              refine px_iadd dX7_isAsSeen_102 ?_
              refine mx_iaload (j := 5) (m := 824) (q := 424 + 25 * t + 13 + i) dX7_isAsSeen_103 (by decide) (by first | rfl | (simp (disch := omega) only [li0, li1, li2, li3, li5, li6, li8, li9, li10, li12, li13, li16, li20, li24, li25, li100, li408, li424, li824, nI_add, nI_mul, nI_sub]; first | done | rfl | (congr 1; omega))) (by omega) ?_
              refine px_icmp_ne (tgt := 111) dX7_isAsSeen_104 (by decide) (fun hc104 => ?_) (fun hc104 => ?_)
              · exact absurd heq hc104
              · refine px_iconst (v := 1) dX7_isAsSeen_107 (by decide) ?_
                refine px_goto (tgt := 112) dX7_isAsSeen_108 (by decide) ?_
                refine px_istore3 rfl dX7_isAsSeen_112 ?_
                refine px_iinc4 rfl (nI_inc i) dX7_isAsSeen_113 ?_
                refine px_goto (tgt := 11) dX7_isAsSeen_116 (by decide) ?_
                exact e1
          · rw [if_pos rfl] at h ⊢
            rcases List.mem_cons.mp hx with hx | hx
            · subst hx
              exact e2.2.2.2.2 _ (hkd h8)
            · exact e3 h x hx h8
        | false =>
          rw [hs] at hsame
          have hne : ¬ y = M2.2.1 5 (424 + 25 * t + 13 + i) := fun e => by cases hsame.mp e
          refine ⟨M2, bk2, ?_, hP2, fun h => by rw [if_neg (by decide)] at h; cases h⟩
          rw [if_neg (by decide)]
          refine px_iload_n dX7_isAsSeen_82 rfl ?_
          refine px_if_eq (tgt := 111) dX7_isAsSeen_83 (by decide) (fun hc83 => ?_) (fun hc83 => ?_)
          · exact absurd hc83 (by decide)
          · refine px_aload_n dX7_isAsSeen_86 rfl ?_
            refine px_iload dX7_isAsSeen_87 rfl ?_
            refine px_callV1 (ν := mX7_has) (ci := 7) rfl rfl lk_X7_156 in_X7_has se_X7_has mok_X7_has dX7_isAsSeen_89 (c1) (by exact mH_0) rfl rfl (by omega) (by simp) ?_
            refine px_aload_n dX7_isAsSeen_92 rfl ?_
            refine mx_get fl_X7_48 dX7_isAsSeen_93 rfl ?_
            refine px_iload_n dX7_isAsSeen_96 rfl ?_
            refine px_bipush (v := 13) dX7_isAsSeen_97 (by decide) ?_
            refine px_iadd dX7_isAsSeen_99 ?_
            refine px_iload dX7_isAsSeen_100 rfl ?_
            refine px_iadd dX7_isAsSeen_102 ?_
            refine mx_iaload (j := 5) (m := 824) (q := 424 + 25 * t + 13 + i) dX7_isAsSeen_103 (by decide) (by first | rfl | (simp (disch := omega) only [li0, li1, li2, li3, li5, li6, li8, li9, li10, li12, li13, li16, li20, li24, li25, li100, li408, li424, li824, nI_add, nI_mul, nI_sub]; first | done | rfl | (congr 1; omega))) (by omega) ?_
            refine px_icmp_ne (tgt := 111) dX7_isAsSeen_104 (by decide) (fun hc104 => ?_) (fun hc104 => ?_)
            · refine px_iconst (v := 0) dX7_isAsSeen_111 (by decide) ?_
              refine px_istore3 rfl dX7_isAsSeen_112 ?_
              refine px_iinc4 rfl (nI_inc i) dX7_isAsSeen_113 ?_
              refine px_goto (tgt := 11) dX7_isAsSeen_116 (by decide) ?_
              exact l_X7_isAsSeen_no ht u2
            · exact absurd hc104 hne
      by_cases hbd : 8 ≤ k ∧ S.dn k = false
      · obtain ⟨u, hu, rfl⟩ : ∃ u, u < 16 ∧ k = 8 + u := ⟨k - 8, by omega, by omega⟩
        have hopf : S.op (8 + u) = false := by cases h : S.op (8 + u) with
          | false => rfl
          | true => exact absurd ⟨hbd.1, h⟩ hko
        have hne : aNeed (aBuild F) (8 + u) S = aBuild F (8 + u) S := by unfold aNeed; rw [if_pos ⟨hbd.1, hbd.2, hopf⟩]
        rw [hne] at hS1
        obtain ⟨M1, bk1, hC, hP, hdn⟩ := hH S u M bk X hu hB hbd.2 hopf hX hF hcap
        rw [hS1] at hP hdn
        obtain ⟨M', bk', e1, e2, e3⟩ := key M1 bk1 hP (fun _ => hdn)
        refine ⟨M', bk', ?_, e2, e3⟩
        have h9 : M.2.1 9 (8 + u) = 0 := by rw [(hB.2.2.1.1 u hu).1, hbd.2]; rfl
        refine px_iload dX7_isAsSeen_11 rfl ?_
        refine px_aload_n dX7_isAsSeen_13 rfl ?_
        refine mx_get fl_X7_48 dX7_isAsSeen_14 rfl ?_
        refine px_iload_n dX7_isAsSeen_17 rfl ?_
        refine mx_iaload (j := 5) (m := 824) (q := 424 + 25 * t) dX7_isAsSeen_18 (by decide) (by first | rfl | (simp (disch := omega) only [li0, li1, li2, li3, li5, li6, li8, li9, li10, li12, li13, li16, li20, li24, li25, li100, li408, li424, li824, nI_add, nI_mul, nI_sub]; first | done | rfl | (congr 1; omega))) (by omega) ?_
        refine px_icmp_ge (tgt := 119) dX7_isAsSeen_19 (by decide) (fun hc19 => ?_) (fun hc19 => ?_)
        · exact absurd hc19 hge
        · refine px_iload_n dX7_isAsSeen_22 rfl ?_
          refine px_if_eq (tgt := 119) dX7_isAsSeen_23 (by decide) (fun hc23 => ?_) (fun hc23 => ?_)
          · exact absurd hc23 (by decide)
          · refine px_aload_n dX7_isAsSeen_26 rfl ?_
            refine mx_get fl_X7_48 dX7_isAsSeen_27 rfl ?_
            refine px_iload_n dX7_isAsSeen_30 rfl ?_
            refine px_iconst (v := 1) dX7_isAsSeen_31 (by decide) ?_
            refine px_iadd dX7_isAsSeen_32 ?_
            refine px_iload dX7_isAsSeen_33 rfl ?_
            refine px_iadd dX7_isAsSeen_35 ?_
            refine mx_iaload (j := 5) (m := 824) (q := 424 + 25 * t + 1 + i) dX7_isAsSeen_36 (by decide) (by first | rfl | (simp (disch := omega) only [li0, li1, li2, li3, li5, li6, li8, li9, li10, li12, li13, li16, li20, li24, li25, li100, li408, li424, li824, nI_add, nI_mul, nI_sub]; first | done | rfl | (congr 1; omega))) (by omega) ?_
            rw [x1]
            refine px_istore5 rfl dX7_isAsSeen_37 ?_
            refine px_iload dX7_isAsSeen_39 rfl ?_
            refine px_callS1 (ν := mX7_isInput) lk_X7_108 st_X7_isInput mok_X7_isInput dX7_isAsSeen_41 (cr_isInput _) rfl rfl (by omega) (by simp) ?_
            refine px_ifb_ne (tgt := 57) dX7_isAsSeen_44 (by decide) (fun hc44 => ?_) (fun hc44 => ?_)
            · rw [inI_t hu] at hc44; cases hc44
            · refine px_aload_n dX7_isAsSeen_47 rfl ?_
              refine mx_get fl_X7_64 dX7_isAsSeen_48 rfl ?_
              refine px_iload dX7_isAsSeen_51 rfl ?_
              refine mx_baload (j := 10) (m := 24) (q := 8 + u) dX7_isAsSeen_53 (by decide) (by first | rfl | (simp (disch := omega) only [li0, li1, li2, li3, li5, li6, li8, li9, li10, li12, li13, li16, li20, li24, li25, li100, li408, li424, li824, nI_add, nI_mul, nI_sub]; first | done | rfl | (congr 1; omega))) (by omega) ?_
              refine px_if_ne (tgt := 61) dX7_isAsSeen_54 (by decide) (fun hc54 => ?_) (fun hc54 => ?_)
              · exact absurd (h10 (by omega)) hc54
              · refine px_iconst (v := 1) dX7_isAsSeen_57 (by decide) ?_
                refine px_goto (tgt := 62) dX7_isAsSeen_58 (by decide) ?_
                refine px_istore3 rfl dX7_isAsSeen_62 ?_
                refine px_iload_n dX7_isAsSeen_63 rfl ?_
                refine px_if_eq (tgt := 82) dX7_isAsSeen_64 (by decide) (fun hc64 => ?_) (fun hc64 => ?_)
                · exact absurd hc64 (by decide)
                · refine px_aload_n dX7_isAsSeen_67 rfl ?_
                  refine px_iload dX7_isAsSeen_68 rfl ?_
                  refine px_callV1 (ν := mX7_isDone) (ci := 7) rfl rfl lk_X7_169 in_X7_isDone se_X7_isDone mok_X7_isDone dX7_isAsSeen_70 (c_X7_isDone x2) (by exact mH_0) rfl rfl (by omega) (by simp) ?_
                  refine px_ifb_ne (tgt := 82) dX7_isAsSeen_73 (by decide) (fun hc73 => ?_) (fun hc73 => ?_)
                  · rw [inI_t hu, h9] at hc73; cases hc73
                  · refine px_aload_n dX7_isAsSeen_76 rfl ?_
                    refine px_iload dX7_isAsSeen_77 rfl ?_
                    refine px_callV0 (ν := mX7_builds) (ci := 7) rfl rfl lk_X7_172 in_X7_builds se_X7_builds mok_X7_builds dX7_isAsSeen_79 (hC) (by exact mH_0) rfl rfl (by omega) (by simp) ?_
                    exact e1
      · have hne : aNeed (aBuild F) k S = S := by unfold aNeed; rw [if_neg (fun h => hbd ⟨h.1, h.2.1⟩)]
        rw [hne] at hS1
        subst hS1
        have hkd : 8 ≤ k → S.dn k = true := fun h8 => by
          cases h : S.dn k with
          | true => rfl
          | false => exact absurd ⟨h8, h⟩ hbd
        have hdone : (s_isInput (nI k) || !decide (M.2.1 9 k = 0)) = true := by
          by_cases h8 : k < 8
          · rw [inI_i h8]; rfl
          · obtain ⟨u, hu, rfl⟩ : ∃ u, u < 16 ∧ k = 8 + u := ⟨k - 8, by omega, by omega⟩
            rw [(hB.2.2.1.1 u hu).1, hkd (by omega)]
            simp [bi]
        have h8 : s_isInput (nI k) = false → 8 ≤ k := fun h => by
          rcases Nat.lt_or_ge k 8 with h2 | h2
          · rw [inI_i h2] at h; cases h
          · exact h2
        obtain ⟨M', bk', e1, e2, e3⟩ := key M bk (Po.rf hB) hkd
        refine ⟨M', bk', ?_, e2, e3⟩
        refine px_iload dX7_isAsSeen_11 rfl ?_
        refine px_aload_n dX7_isAsSeen_13 rfl ?_
        refine mx_get fl_X7_48 dX7_isAsSeen_14 rfl ?_
        refine px_iload_n dX7_isAsSeen_17 rfl ?_
        refine mx_iaload (j := 5) (m := 824) (q := 424 + 25 * t) dX7_isAsSeen_18 (by decide) (by first | rfl | (simp (disch := omega) only [li0, li1, li2, li3, li5, li6, li8, li9, li10, li12, li13, li16, li20, li24, li25, li100, li408, li424, li824, nI_add, nI_mul, nI_sub]; first | done | rfl | (congr 1; omega))) (by omega) ?_
        refine px_icmp_ge (tgt := 119) dX7_isAsSeen_19 (by decide) (fun hc19 => ?_) (fun hc19 => ?_)
        · exact absurd hc19 hge
        · refine px_iload_n dX7_isAsSeen_22 rfl ?_
          refine px_if_eq (tgt := 119) dX7_isAsSeen_23 (by decide) (fun hc23 => ?_) (fun hc23 => ?_)
          · exact absurd hc23 (by decide)
          · refine px_aload_n dX7_isAsSeen_26 rfl ?_
            refine mx_get fl_X7_48 dX7_isAsSeen_27 rfl ?_
            refine px_iload_n dX7_isAsSeen_30 rfl ?_
            refine px_iconst (v := 1) dX7_isAsSeen_31 (by decide) ?_
            refine px_iadd dX7_isAsSeen_32 ?_
            refine px_iload dX7_isAsSeen_33 rfl ?_
            refine px_iadd dX7_isAsSeen_35 ?_
            refine mx_iaload (j := 5) (m := 824) (q := 424 + 25 * t + 1 + i) dX7_isAsSeen_36 (by decide) (by first | rfl | (simp (disch := omega) only [li0, li1, li2, li3, li5, li6, li8, li9, li10, li12, li13, li16, li20, li24, li25, li100, li408, li424, li824, nI_add, nI_mul, nI_sub]; first | done | rfl | (congr 1; omega))) (by omega) ?_
            rw [x1]
            refine px_istore5 rfl dX7_isAsSeen_37 ?_
            refine px_iload dX7_isAsSeen_39 rfl ?_
            refine px_callS1 (ν := mX7_isInput) lk_X7_108 st_X7_isInput mok_X7_isInput dX7_isAsSeen_41 (cr_isInput _) rfl rfl (by omega) (by simp) ?_
            refine px_ifb_ne (tgt := 57) dX7_isAsSeen_44 (by decide) (fun hc44 => ?_) (fun hc44 => ?_)
            · refine px_iconst (v := 1) dX7_isAsSeen_57 (by decide) ?_
              refine px_goto (tgt := 62) dX7_isAsSeen_58 (by decide) ?_
              refine px_istore3 rfl dX7_isAsSeen_62 ?_
              refine px_iload_n dX7_isAsSeen_63 rfl ?_
              refine px_if_eq (tgt := 82) dX7_isAsSeen_64 (by decide) (fun hc64 => ?_) (fun hc64 => ?_)
              · exact absurd hc64 (by decide)
              · refine px_aload_n dX7_isAsSeen_67 rfl ?_
                refine px_iload dX7_isAsSeen_68 rfl ?_
                refine px_callV1 (ν := mX7_isDone) (ci := 7) rfl rfl lk_X7_169 in_X7_isDone se_X7_isDone mok_X7_isDone dX7_isAsSeen_70 (c_X7_isDone x2) (by exact mH_0) rfl rfl (by omega) (by simp) ?_
                refine px_ifb_ne (tgt := 82) dX7_isAsSeen_73 (by decide) (fun hc73 => ?_) (fun hc73 => ?_)
                · exact e1
                · rw [hdone] at hc73; cases hc73
            · refine px_aload_n dX7_isAsSeen_47 rfl ?_
              refine mx_get fl_X7_64 dX7_isAsSeen_48 rfl ?_
              refine px_iload dX7_isAsSeen_51 rfl ?_
              refine mx_baload (j := 10) (m := 24) (q := k) dX7_isAsSeen_53 (by decide) (by first | rfl | (simp (disch := omega) only [li0, li1, li2, li3, li5, li6, li8, li9, li10, li12, li13, li16, li20, li24, li25, li100, li408, li424, li824, nI_add, nI_mul, nI_sub]; first | done | rfl | (congr 1; omega))) (by exact x2) ?_
              refine px_if_ne (tgt := 61) dX7_isAsSeen_54 (by decide) (fun hc54 => ?_) (fun hc54 => ?_)
              · exact absurd (h10 (h8 hc44)) hc54
              · refine px_iconst (v := 1) dX7_isAsSeen_57 (by decide) ?_
                refine px_goto (tgt := 62) dX7_isAsSeen_58 (by decide) ?_
                refine px_istore3 rfl dX7_isAsSeen_62 ?_
                refine px_iload_n dX7_isAsSeen_63 rfl ?_
                refine px_if_eq (tgt := 82) dX7_isAsSeen_64 (by decide) (fun hc64 => ?_) (fun hc64 => ?_)
                · exact absurd hc64 (by decide)
                · refine px_aload_n dX7_isAsSeen_67 rfl ?_
                  refine px_iload dX7_isAsSeen_68 rfl ?_
                  refine px_callV1 (ν := mX7_isDone) (ci := 7) rfl rfl lk_X7_169 in_X7_isDone se_X7_isDone mok_X7_isDone dX7_isAsSeen_70 (c_X7_isDone x2) (by exact mH_0) rfl rfl (by omega) (by simp) ?_
                  refine px_ifb_ne (tgt := 82) dX7_isAsSeen_73 (by decide) (fun hc73 => ?_) (fun hc73 => ?_)
                  · exact e1
                  · rw [hdone] at hc73; cases hc73
theorem c_X7_isAsSeen {dd F d t : Nat} (hdd : 3 ≤ dd) (hd : dd + 1 ≤ d) (hH : HR B D dd F n w r f) (ht : t < 16) (hX0 : X (8 + t) = false) {T : aAcc} {S : BS} {M : MS} {bk : BK} (hB : BR bk X M S) (hT : S.A.tr (8 + t) = some T) (hop : S.op (8 + t) = true) (hX : ∀ j, X j = true → S.op j = true) (hF : 16 ≤ cd S.op + F) (hcap : ne bk + 16 ≤ 8900 + cd S.dn) :
    ∃ (M' : MS) (bk' : BK), CT B D d mX7_isAsSeen [.ref r, .int (nI (8 + t))] (n, w, mH r f M) (some (.int (bi (aLook (aBuild F) T S).2))) (n, w, mH r f M') ∧ Po bk X M S bk' M' (aLook (aBuild F) T S).1 0 ∧ ((aLook (aBuild F) T S).2 = true → ∀ x, x ∈ T → 8 ≤ x.1 → (aLook (aBuild F) T S).1.dn x.1 = true) := by
  obtain ⟨M', bk', e1, e2⟩ := l_X7_isAsSeen_11 hdd hd hH ht hX0 T 0 S M bk none rfl (Nat.zero_le _) hB hT hop hX hF hcap
  refine ⟨M', bk', ?_, e2⟩
  refine CT.of [some (.ref r), some (.int (nI (8 + t))), none, none, none, none] rfl (Nat.le_of_ble_eq_true rfl) pl_X7 (bi_01 _) ?_
  refine px_aload_n dX7_isAsSeen_0 rfl ?_
  refine px_iload_n dX7_isAsSeen_1 rfl ?_
  refine px_callV1 (ν := mX7_traceAt) (ci := 7) rfl rfl lk_X7_98 in_X7_traceAt se_X7_traceAt mok_X7_traceAt dX7_isAsSeen_2 (c_X7_traceAt ht) (by exact mH_0) rfl rfl (by omega) (by simp) ?_
  refine px_istore2 rfl dX7_isAsSeen_5 ?_
  refine px_iconst (v := 1) dX7_isAsSeen_6 (by decide) ?_
  refine px_istore3 rfl dX7_isAsSeen_7 ?_
  refine px_iconst (v := 0) dX7_isAsSeen_8 (by decide) ?_
  refine px_istore4 rfl dX7_isAsSeen_9 ?_
  exact e1
end M60
