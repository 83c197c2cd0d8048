/-! the law's calls, one by one -/
section M80
variable {B : Nat} {D : va_G} {b L : Nat} {xs : Nat → Int32} {e r N0 W0 q : Nat} {C : CS} {n w : Nat} {g : Nat → Option va_E} {M : MS} {bk : BK}

theorem w_seen (h : LI b L xs e r N0 W0 q C n w g M bk) (hq : q ≤ 511) (hL : 6 * q + 5 < L) (hL2 : L ≤ 3072) : ∃ (C' : CS) (n' w' : Nat) (G : Nat → Option va_E) (M' : MS) (bk' : BK), LI b L xs e r N0 W0 (q + 1) C' n' w' G M' bk' ∧ ∀ rr h1, EX B D 100 mL_law 18 [some (.ref b), some (.ref e), some (.ref r), some (.int (nI (6 * (q + 1))))] [] (n', w', mH r G M') rr h1 → EX B D 100 mL_law 678 [some (.ref b), some (.ref e), some (.ref r), some (.int (nI (6 * q)))] [] (n, w, mH r g M) rr h1 := by
  obtain ⟨n', w', G, M', bk', c1, c2, c3, s2, s3⟩ := h.two (B := B) (D := D) hq (look h.1 (c_X6_seen h.1.1 h.1.2.1.w (xs (nI (6 * q) + 1).toNatClampNeg) (xs (nI (6 * q) + 2).toNatClampNeg))) (fun n' w' G hcap => m_seen h.2.1 (xs (nI (6 * q) + 1).toNatClampNeg) (xs (nI (6 * q) + 2).toNatClampNeg))
  have s1 := h.2.2.2.2.1
  have he1 := h.1.1
  have hinc : nI (6 * q) + Int32.ofInt 6 = nI (6 * (q + 1)) := nI_add (6 * q) 6
  refine ⟨_, n', w', G, M', bk', c3, fun rr h1 hk => ?_⟩
  refine px_aload_n dL_law_678 rfl ?_
  refine px_aload_n dL_law_679 rfl ?_
  refine px_iload_n dL_law_680 rfl ?_
  refine px_iconst (v := 1) dL_law_681 (by decide) ?_
  refine px_iadd dL_law_682 ?_
  refine px_saload dL_law_683 s1 (ix_1 hL hL2) ?_
  refine px_aload_n dL_law_684 rfl ?_
  refine px_iload_n dL_law_685 rfl ?_
  refine px_iconst (v := 2) dL_law_686 (by decide) ?_
  refine px_iadd dL_law_687 ?_
  refine px_saload dL_law_688 s1 (ix_2 hL hL2) ?_
  refine px_callV1 (ν := mX6_seen) (ci := 6) rfl rfl lk_L_89 in_X6_seen se_X6_seen mok_X6_seen dL_law_689 (c1) he1 rfl rfl (by omega) (by simp) ?_
  refine px_aload_n dL_law_692 rfl ?_
  refine px_aload_n dL_law_693 rfl ?_
  refine px_iload_n dL_law_694 rfl ?_
  refine px_iconst (v := 1) dL_law_695 (by decide) ?_
  refine px_iadd dL_law_696 ?_
  refine px_saload dL_law_697 s2 (ix_1 hL hL2) ?_
  refine px_aload_n dL_law_698 rfl ?_
  refine px_iload_n dL_law_699 rfl ?_
  refine px_iconst (v := 2) dL_law_700 (by decide) ?_
  refine px_iadd dL_law_701 ?_
  refine px_saload dL_law_702 s2 (ix_2 hL hL2) ?_
  refine px_callV1 (ν := mX7_seen) (ci := 7) rfl rfl lk_L_92 in_X7_seen se_X7_seen mok_X7_seen dL_law_703 (c2) s3 rfl rfl (by omega) (by simp) ?_
  refine px_icmp_eq (tgt := 1147) dL_law_706 (by decide) (fun hc706 => ?_) (fun hc706 => ?_)
  · refine px_iinc3 rfl hinc dL_law_1147 ?_
    refine px_goto (tgt := 18) dL_law_1150 (by decide) ?_
    exact hk
  · exact absurd rfl hc706
theorem w_users (h : LI b L xs e r N0 W0 q C n w g M bk) (hq : q ≤ 511) (hL : 6 * q + 5 < L) (hL2 : L ≤ 3072) : ∃ (C' : CS) (n' w' : Nat) (G : Nat → Option va_E) (M' : MS) (bk' : BK), LI b L xs e r N0 W0 (q + 1) C' n' w' G M' bk' ∧ ∀ rr h1, EX B D 100 mL_law 18 [some (.ref b), some (.ref e), some (.ref r), some (.int (nI (6 * (q + 1))))] [] (n', w', mH r G M') rr h1 → EX B D 100 mL_law 711 [some (.ref b), some (.ref e), some (.ref r), some (.int (nI (6 * q)))] [] (n, w, mH r g M) rr h1 := by
  obtain ⟨n', w', G, M', bk', c1, c2, c3, s2, s3⟩ := h.two (B := B) (D := D) hq (look h.1 (c_X6_users h.1.1 h.1.2.1.w (xs (nI (6 * q) + 1).toNatClampNeg))) (fun n' w' G hcap => m_users h.2.1 (xs (nI (6 * q) + 1).toNatClampNeg))
  have s1 := h.2.2.2.2.1
  have he1 := h.1.1
  have hinc : nI (6 * q) + Int32.ofInt 6 = nI (6 * (q + 1)) := nI_add (6 * q) 6
  refine ⟨_, n', w', G, M', bk', c3, fun rr h1 hk => ?_⟩
  refine px_aload_n dL_law_711 rfl ?_
  refine px_aload_n dL_law_712 rfl ?_
  refine px_iload_n dL_law_713 rfl ?_
  refine px_iconst (v := 1) dL_law_714 (by decide) ?_
  refine px_iadd dL_law_715 ?_
  refine px_saload dL_law_716 s1 (ix_1 hL hL2) ?_
  refine px_callV1 (ν := mX6_users) (ci := 6) rfl rfl lk_L_93 in_X6_users se_X6_users mok_X6_users dL_law_717 (c1) he1 rfl rfl (by omega) (by simp) ?_
  refine px_aload_n dL_law_720 rfl ?_
  refine px_aload_n dL_law_721 rfl ?_
  refine px_iload_n dL_law_722 rfl ?_
  refine px_iconst (v := 1) dL_law_723 (by decide) ?_
  refine px_iadd dL_law_724 ?_
  refine px_saload dL_law_725 s2 (ix_1 hL hL2) ?_
  refine px_callV1 (ν := mX7_users) (ci := 7) rfl rfl lk_L_96 in_X7_users se_X7_users mok_X7_users dL_law_726 (c2) s3 rfl rfl (by omega) (by simp) ?_
  refine px_icmp_eq (tgt := 1147) dL_law_729 (by decide) (fun hc729 => ?_) (fun hc729 => ?_)
  · refine px_iinc3 rfl hinc dL_law_1147 ?_
    refine px_goto (tgt := 18) dL_law_1150 (by decide) ?_
    exact hk
  · exact absurd rfl hc729
theorem w_depth (h : LI b L xs e r N0 W0 q C n w g M bk) (hq : q ≤ 511) (hL : 6 * q + 5 < L) (hL2 : L ≤ 3072) : ∃ (C' : CS) (n' w' : Nat) (G : Nat → Option va_E) (M' : MS) (bk' : BK), LI b L xs e r N0 W0 (q + 1) C' n' w' G M' bk' ∧ ∀ rr h1, EX B D 100 mL_law 18 [some (.ref b), some (.ref e), some (.ref r), some (.int (nI (6 * (q + 1))))] [] (n', w', mH r G M') rr h1 → EX B D 100 mL_law 734 [some (.ref b), some (.ref e), some (.ref r), some (.int (nI (6 * q)))] [] (n, w, mH r g M) rr h1 := by
  obtain ⟨n', w', G, M', bk', c1, c2, c3, s2, s3⟩ := h.two (B := B) (D := D) hq (some3 (e_depth h.1 h.2.2.1 (WI.ok h.2.1.2.1.2).1 (WI.ok h.2.1.2.1.2).2 (xs (nI (6 * q) + 1).toNatClampNeg))) (fun n' w' G hcap => m_depth h.2.1 (xs (nI (6 * q) + 1).toNatClampNeg))
  have s1 := h.2.2.2.2.1
  have he1 := h.1.1
  have hinc : nI (6 * q) + Int32.ofInt 6 = nI (6 * (q + 1)) := nI_add (6 * q) 6
  refine ⟨_, n', w', G, M', bk', c3, fun rr h1 hk => ?_⟩
  refine px_aload_n dL_law_734 rfl ?_
  refine px_aload_n dL_law_735 rfl ?_
  refine px_iload_n dL_law_736 rfl ?_
  refine px_iconst (v := 1) dL_law_737 (by decide) ?_
  refine px_iadd dL_law_738 ?_
  refine px_saload dL_law_739 s1 (ix_1 hL hL2) ?_
  refine px_callV1 (ν := mX6_depth) (ci := 6) rfl rfl lk_L_97 in_X6_depth se_X6_depth mok_X6_depth dL_law_740 (c1) he1 rfl rfl (by omega) (by simp) ?_
  refine px_aload_n dL_law_743 rfl ?_
  refine px_aload_n dL_law_744 rfl ?_
  refine px_iload_n dL_law_745 rfl ?_
  refine px_iconst (v := 1) dL_law_746 (by decide) ?_
  refine px_iadd dL_law_747 ?_
  refine px_saload dL_law_748 s2 (ix_1 hL hL2) ?_
  refine px_callV1 (ν := mX7_depth) (ci := 7) rfl rfl lk_L_100 in_X7_depth se_X7_depth mok_X7_depth dL_law_749 (c2) s3 rfl rfl (by omega) (by simp) ?_
  refine px_icmp_eq (tgt := 1147) dL_law_752 (by decide) (fun hc752 => ?_) (fun hc752 => ?_)
  · refine px_iinc3 rfl hinc dL_law_1147 ?_
    refine px_goto (tgt := 18) dL_law_1150 (by decide) ?_
    exact hk
  · exact absurd rfl hc752
theorem w_order (h : LI b L xs e r N0 W0 q C n w g M bk) (hq : q ≤ 511) (hL : 6 * q + 5 < L) (hL2 : L ≤ 3072) : ∃ (C' : CS) (n' w' : Nat) (G : Nat → Option va_E) (M' : MS) (bk' : BK), LI b L xs e r N0 W0 (q + 1) C' n' w' G M' bk' ∧ ∀ rr h1, EX B D 100 mL_law 18 [some (.ref b), some (.ref e), some (.ref r), some (.int (nI (6 * (q + 1))))] [] (n', w', mH r G M') rr h1 → EX B D 100 mL_law 757 [some (.ref b), some (.ref e), some (.ref r), some (.int (nI (6 * q)))] [] (n, w, mH r g M) rr h1 := by
  obtain ⟨n', w', G, M', bk', c1, c2, c3, s2, s3⟩ := h.two (B := B) (D := D) hq (look h.1 (c_X6_order h.1 (xs (nI (6 * q) + 1).toNatClampNeg))) (fun n' w' G hcap => m_order h.2.1 (xs (nI (6 * q) + 1).toNatClampNeg))
  have s1 := h.2.2.2.2.1
  have he1 := h.1.1
  have hinc : nI (6 * q) + Int32.ofInt 6 = nI (6 * (q + 1)) := nI_add (6 * q) 6
  refine ⟨_, n', w', G, M', bk', c3, fun rr h1 hk => ?_⟩
  refine px_aload_n dL_law_757 rfl ?_
  refine px_aload_n dL_law_758 rfl ?_
  refine px_iload_n dL_law_759 rfl ?_
  refine px_iconst (v := 1) dL_law_760 (by decide) ?_
  refine px_iadd dL_law_761 ?_
  refine px_saload dL_law_762 s1 (ix_1 hL hL2) ?_
  refine px_callV1 (ν := mX6_order) (ci := 6) rfl rfl lk_L_101 in_X6_order se_X6_order mok_X6_order dL_law_763 (c1) he1 rfl rfl (by omega) (by simp) ?_
  refine px_aload_n dL_law_766 rfl ?_
  refine px_aload_n dL_law_767 rfl ?_
  refine px_iload_n dL_law_768 rfl ?_
  refine px_iconst (v := 1) dL_law_769 (by decide) ?_
  refine px_iadd dL_law_770 ?_
  refine px_saload dL_law_771 s2 (ix_1 hL hL2) ?_
  refine px_callV1 (ν := mX7_order) (ci := 7) rfl rfl lk_L_104 in_X7_order se_X7_order mok_X7_order dL_law_772 (c2) s3 rfl rfl (by omega) (by simp) ?_
  refine px_icmp_eq (tgt := 1147) dL_law_775 (by decide) (fun hc775 => ?_) (fun hc775 => ?_)
  · refine px_iinc3 rfl hinc dL_law_1147 ?_
    refine px_goto (tgt := 18) dL_law_1150 (by decide) ?_
    exact hk
  · exact absurd rfl hc775
theorem w_unlike (h : LI b L xs e r N0 W0 q C n w g M bk) (hq : q ≤ 511) (hL : 6 * q + 5 < L) (hL2 : L ≤ 3072) : ∃ (C' : CS) (n' w' : Nat) (G : Nat → Option va_E) (M' : MS) (bk' : BK), LI b L xs e r N0 W0 (q + 1) C' n' w' G M' bk' ∧ ∀ rr h1, EX B D 100 mL_law 18 [some (.ref b), some (.ref e), some (.ref r), some (.int (nI (6 * (q + 1))))] [] (n', w', mH r G M') rr h1 → EX B D 100 mL_law 780 [some (.ref b), some (.ref e), some (.ref r), some (.int (nI (6 * q)))] [] (n, w, mH r g M) rr h1 := by
  obtain ⟨n', w', G, M', bk', c1, c2, c3, s2, s3⟩ := h.two (B := B) (D := D) hq (look h.1 (c_X6_unlike h.1.1 h.1.2.1.w )) (fun n' w' G hcap => m_unlike h.2.1 )
  have s1 := h.2.2.2.2.1
  have he1 := h.1.1
  have hinc : nI (6 * q) + Int32.ofInt 6 = nI (6 * (q + 1)) := nI_add (6 * q) 6
  refine ⟨_, n', w', G, M', bk', c3, fun rr h1 hk => ?_⟩
  refine px_aload_n dL_law_780 rfl ?_
  refine px_callV1 (ν := mX6_unlike) (ci := 6) rfl rfl lk_L_105 in_X6_unlike se_X6_unlike mok_X6_unlike dL_law_781 (c1) he1 rfl rfl (by omega) (by simp) ?_
  refine px_aload_n dL_law_784 rfl ?_
  refine px_callV1 (ν := mX7_unlike) (ci := 7) rfl rfl lk_L_108 in_X7_unlike se_X7_unlike mok_X7_unlike dL_law_785 (c2) s3 rfl rfl (by omega) (by simp) ?_
  refine px_icmp_eq (tgt := 1147) dL_law_788 (by decide) (fun hc788 => ?_) (fun hc788 => ?_)
  · refine px_iinc3 rfl hinc dL_law_1147 ?_
    refine px_goto (tgt := 18) dL_law_1150 (by decide) ?_
    exact hk
  · exact absurd rfl hc788
theorem w_fresh (h : LI b L xs e r N0 W0 q C n w g M bk) (hq : q ≤ 511) (hL : 6 * q + 5 < L) (hL2 : L ≤ 3072) : ∃ (C' : CS) (n' w' : Nat) (G : Nat → Option va_E) (M' : MS) (bk' : BK), LI b L xs e r N0 W0 (q + 1) C' n' w' G M' bk' ∧ ∀ rr h1, EX B D 100 mL_law 18 [some (.ref b), some (.ref e), some (.ref r), some (.int (nI (6 * (q + 1))))] [] (n', w', mH r G M') rr h1 → EX B D 100 mL_law 793 [some (.ref b), some (.ref e), some (.ref r), some (.int (nI (6 * q)))] [] (n, w, mH r g M) rr h1 := by
  obtain ⟨n', w', G, M', bk', c1, c2, c3, s2, s3⟩ := h.two (B := B) (D := D) hq (look h.1 (c_X6_fresh h.1.1 h.1.2.1.w )) (fun n' w' G hcap => m_fresh h.2.1 hcap )
  have s1 := h.2.2.2.2.1
  have he1 := h.1.1
  have hinc : nI (6 * q) + Int32.ofInt 6 = nI (6 * (q + 1)) := nI_add (6 * q) 6
  refine ⟨_, n', w', G, M', bk', c3, fun rr h1 hk => ?_⟩
  refine px_aload_n dL_law_793 rfl ?_
  refine px_callV1 (ν := mX6_fresh) (ci := 6) rfl rfl lk_L_109 in_X6_fresh se_X6_fresh mok_X6_fresh dL_law_794 (c1) he1 rfl rfl (by omega) (by simp) ?_
  refine px_aload_n dL_law_797 rfl ?_
  refine px_callV1 (ν := mX7_fresh) (ci := 7) rfl rfl lk_L_112 in_X7_fresh se_X7_fresh mok_X7_fresh dL_law_798 (c2) s3 rfl rfl (by omega) (by simp) ?_
  refine px_icmp_eq (tgt := 1147) dL_law_801 (by decide) (fun hc801 => ?_) (fun hc801 => ?_)
  · refine px_iinc3 rfl hinc dL_law_1147 ?_
    refine px_goto (tgt := 18) dL_law_1150 (by decide) ?_
    exact hk
  · exact absurd rfl hc801
theorem w_forget (h : LI b L xs e r N0 W0 q C n w g M bk) (hq : q ≤ 511) (hL : 6 * q + 5 < L) (hL2 : L ≤ 3072) : ∃ (C' : CS) (n' w' : Nat) (G : Nat → Option va_E) (M' : MS) (bk' : BK), LI b L xs e r N0 W0 (q + 1) C' n' w' G M' bk' ∧ ∀ rr h1, EX B D 100 mL_law 18 [some (.ref b), some (.ref e), some (.ref r), some (.int (nI (6 * (q + 1))))] [] (n', w', mH r G M') rr h1 → EX B D 100 mL_law 806 [some (.ref b), some (.ref e), some (.ref r), some (.int (nI (6 * q)))] [] (n, w, mH r g M) rr h1 := by
  obtain ⟨n', w', G, M', bk', c1, c2, c3, s2, s3⟩ := h.two (B := B) (D := D) hq (some3 (e_forget h.1 h.2.2.1 (xs (nI (6 * q) + 1).toNatClampNeg))) (fun n' w' G hcap => m_forget h.2.1 (xs (nI (6 * q) + 1).toNatClampNeg))
  have s1 := h.2.2.2.2.1
  have he1 := h.1.1
  have hinc : nI (6 * q) + Int32.ofInt 6 = nI (6 * (q + 1)) := nI_add (6 * q) 6
  refine ⟨_, n', w', G, M', bk', c3, fun rr h1 hk => ?_⟩
  refine px_aload_n dL_law_806 rfl ?_
  refine px_aload_n dL_law_807 rfl ?_
  refine px_iload_n dL_law_808 rfl ?_
  refine px_iconst (v := 1) dL_law_809 (by decide) ?_
  refine px_iadd dL_law_810 ?_
  refine px_saload dL_law_811 s1 (ix_1 hL hL2) ?_
  refine px_callV1 (ν := mX6_forget) (ci := 6) rfl rfl lk_L_113 in_X6_forget se_X6_forget mok_X6_forget dL_law_812 (c1) he1 rfl rfl (by omega) (by simp) ?_
  refine px_aload_n dL_law_815 rfl ?_
  refine px_aload_n dL_law_816 rfl ?_
  refine px_iload_n dL_law_817 rfl ?_
  refine px_iconst (v := 1) dL_law_818 (by decide) ?_
  refine px_iadd dL_law_819 ?_
  refine px_saload dL_law_820 s2 (ix_1 hL hL2) ?_
  refine px_callV1 (ν := mX7_forget) (ci := 7) rfl rfl lk_L_116 in_X7_forget se_X7_forget mok_X7_forget dL_law_821 (c2) s3 rfl rfl (by omega) (by simp) ?_
  refine px_icmp_eq (tgt := 1147) dL_law_824 (by decide) (fun hc824 => ?_) (fun hc824 => ?_)
  · refine px_iinc3 rfl hinc dL_law_1147 ?_
    refine px_goto (tgt := 18) dL_law_1150 (by decide) ?_
    exact hk
  · exact absurd rfl hc824
theorem w_told (h : LI b L xs e r N0 W0 q C n w g M bk) (hq : q ≤ 511) (hL : 6 * q + 5 < L) (hL2 : L ≤ 3072) : ∃ (C' : CS) (n' w' : Nat) (G : Nat → Option va_E) (M' : MS) (bk' : BK), LI b L xs e r N0 W0 (q + 1) C' n' w' G M' bk' ∧ ∀ rr h1, EX B D 100 mL_law 18 [some (.ref b), some (.ref e), some (.ref r), some (.int (nI (6 * (q + 1))))] [] (n', w', mH r G M') rr h1 → EX B D 100 mL_law 829 [some (.ref b), some (.ref e), some (.ref r), some (.int (nI (6 * q)))] [] (n, w, mH r g M) rr h1 := by
  obtain ⟨n', w', G, M', bk', c1, c2, c3, s2, s3⟩ := h.two (B := B) (D := D) hq (look h.1 (c_X6_told h.1 (xs (nI (6 * q) + 1).toNatClampNeg))) (fun n' w' G hcap => m_told h.2.1 (xs (nI (6 * q) + 1).toNatClampNeg))
  have s1 := h.2.2.2.2.1
  have he1 := h.1.1
  have hinc : nI (6 * q) + Int32.ofInt 6 = nI (6 * (q + 1)) := nI_add (6 * q) 6
  refine ⟨_, n', w', G, M', bk', c3, fun rr h1 hk => ?_⟩
  refine px_aload_n dL_law_829 rfl ?_
  refine px_aload_n dL_law_830 rfl ?_
  refine px_iload_n dL_law_831 rfl ?_
  refine px_iconst (v := 1) dL_law_832 (by decide) ?_
  refine px_iadd dL_law_833 ?_
  refine px_saload dL_law_834 s1 (ix_1 hL hL2) ?_
  refine px_callV1 (ν := mX6_told) (ci := 6) rfl rfl lk_L_117 in_X6_told se_X6_told mok_X6_told dL_law_835 (c1) he1 rfl rfl (by omega) (by simp) ?_
  refine px_aload_n dL_law_838 rfl ?_
  refine px_aload_n dL_law_839 rfl ?_
  refine px_iload_n dL_law_840 rfl ?_
  refine px_iconst (v := 1) dL_law_841 (by decide) ?_
  refine px_iadd dL_law_842 ?_
  refine px_saload dL_law_843 s2 (ix_1 hL hL2) ?_
  refine px_callV1 (ν := mX7_told) (ci := 7) rfl rfl lk_L_120 in_X7_told se_X7_told mok_X7_told dL_law_844 (c2) s3 rfl rfl (by omega) (by simp) ?_
  refine px_icmp_eq (tgt := 1147) dL_law_847 (by decide) (fun hc847 => ?_) (fun hc847 => ?_)
  · refine px_iinc3 rfl hinc dL_law_1147 ?_
    refine px_goto (tgt := 18) dL_law_1150 (by decide) ?_
    exact hk
  · exact absurd rfl hc847
end M80
