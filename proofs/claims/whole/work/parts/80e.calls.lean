/-! the law's calls, one by one -/
section M80
variable {B : Nat} {D : va_G} {b L : Nat} {xs : Nat → Int32} {e r N0 W0 q : Nat} {C : CS} {n w : Nat} {g : Nat → Option va_E} {M : MS} {bk : BK}

theorem w_list (h : LI b L xs e r N0 W0 q C n w g M bk) (hq : q ≤ 511) (hL : 6 * q + 5 < L) (hL2 : L ≤ 3072) : ∃ (C' : CS) (n' w' : Nat) (G : Nat → Option va_E) (M' : MS) (bk' : BK), LI b L xs e r N0 W0 (q + 1) C' n' w' G M' bk' ∧ ∀ rr h1, EX B D 100 mL_law 18 [some (.ref b), some (.ref e), some (.ref r), some (.int (nI (6 * (q + 1))))] [] (n', w', mH r G M') rr h1 → EX B D 100 mL_law 852 [some (.ref b), some (.ref e), some (.ref r), some (.int (nI (6 * q)))] [] (n, w, mH r g M) rr h1 := by
  obtain ⟨n', w', G, M', bk', c1, c2, c3, s2, s3⟩ := h.two (B := B) (D := D) hq (some3 (e_list h.1 h.2.2.1 (xs (nI (6 * q) + 1).toNatClampNeg) (xs (nI (6 * q) + 2).toNatClampNeg))) (fun n' w' G hcap => m_list h.2.1 (xs (nI (6 * q) + 1).toNatClampNeg) (xs (nI (6 * q) + 2).toNatClampNeg))
  have s1 := h.2.2.2.2.1
  have he1 := h.1.1
  have hinc : nI (6 * q) + Int32.ofInt 6 = nI (6 * (q + 1)) := nI_add (6 * q) 6
  refine ⟨_, n', w', G, M', bk', c3, fun rr h1 hk => ?_⟩
  refine px_aload_n dL_law_852 rfl ?_
  refine px_aload_n dL_law_853 rfl ?_
  refine px_iload_n dL_law_854 rfl ?_
  refine px_iconst (v := 1) dL_law_855 (by decide) ?_
  refine px_iadd dL_law_856 ?_
  refine px_saload dL_law_857 s1 (ix_1 hL hL2) ?_
  refine px_aload_n dL_law_858 rfl ?_
  refine px_iload_n dL_law_859 rfl ?_
  refine px_iconst (v := 2) dL_law_860 (by decide) ?_
  refine px_iadd dL_law_861 ?_
  refine px_saload dL_law_862 s1 (ix_2 hL hL2) ?_
  refine px_callV1 (ν := mX6_list) (ci := 6) rfl rfl lk_L_121 in_X6_list se_X6_list mok_X6_list dL_law_863 (c1) he1 rfl rfl (by omega) (by simp) ?_
  refine px_aload_n dL_law_866 rfl ?_
  refine px_aload_n dL_law_867 rfl ?_
  refine px_iload_n dL_law_868 rfl ?_
  refine px_iconst (v := 1) dL_law_869 (by decide) ?_
  refine px_iadd dL_law_870 ?_
  refine px_saload dL_law_871 s2 (ix_1 hL hL2) ?_
  refine px_aload_n dL_law_872 rfl ?_
  refine px_iload_n dL_law_873 rfl ?_
  refine px_iconst (v := 2) dL_law_874 (by decide) ?_
  refine px_iadd dL_law_875 ?_
  refine px_saload dL_law_876 s2 (ix_2 hL hL2) ?_
  refine px_callV1 (ν := mX7_list) (ci := 7) rfl rfl lk_L_124 in_X7_list se_X7_list mok_X7_list dL_law_877 (c2) s3 rfl rfl (by omega) (by simp) ?_
  refine px_icmp_eq (tgt := 1147) dL_law_880 (by decide) (fun hc880 => ?_) (fun hc880 => ?_)
  · refine px_iinc3 rfl hinc dL_law_1147 ?_
    refine px_goto (tgt := 18) dL_law_1150 (by decide) ?_
    exact hk
  · exact absurd rfl hc880
theorem w_put (h : LI b L xs e r N0 W0 q C n w g M bk) (hq : q ≤ 511) (hL : 6 * q + 5 < L) (hL2 : L ≤ 3072) : ∃ (C' : CS) (n' w' : Nat) (G : Nat → Option va_E) (M' : MS) (bk' : BK), LI b L xs e r N0 W0 (q + 1) C' n' w' G M' bk' ∧ ∀ rr h1, EX B D 100 mL_law 18 [some (.ref b), some (.ref e), some (.ref r), some (.int (nI (6 * (q + 1))))] [] (n', w', mH r G M') rr h1 → EX B D 100 mL_law 885 [some (.ref b), some (.ref e), some (.ref r), some (.int (nI (6 * q)))] [] (n, w, mH r g M) rr h1 := by
  obtain ⟨n', w', G, M', bk', c1, c2, c3, s2, s3⟩ := h.two (B := B) (D := D) hq (some3 (e_put h.1 h.2.2.1 (xs (nI (6 * q) + 1).toNatClampNeg) (xs (nI (6 * q) + 2).toNatClampNeg) (((xs (nI (6 * q) + 3).toNatClampNeg).toInt64 <<< ((32 : Int32).toInt64 &&& 63)) ||| ((xs (nI (6 * q) + 4).toNatClampNeg).toInt64 &&& 4294967295)))) (fun n' w' G hcap => m_put h.2.1 (xs (nI (6 * q) + 1).toNatClampNeg) (xs (nI (6 * q) + 2).toNatClampNeg) (((xs (nI (6 * q) + 3).toNatClampNeg).toInt64 <<< ((32 : Int32).toInt64 &&& 63)) ||| ((xs (nI (6 * q) + 4).toNatClampNeg).toInt64 &&& 4294967295)))
  have s1 := h.2.2.2.2.1
  have he1 := h.1.1
  have hinc : nI (6 * q) + Int32.ofInt 6 = nI (6 * (q + 1)) := nI_add (6 * q) 6
  refine ⟨_, n', w', G, M', bk', c3, fun rr h1 hk => ?_⟩
  refine px_aload_n dL_law_885 rfl ?_
  refine px_aload_n dL_law_886 rfl ?_
  refine px_iload_n dL_law_887 rfl ?_
  refine px_iconst (v := 1) dL_law_888 (by decide) ?_
  refine px_iadd dL_law_889 ?_
  refine px_saload dL_law_890 s1 (ix_1 hL hL2) ?_
  refine px_aload_n dL_law_891 rfl ?_
  refine px_iload_n dL_law_892 rfl ?_
  refine px_iconst (v := 2) dL_law_893 (by decide) ?_
  refine px_iadd dL_law_894 ?_
  refine px_saload dL_law_895 s1 (ix_2 hL hL2) ?_
  refine px_aload_n dL_law_896 rfl ?_
  refine px_iload_n dL_law_897 rfl ?_
  refine px_iconst (v := 3) dL_law_898 (by decide) ?_
  refine px_iadd dL_law_899 ?_
  refine px_saload dL_law_900 s1 (ix_3 hL hL2) ?_
  refine px_i2l dL_law_901 ?_
  refine px_bipush (v := 32) dL_law_902 (by decide) ?_
  refine px_lshl dL_law_904 ?_
  refine px_aload_n dL_law_905 rfl ?_
  refine px_iload_n dL_law_906 rfl ?_
  refine px_iconst (v := 4) dL_law_907 (by decide) ?_
  refine px_iadd dL_law_908 ?_
  refine px_saload dL_law_909 s1 (ix_4 hL hL2) ?_
  refine px_i2l dL_law_910 ?_
  refine px_ldc2 dL_law_911 kc_L_125 ?_
  refine px_land dL_law_914 ?_
  refine px_lor dL_law_915 ?_
  refine px_callV1 (ν := mX6_put) (ci := 6) rfl rfl lk_L_127 in_X6_put se_X6_put mok_X6_put dL_law_916 (c1) he1 rfl rfl (by omega) (by simp) ?_
  refine px_aload_n dL_law_919 rfl ?_
  refine px_aload_n dL_law_920 rfl ?_
  refine px_iload_n dL_law_921 rfl ?_
  refine px_iconst (v := 1) dL_law_922 (by decide) ?_
  refine px_iadd dL_law_923 ?_
  refine px_saload dL_law_924 s2 (ix_1 hL hL2) ?_
  refine px_aload_n dL_law_925 rfl ?_
  refine px_iload_n dL_law_926 rfl ?_
  refine px_iconst (v := 2) dL_law_927 (by decide) ?_
  refine px_iadd dL_law_928 ?_
  refine px_saload dL_law_929 s2 (ix_2 hL hL2) ?_
  refine px_aload_n dL_law_930 rfl ?_
  refine px_iload_n dL_law_931 rfl ?_
  refine px_iconst (v := 3) dL_law_932 (by decide) ?_
  refine px_iadd dL_law_933 ?_
  refine px_saload dL_law_934 s2 (ix_3 hL hL2) ?_
  refine px_i2l dL_law_935 ?_
  refine px_bipush (v := 32) dL_law_936 (by decide) ?_
  refine px_lshl dL_law_938 ?_
  refine px_aload_n dL_law_939 rfl ?_
  refine px_iload_n dL_law_940 rfl ?_
  refine px_iconst (v := 4) dL_law_941 (by decide) ?_
  refine px_iadd dL_law_942 ?_
  refine px_saload dL_law_943 s2 (ix_4 hL hL2) ?_
  refine px_i2l dL_law_944 ?_
  refine px_ldc2 dL_law_945 kc_L_125 ?_
  refine px_land dL_law_948 ?_
  refine px_lor dL_law_949 ?_
  refine px_callV1 (ν := mX7_put) (ci := 7) rfl rfl lk_L_131 in_X7_put se_X7_put mok_X7_put dL_law_950 (c2) s3 rfl rfl (by omega) (by simp) ?_
  refine px_icmp_eq (tgt := 1147) dL_law_953 (by decide) (fun hc953 => ?_) (fun hc953 => ?_)
  · refine px_iinc3 rfl hinc dL_law_1147 ?_
    refine px_goto (tgt := 18) dL_law_1150 (by decide) ?_
    exact hk
  · exact absurd rfl hc953
theorem w_get (h : LI b L xs e r N0 W0 q C n w g M bk) (hq : q ≤ 511) (hL : 6 * q + 5 < L) (hL2 : L ≤ 3072) : ∃ (C' : CS) (n' w' : Nat) (G : Nat → Option va_E) (M' : MS) (bk' : BK), LI b L xs e r N0 W0 (q + 1) C' n' w' G M' bk' ∧ ∀ rr h1, EX B D 100 mL_law 18 [some (.ref b), some (.ref e), some (.ref r), some (.int (nI (6 * (q + 1))))] [] (n', w', mH r G M') rr h1 → EX B D 100 mL_law 958 [some (.ref b), some (.ref e), some (.ref r), some (.int (nI (6 * q)))] [] (n, w, mH r g M) rr h1 := by
  obtain ⟨n', w', G, M', bk', c1, c2, c3, s2, s3⟩ := h.two (B := B) (D := D) hq (look h.1 (c_X6_get h.1.1 h.1.2.2.2.2.2 (xs (nI (6 * q) + 1).toNatClampNeg) (xs (nI (6 * q) + 2).toNatClampNeg))) (fun n' w' G hcap => m_get h.2.1 (xs (nI (6 * q) + 1).toNatClampNeg) (xs (nI (6 * q) + 2).toNatClampNeg))
  have s1 := h.2.2.2.2.1
  have he1 := h.1.1
  have hinc : nI (6 * q) + Int32.ofInt 6 = nI (6 * (q + 1)) := nI_add (6 * q) 6
  refine ⟨_, n', w', G, M', bk', c3, fun rr h1 hk => ?_⟩
  refine px_aload_n dL_law_958 rfl ?_
  refine px_aload_n dL_law_959 rfl ?_
  refine px_iload_n dL_law_960 rfl ?_
  refine px_iconst (v := 1) dL_law_961 (by decide) ?_
  refine px_iadd dL_law_962 ?_
  refine px_saload dL_law_963 s1 (ix_1 hL hL2) ?_
  refine px_aload_n dL_law_964 rfl ?_
  refine px_iload_n dL_law_965 rfl ?_
  refine px_iconst (v := 2) dL_law_966 (by decide) ?_
  refine px_iadd dL_law_967 ?_
  refine px_saload dL_law_968 s1 (ix_2 hL hL2) ?_
  refine px_callV1 (ν := mX6_get) (ci := 6) rfl rfl lk_L_132 in_X6_get se_X6_get mok_X6_get dL_law_969 (c1) he1 rfl rfl (by omega) (by simp) ?_
  refine px_aload_n dL_law_972 rfl ?_
  refine px_aload_n dL_law_973 rfl ?_
  refine px_iload_n dL_law_974 rfl ?_
  refine px_iconst (v := 1) dL_law_975 (by decide) ?_
  refine px_iadd dL_law_976 ?_
  refine px_saload dL_law_977 s2 (ix_1 hL hL2) ?_
  refine px_aload_n dL_law_978 rfl ?_
  refine px_iload_n dL_law_979 rfl ?_
  refine px_iconst (v := 2) dL_law_980 (by decide) ?_
  refine px_iadd dL_law_981 ?_
  refine px_saload dL_law_982 s2 (ix_2 hL hL2) ?_
  refine px_callV1 (ν := mX7_get) (ci := 7) rfl rfl lk_L_136 in_X7_get se_X7_get mok_X7_get dL_law_983 (c2) s3 rfl rfl (by omega) (by simp) ?_
  refine px_l_eq (tgt := 1147) dL_law_986 dL_law_987 (by decide) (fun hc987 => ?_) (fun hc987 => ?_)
  · refine px_iinc3 rfl hinc dL_law_1147 ?_
    refine px_goto (tgt := 18) dL_law_1150 (by decide) ?_
    exact hk
  · exact absurd rfl hc987
theorem w_move (h : LI b L xs e r N0 W0 q C n w g M bk) (hq : q ≤ 511) (hL : 6 * q + 5 < L) (hL2 : L ≤ 3072) : ∃ (C' : CS) (n' w' : Nat) (G : Nat → Option va_E) (M' : MS) (bk' : BK), LI b L xs e r N0 W0 (q + 1) C' n' w' G M' bk' ∧ ∀ rr h1, EX B D 100 mL_law 18 [some (.ref b), some (.ref e), some (.ref r), some (.int (nI (6 * (q + 1))))] [] (n', w', mH r G M') rr h1 → EX B D 100 mL_law 992 [some (.ref b), some (.ref e), some (.ref r), some (.int (nI (6 * q)))] [] (n, w, mH r g M) rr h1 := by
  obtain ⟨n', w', G, M', bk', c1, c2, c3, s2, s3⟩ := h.two (B := B) (D := D) hq (some3 (e_move h.1 h.2.2.1 (xs (nI (6 * q) + 1).toNatClampNeg) (xs (nI (6 * q) + 2).toNatClampNeg) (xs (nI (6 * q) + 3).toNatClampNeg) (xs (nI (6 * q) + 4).toNatClampNeg) (xs (nI (6 * q) + 5).toNatClampNeg))) (fun n' w' G hcap => m_move h.2.1 (xs (nI (6 * q) + 1).toNatClampNeg) (xs (nI (6 * q) + 2).toNatClampNeg) (xs (nI (6 * q) + 3).toNatClampNeg) (xs (nI (6 * q) + 4).toNatClampNeg) (xs (nI (6 * q) + 5).toNatClampNeg))
  have s1 := h.2.2.2.2.1
  have he1 := h.1.1
  have hinc : nI (6 * q) + Int32.ofInt 6 = nI (6 * (q + 1)) := nI_add (6 * q) 6
  refine ⟨_, n', w', G, M', bk', c3, fun rr h1 hk => ?_⟩
  refine px_aload_n dL_law_992 rfl ?_
  refine px_aload_n dL_law_993 rfl ?_
  refine px_iload_n dL_law_994 rfl ?_
  refine px_iconst (v := 1) dL_law_995 (by decide) ?_
  refine px_iadd dL_law_996 ?_
  refine px_saload dL_law_997 s1 (ix_1 hL hL2) ?_
  refine px_aload_n dL_law_998 rfl ?_
  refine px_iload_n dL_law_999 rfl ?_
  refine px_iconst (v := 2) dL_law_1000 (by decide) ?_
  refine px_iadd dL_law_1001 ?_
  refine px_saload dL_law_1002 s1 (ix_2 hL hL2) ?_
  refine px_aload_n dL_law_1003 rfl ?_
  refine px_iload_n dL_law_1004 rfl ?_
  refine px_iconst (v := 3) dL_law_1005 (by decide) ?_
  refine px_iadd dL_law_1006 ?_
  refine px_saload dL_law_1007 s1 (ix_3 hL hL2) ?_
  refine px_aload_n dL_law_1008 rfl ?_
  refine px_iload_n dL_law_1009 rfl ?_
  refine px_iconst (v := 4) dL_law_1010 (by decide) ?_
  refine px_iadd dL_law_1011 ?_
  refine px_saload dL_law_1012 s1 (ix_4 hL hL2) ?_
  refine px_aload_n dL_law_1013 rfl ?_
  refine px_iload_n dL_law_1014 rfl ?_
  refine px_iconst (v := 5) dL_law_1015 (by decide) ?_
  refine px_iadd dL_law_1016 ?_
  refine px_saload dL_law_1017 s1 (ix_5 hL hL2) ?_
  refine px_callV1 (ν := mX6_move) (ci := 6) rfl rfl lk_L_137 in_X6_move se_X6_move mok_X6_move dL_law_1018 (c1) he1 rfl rfl (by omega) (by simp) ?_
  refine px_aload_n dL_law_1021 rfl ?_
  refine px_aload_n dL_law_1022 rfl ?_
  refine px_iload_n dL_law_1023 rfl ?_
  refine px_iconst (v := 1) dL_law_1024 (by decide) ?_
  refine px_iadd dL_law_1025 ?_
  refine px_saload dL_law_1026 s2 (ix_1 hL hL2) ?_
  refine px_aload_n dL_law_1027 rfl ?_
  refine px_iload_n dL_law_1028 rfl ?_
  refine px_iconst (v := 2) dL_law_1029 (by decide) ?_
  refine px_iadd dL_law_1030 ?_
  refine px_saload dL_law_1031 s2 (ix_2 hL hL2) ?_
  refine px_aload_n dL_law_1032 rfl ?_
  refine px_iload_n dL_law_1033 rfl ?_
  refine px_iconst (v := 3) dL_law_1034 (by decide) ?_
  refine px_iadd dL_law_1035 ?_
  refine px_saload dL_law_1036 s2 (ix_3 hL hL2) ?_
  refine px_aload_n dL_law_1037 rfl ?_
  refine px_iload_n dL_law_1038 rfl ?_
  refine px_iconst (v := 4) dL_law_1039 (by decide) ?_
  refine px_iadd dL_law_1040 ?_
  refine px_saload dL_law_1041 s2 (ix_4 hL hL2) ?_
  refine px_aload_n dL_law_1042 rfl ?_
  refine px_iload_n dL_law_1043 rfl ?_
  refine px_iconst (v := 5) dL_law_1044 (by decide) ?_
  refine px_iadd dL_law_1045 ?_
  refine px_saload dL_law_1046 s2 (ix_5 hL hL2) ?_
  refine px_callV1 (ν := mX7_move) (ci := 7) rfl rfl lk_L_141 in_X7_move se_X7_move mok_X7_move dL_law_1047 (c2) s3 rfl rfl (by omega) (by simp) ?_
  refine px_icmp_eq (tgt := 1147) dL_law_1050 (by decide) (fun hc1050 => ?_) (fun hc1050 => ?_)
  · refine px_iinc3 rfl hinc dL_law_1147 ?_
    refine px_goto (tgt := 18) dL_law_1150 (by decide) ?_
    exact hk
  · exact absurd rfl hc1050
theorem w_lay (h : LI b L xs e r N0 W0 q C n w g M bk) (hq : q ≤ 511) (hL : 6 * q + 5 < L) (hL2 : L ≤ 3072) : ∃ (C' : CS) (n' w' : Nat) (G : Nat → Option va_E) (M' : MS) (bk' : BK), LI b L xs e r N0 W0 (q + 1) C' n' w' G M' bk' ∧ ∀ rr h1, EX B D 100 mL_law 18 [some (.ref b), some (.ref e), some (.ref r), some (.int (nI (6 * (q + 1))))] [] (n', w', mH r G M') rr h1 → EX B D 100 mL_law 1055 [some (.ref b), some (.ref e), some (.ref r), some (.int (nI (6 * q)))] [] (n, w, mH r g M) rr h1 := by
  obtain ⟨n', w', G, M', bk', c1, c2, c3, s2, s3⟩ := h.two (B := B) (D := D) hq (some3 (e_lay h.1 h.2.2.1 (xs (nI (6 * q) + 1).toNatClampNeg) (xs (nI (6 * q) + 2).toNatClampNeg))) (fun n' w' G hcap => m_lay h.2.1 (xs (nI (6 * q) + 1).toNatClampNeg) (xs (nI (6 * q) + 2).toNatClampNeg))
  have s1 := h.2.2.2.2.1
  have he1 := h.1.1
  have hinc : nI (6 * q) + Int32.ofInt 6 = nI (6 * (q + 1)) := nI_add (6 * q) 6
  refine ⟨_, n', w', G, M', bk', c3, fun rr h1 hk => ?_⟩
  refine px_aload_n dL_law_1055 rfl ?_
  refine px_aload_n dL_law_1056 rfl ?_
  refine px_iload_n dL_law_1057 rfl ?_
  refine px_iconst (v := 1) dL_law_1058 (by decide) ?_
  refine px_iadd dL_law_1059 ?_
  refine px_saload dL_law_1060 s1 (ix_1 hL hL2) ?_
  refine px_aload_n dL_law_1061 rfl ?_
  refine px_iload_n dL_law_1062 rfl ?_
  refine px_iconst (v := 2) dL_law_1063 (by decide) ?_
  refine px_iadd dL_law_1064 ?_
  refine px_saload dL_law_1065 s1 (ix_2 hL hL2) ?_
  refine px_callV1 (ν := mX6_lay) (ci := 6) rfl rfl lk_L_142 in_X6_lay se_X6_lay mok_X6_lay dL_law_1066 (c1) he1 rfl rfl (by omega) (by simp) ?_
  refine px_aload_n dL_law_1069 rfl ?_
  refine px_aload_n dL_law_1070 rfl ?_
  refine px_iload_n dL_law_1071 rfl ?_
  refine px_iconst (v := 1) dL_law_1072 (by decide) ?_
  refine px_iadd dL_law_1073 ?_
  refine px_saload dL_law_1074 s2 (ix_1 hL hL2) ?_
  refine px_aload_n dL_law_1075 rfl ?_
  refine px_iload_n dL_law_1076 rfl ?_
  refine px_iconst (v := 2) dL_law_1077 (by decide) ?_
  refine px_iadd dL_law_1078 ?_
  refine px_saload dL_law_1079 s2 (ix_2 hL hL2) ?_
  refine px_callV1 (ν := mX7_lay) (ci := 7) rfl rfl lk_L_145 in_X7_lay se_X7_lay mok_X7_lay dL_law_1080 (c2) s3 rfl rfl (by omega) (by simp) ?_
  refine px_icmp_eq (tgt := 1147) dL_law_1083 (by decide) (fun hc1083 => ?_) (fun hc1083 => ?_)
  · refine px_iinc3 rfl hinc dL_law_1147 ?_
    refine px_goto (tgt := 18) dL_law_1150 (by decide) ?_
    exact hk
  · exact absurd rfl hc1083
theorem w_judge (h : LI b L xs e r N0 W0 q C n w g M bk) (hq : q ≤ 511) (hL : 6 * q + 5 < L) (hL2 : L ≤ 3072) : ∃ (C' : CS) (n' w' : Nat) (G : Nat → Option va_E) (M' : MS) (bk' : BK), LI b L xs e r N0 W0 (q + 1) C' n' w' G M' bk' ∧ ∀ rr h1, EX B D 100 mL_law 18 [some (.ref b), some (.ref e), some (.ref r), some (.int (nI (6 * (q + 1))))] [] (n', w', mH r G M') rr h1 → EX B D 100 mL_law 1088 [some (.ref b), some (.ref e), some (.ref r), some (.int (nI (6 * q)))] [] (n, w, mH r g M) rr h1 := by
  obtain ⟨n', w', G, M', bk', c1, c2, c3, s2, s3⟩ := h.two (B := B) (D := D) hq (look h.1 (c_X6_judge h.1.1 h.1.2.1.w h.1.2.2.2.2.2 (xs (nI (6 * q) + 1).toNatClampNeg) (xs (nI (6 * q) + 2).toNatClampNeg))) (fun n' w' G hcap => m_judge h.2.1 (xs (nI (6 * q) + 1).toNatClampNeg) (xs (nI (6 * q) + 2).toNatClampNeg))
  have s1 := h.2.2.2.2.1
  have he1 := h.1.1
  have hinc : nI (6 * q) + Int32.ofInt 6 = nI (6 * (q + 1)) := nI_add (6 * q) 6
  refine ⟨_, n', w', G, M', bk', c3, fun rr h1 hk => ?_⟩
  refine px_aload_n dL_law_1088 rfl ?_
  refine px_aload_n dL_law_1089 rfl ?_
  refine px_iload_n dL_law_1090 rfl ?_
  refine px_iconst (v := 1) dL_law_1091 (by decide) ?_
  refine px_iadd dL_law_1092 ?_
  refine px_saload dL_law_1093 s1 (ix_1 hL hL2) ?_
  refine px_aload_n dL_law_1094 rfl ?_
  refine px_iload_n dL_law_1095 rfl ?_
  refine px_iconst (v := 2) dL_law_1096 (by decide) ?_
  refine px_iadd dL_law_1097 ?_
  refine px_saload dL_law_1098 s1 (ix_2 hL hL2) ?_
  refine px_callV1 (ν := mX6_judge) (ci := 6) rfl rfl lk_L_146 in_X6_judge se_X6_judge mok_X6_judge dL_law_1099 (c1) he1 rfl rfl (by omega) (by simp) ?_
  refine px_aload_n dL_law_1102 rfl ?_
  refine px_aload_n dL_law_1103 rfl ?_
  refine px_iload_n dL_law_1104 rfl ?_
  refine px_iconst (v := 1) dL_law_1105 (by decide) ?_
  refine px_iadd dL_law_1106 ?_
  refine px_saload dL_law_1107 s2 (ix_1 hL hL2) ?_
  refine px_aload_n dL_law_1108 rfl ?_
  refine px_iload_n dL_law_1109 rfl ?_
  refine px_iconst (v := 2) dL_law_1110 (by decide) ?_
  refine px_iadd dL_law_1111 ?_
  refine px_saload dL_law_1112 s2 (ix_2 hL hL2) ?_
  refine px_callV1 (ν := mX7_judge) (ci := 7) rfl rfl lk_L_149 in_X7_judge se_X7_judge mok_X7_judge dL_law_1113 (c2) s3 rfl rfl (by omega) (by simp) ?_
  refine px_icmp_eq (tgt := 1147) dL_law_1116 (by decide) (fun hc1116 => ?_) (fun hc1116 => ?_)
  · refine px_iinc3 rfl hinc dL_law_1147 ?_
    refine px_goto (tgt := 18) dL_law_1150 (by decide) ?_
    exact hk
  · exact absurd rfl hc1116
theorem w_image (h : LI b L xs e r N0 W0 q C n w g M bk) (hq : q ≤ 511) (hL : 6 * q + 5 < L) (hL2 : L ≤ 3072) : ∃ (C' : CS) (n' w' : Nat) (G : Nat → Option va_E) (M' : MS) (bk' : BK), LI b L xs e r N0 W0 (q + 1) C' n' w' G M' bk' ∧ ∀ rr h1, EX B D 100 mL_law 18 [some (.ref b), some (.ref e), some (.ref r), some (.int (nI (6 * (q + 1))))] [] (n', w', mH r G M') rr h1 → EX B D 100 mL_law 1121 [some (.ref b), some (.ref e), some (.ref r), some (.int (nI (6 * q)))] [] (n, w, mH r g M) rr h1 := by
  obtain ⟨n', w', G, M', bk', c1, c2, c3, s2, s3⟩ := h.two (B := B) (D := D) hq (some3 (c_X6_image h.1 h.2.2.1 )) (fun n' w' G hcap => m_image h.2.1 )
  have s1 := h.2.2.2.2.1
  have he1 := h.1.1
  have hinc : nI (6 * q) + Int32.ofInt 6 = nI (6 * (q + 1)) := nI_add (6 * q) 6
  refine ⟨_, n', w', G, M', bk', c3, fun rr h1 hk => ?_⟩
  refine px_aload_n dL_law_1121 rfl ?_
  refine px_callV1 (ν := mX6_image) (ci := 6) rfl rfl lk_L_150 in_X6_image se_X6_image mok_X6_image dL_law_1122 (c1) he1 rfl rfl (by omega) (by simp) ?_
  refine px_aload_n dL_law_1125 rfl ?_
  refine px_callV1 (ν := mX7_image) (ci := 7) rfl rfl lk_L_153 in_X7_image se_X7_image mok_X7_image dL_law_1126 (c2) s3 rfl rfl (by omega) (by simp) ?_
  refine px_icmp_eq (tgt := 1147) dL_law_1129 (by decide) (fun hc1129 => ?_) (fun hc1129 => ?_)
  · refine px_iinc3 rfl hinc dL_law_1147 ?_
    refine px_goto (tgt := 18) dL_law_1150 (by decide) ?_
    exact hk
  · exact absurd rfl hc1129
theorem w_undo (h : LI b L xs e r N0 W0 q C n w g M bk) (hq : q ≤ 511) (hL : 6 * q + 5 < L) (hL2 : L ≤ 3072) : ∃ (C' : CS) (n' w' : Nat) (G : Nat → Option va_E) (M' : MS) (bk' : BK), LI b L xs e r N0 W0 (q + 1) C' n' w' G M' bk' ∧ ∀ rr h1, EX B D 100 mL_law 18 [some (.ref b), some (.ref e), some (.ref r), some (.int (nI (6 * (q + 1))))] [] (n', w', mH r G M') rr h1 → EX B D 100 mL_law 1134 [some (.ref b), some (.ref e), some (.ref r), some (.int (nI (6 * q)))] [] (n, w, mH r g M) rr h1 := by
  obtain ⟨n', w', G, M', bk', c1, c2, c3, s2, s3⟩ := h.two (B := B) (D := D) hq (some3 (c_X6_undo h.1 h.2.2.1 )) (fun n' w' G hcap => m_undo h.2.1 )
  have s1 := h.2.2.2.2.1
  have he1 := h.1.1
  have hinc : nI (6 * q) + Int32.ofInt 6 = nI (6 * (q + 1)) := nI_add (6 * q) 6
  refine ⟨_, n', w', G, M', bk', c3, fun rr h1 hk => ?_⟩
  refine px_aload_n dL_law_1134 rfl ?_
  refine px_callV1 (ν := mX6_undo) (ci := 6) rfl rfl lk_L_154 in_X6_undo se_X6_undo mok_X6_undo dL_law_1135 (c1) he1 rfl rfl (by omega) (by simp) ?_
  refine px_aload_n dL_law_1138 rfl ?_
  refine px_callV1 (ν := mX7_undo) (ci := 7) rfl rfl lk_L_157 in_X7_undo se_X7_undo mok_X7_undo dL_law_1139 (c2) s3 rfl rfl (by omega) (by simp) ?_
  refine px_icmp_eq (tgt := 1147) dL_law_1142 (by decide) (fun hc1142 => ?_) (fun hc1142 => ?_)
  · refine px_iinc3 rfl hinc dL_law_1147 ?_
    refine px_goto (tgt := 18) dL_law_1150 (by decide) ?_
    exact hk
  · exact absurd rfl hc1142
end M80
