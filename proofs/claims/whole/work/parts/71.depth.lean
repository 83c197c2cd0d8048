/-! the reference: DEPTH -/
def dpT (tr : Nat → Option aAcc) : Nat → Nat → (Nat → Nat) → (Nat → Nat)
  | 0, _, E => E
  | k + 1, t, E => dpT tr k (t + 1) (va_up E (8 + t) (aDe E (tr (8 + t))))
def dpR (tr : Nat → Option aAcc) : Nat → (Nat → Nat) → (Nat → Nat)
  | 0, E => E
  | k + 1, E => dpR tr k (dpT tr 16 0 E)
theorem dpT_b {tr : Nat → Option aAcc} : ∀ (k t : Nat) (E : Nat → Nat) (b : Nat), (∀ q, E q ≤ b) → ∀ q, dpT tr k t E q ≤ b + k
  | 0, _, _, _, h => h
  | k + 1, t, E, b, h => fun q => by
    have := dpT_b (tr := tr) k (t + 1) (va_up E (8 + t) (aDe E (tr (8 + t)))) (b + 1) (fun p => by
      by_cases e : p = 8 + t
      · subst e; rw [va_up_self]; exact aDe_b h
      · rw [va_up_ne _ _ e]; have := h p; omega) q
    rw [dpT]
    omega
theorem dpT_inv {tr : Nat → Option aAcc} {D : Nat → Nat} (hok : trOk tr) {rk : Nat → Nat} (hr : ∀ (t : Nat) (T : aAcc) (x : Nat × List Q4), t < 16 → tr (8 + t) = some T → x ∈ T → 8 ≤ x.1 → rk x.1 < rk (8 + t)) (hD : ∀ t, t < 16 → D (8 + t) = aDe D (tr (8 + t))) (hD0 : ∀ k, k < 8 → D k = 0) {p : Nat} : ∀ (k t : Nat) (E : Nat → Nat), t + k = 16 → (∀ q, q < 8 → E q = 0) → (∀ u, u < 16 → rk (8 + u) < p → E (8 + u) = D (8 + u)) → (∀ u, u < t → rk (8 + u) < p + 1 → E (8 + u) = D (8 + u)) → (∀ q, q < 8 → dpT tr k t E q = 0) ∧ ∀ u, u < 16 → rk (8 + u) < p + 1 → dpT tr k t E (8 + u) = D (8 + u)
  | 0, t, E, ht, h0, h1, h2 => ⟨h0, fun u hu => h2 u (by omega)⟩
  | k + 1, t, E, ht, h0, h1, h2 => by
    have hv : rk (8 + t) < p + 1 → aDe E (tr (8 + t)) = D (8 + t) := fun hp => by
      rw [hD t (by omega)]
      refine aDe_eq (fun T x hT hx => ?_)
      have h24 := hok t T x (by omega) hT hx
      rcases Nat.lt_or_ge x.1 8 with h8 | h8
      · rw [h0 _ h8, hD0 _ h8]
      · have e : x.1 = 8 + (x.1 - 8) := by omega
        have := hr t T x (by omega) hT hx h8
        rw [e] at this ⊢
        exact h1 _ (by omega) (by omega)
    rw [dpT]
    refine dpT_inv hok hr hD hD0 k (t + 1) _ (by omega) (fun q hq => ?_) (fun u hu hp => ?_) (fun u hu hp => ?_)
    · rw [va_up_ne _ _ (by omega)]; exact h0 q hq
    · by_cases e : u = t
      · subst e; rw [va_up_self]; exact hv (by omega)
      · rw [va_up_ne _ _ (by omega)]; exact h1 u hu hp
    · by_cases e : u = t
      · subst e; rw [va_up_self]; exact hv hp
      · rw [va_up_ne _ _ (by omega)]; exact h2 u (by omega) hp
theorem dpR_inv {tr : Nat → Option aAcc} {D : Nat → Nat} (hok : trOk tr) {rk : Nat → Nat} (hr : ∀ (t : Nat) (T : aAcc) (x : Nat × List Q4), t < 16 → tr (8 + t) = some T → x ∈ T → 8 ≤ x.1 → rk x.1 < rk (8 + t)) (hD : ∀ t, t < 16 → D (8 + t) = aDe D (tr (8 + t))) (hD0 : ∀ k, k < 8 → D k = 0) : ∀ (n p : Nat) (E : Nat → Nat), (∀ q, q < 8 → E q = 0) → (∀ u, u < 16 → rk (8 + u) < p → E (8 + u) = D (8 + u)) → (∀ q, q < 8 → dpR tr n E q = 0) ∧ ∀ u, u < 16 → rk (8 + u) < p + n → dpR tr n E (8 + u) = D (8 + u)
  | 0, p, E, h0, h1 => ⟨h0, h1⟩
  | n + 1, p, E, h0, h1 => by
    obtain ⟨g0, g1⟩ := dpT_inv hok hr hD hD0 (p := p) 16 0 E (by omega) h0 h1 (fun u hu => by omega)
    obtain ⟨k0, k1⟩ := dpR_inv hok hr hD hD0 n (p + 1) _ g0 g1
    exact ⟨k0, fun u hu hp => k1 u hu (by omega)⟩
theorem dpR_dep {tr : Nat → Option aAcc} (hok : trOk tr) (h : noRing tr) {k : Nat} (hk : k < 24) : dpR tr 24 (fun _ => 0) k = aDep tr k := by
  obtain ⟨rk, h1, h2⟩ := h.small hok
  obtain ⟨g0, g1⟩ := dpR_inv hok h2 (fun t ht => aDep_eq hok h ht) (fun k hk => aDp_i _ _ hk) 24 0 (fun _ => 0) (fun _ _ => rfl) (fun u _ hp => absurd hp (Nat.not_lt_zero _))
  rcases Nat.lt_or_ge k 8 with h8 | h8
  · rw [g0 k h8]; exact (aDp_i _ _ h8).symm
  · have e : k = 8 + (k - 8) := by omega
    rw [e]
    exact g1 _ (by omega) (by have := h1 (k - 8) (by omega); omega)
def DpM (M : MS) (E : Nat → Nat) : Prop := ∀ q, q < 24 → M.2.1 16 q = nI (E q)
theorem RP.d16 {bk : BK} {M M' : MS} {C : CS} (h : RP bk M C) (h1 : M'.1 = M.1) (h2 : ∀ j, j ≠ 16 → M'.2.1 j = M.2.1 j) (h3 : M'.2.2 = M.2.2) : RP bk M' C := h.of (fun j _ => by rw [h1]) (fun j hj => h2 j (by omega)) (by rw [h3])
section M71
variable {B : Nat} {D : va_G} {n w r : Nat} {f : Nat → Option va_E} {bk : BK} {C : CS}
theorem l_X7_depth_11 {d : Nat} {k : Int32} : ∀ (q j : Nat) (M : MS), j + q = 24 → ∃ M' : MS, (∀ rr h1, EX B D d mX7_depth 30 [some (.ref r), some (.int k), some (.int (nI 24)), none, none, none] [] (n, w, mH r f M') rr h1 → EX B D d mX7_depth 11 [some (.ref r), some (.int k), some (.int (nI j)), none, none, none] [] (n, w, mH r f M) rr h1) ∧ M'.1 = M.1 ∧ M'.2.2 = M.2.2 ∧ (∀ i, i ≠ 16 → M'.2.1 i = M.2.1 i) ∧ (∀ p, j ≤ p → p < 24 → M'.2.1 16 p = 0) ∧ ∀ p, p < j → M'.2.1 16 p = M.2.1 16 p
  | 0, j, M, hj => by
    have : j = 24 := by omega
    subst this
    refine ⟨M, fun rr h1 hk => ?_, rfl, rfl, fun _ _ => rfl, fun p h1 h2 => by omega, fun p _ => rfl⟩
    refine px_iload_n dX7_depth_11 rfl ?_
    refine px_bipush (v := 24) dX7_depth_12 (by decide) ?_
    refine px_icmp_ge (tgt := 30) dX7_depth_14 (by decide) (fun hc14 => ?_) (fun hc14 => ?_)
    · exact hk
    · exact absurd (by decide) hc14
  | q + 1, j, M, hj => by
    obtain ⟨M', e1, e2, e3, e4, e5, e6⟩ := l_X7_depth_11 (d := d) (k := k) q (j + 1) (M.sa 16 j 0) (by omega)
    have e16 : (M.sa 16 j 0).2.1 16 = va_up (M.2.1 16) j 0 := rfl
    rw [e16] at e6
    refine ⟨M', fun rr h1 hk => ?_, e2, e3, fun i hi => (e4 i hi).trans (va_up_ne _ _ hi), fun p h1 h2 => ?_, fun p hp => ?_⟩
    · have e1 := e1 rr h1 hk
      refine px_iload_n dX7_depth_11 rfl ?_
      refine px_bipush (v := 24) dX7_depth_12 (by decide) ?_
      refine px_icmp_ge (tgt := 30) dX7_depth_14 (by decide) (fun hc14 => ?_) (fun hc14 => ?_)
      · exact absurd hc14 (nI_ge (a := j) (b := 24) (by omega) (by omega))
      · refine px_aload_n dX7_depth_17 rfl ?_
        refine mx_get fl_X7_85 dX7_depth_18 rfl ?_
        refine px_iload_n dX7_depth_21 rfl ?_
        refine px_iconst (v := 0) dX7_depth_22 (by decide) ?_
        refine mx_iastore (j := 16) (m := 24) (q := j) dX7_depth_23 (by decide) (by first | rfl | (simp (disch := omega) only [li0, li1, li2, li3, li5, li6, li8, li9, li10, li12, li13, li16, li20, li24, li25, li100, li408, li424, li824, nI_add, nI_mul, nI_sub]; first | done | rfl | (congr 1; omega))) (by omega) ?_
        refine px_iinc2 rfl (nI_inc j) dX7_depth_24 ?_
        refine px_goto (tgt := 11) dX7_depth_27 (by decide) ?_
        exact e1
    · by_cases e : p = j
      · subst e; rw [e6 p (by omega), va_up_self]
      · exact e5 p (by omega) h2
    · rw [e6 p (by omega), va_up_ne _ _ (by omega)]
theorem l_X7_depth_53 {d t j b : Nat} {k : Int32} {M : MS} {E : Nat → Nat} (hd : 2 ≤ d) (ht : t < 16) {T : aAcc} (hT : T.length ≤ 12 ∧ M.2.1 5 (424 + 25 * t) = nI T.length ∧ ∀ (i : Nat) (x : Nat × List Q4), T[i]? = some x → M.2.1 5 (424 + 25 * t + 1 + i) = nI x.1 ∧ x.1 < 24) (hE : DpM M E) (hb : ∀ q, E q ≤ b) (hb2 : b < 2 ^ 31) {rr : Option Value} {h1 : pm_H} : ∀ (U : aAcc) (i m : Nat), T.drop i = U → i ≤ T.length → m ≤ b → EX B D d mX7_depth 96 [some (.ref r), some (.int k), some (.int (nI j)), some (.int (nI (8 + t))), some (.int (nI (max m (aMx E U)))), some (.int (nI T.length))] [] (n, w, mH r f M) rr h1 → EX B D d mX7_depth 53 [some (.ref r), some (.int k), some (.int (nI j)), some (.int (nI (8 + t))), some (.int (nI m)), some (.int (nI i))] [] (n, w, mH r f M) rr h1
  | [], i, m, hU, hi, hm, hk => by
    have hi2 : i = T.length := by have := List.drop_eq_nil_iff.mp hU; omega
    subst hi2
    have e : max m (aMx E []) = m := Nat.max_eq_left (Nat.zero_le _)
    rw [e] at hk
    refine px_iload dX7_depth_53 rfl ?_
    refine px_aload_n dX7_depth_55 rfl ?_
    refine px_iload_n dX7_depth_56 rfl ?_
    refine px_callV1 (ν := mX7_traced) (ci := 7) rfl rfl lk_X7_147 in_X7_traced se_X7_traced mok_X7_traced dX7_depth_57 (c_X7_traced ht) (by exact mH_0) rfl rfl (by omega) (by simp) ?_
    rw [hT.2.1]
    refine px_icmp_ge (tgt := 96) dX7_depth_60 (by decide) (fun hc60 => ?_) (fun hc60 => ?_)
    · exact hk
    · exact absurd (Int32.le_refl _) hc60
  | x :: U, i, m, hU, hi, hm, hk => by
    have hx : T[i]? = some x := by have := congrArg List.head? hU; rwa [List.head?_drop] at this
    have hi2 : i < T.length := (List.getElem?_eq_some_iff.mp hx).1
    have hU2 : T.drop (i + 1) = U := by rw [← List.drop_drop, hU]; rfl
    have h12 := hT.1
    obtain ⟨x1, x2⟩ := hT.2.2 i x hx
    have hEx := hE x.1 x2
    have hbx := hb x.1
    have e : max m (aMx E (x :: U)) = max (max m (E x.1)) (aMx E U) := by
      show max m (max (E x.1) (aMx E U)) = _
      omega
    rw [e] at hk
    have ih := l_X7_depth_53 (d := d) (j := j) (k := k) hd ht hT hE hb hb2 U (i + 1) (max m (E x.1)) hU2 (by omega) (by omega) hk
    refine px_iload dX7_depth_53 rfl ?_
    refine px_aload_n dX7_depth_55 rfl ?_
    refine px_iload_n dX7_depth_56 rfl ?_
    refine px_callV1 (ν := mX7_traced) (ci := 7) rfl rfl lk_X7_147 in_X7_traced se_X7_traced mok_X7_traced dX7_depth_57 (c_X7_traced ht) (by exact mH_0) rfl rfl (by omega) (by simp) ?_
    rw [hT.2.1]
    refine px_icmp_ge (tgt := 96) dX7_depth_60 (by decide) (fun hc60 => ?_) (fun hc60 => ?_)
    · exact absurd hc60 (nI_ge hi2 (by omega))
    · refine px_iload dX7_depth_63 rfl ?_
      refine px_aload_n dX7_depth_65 rfl ?_
      refine mx_get fl_X7_85 dX7_depth_66 rfl ?_
      refine px_aload_n dX7_depth_69 rfl ?_
      refine mx_get fl_X7_48 dX7_depth_70 rfl ?_
      refine px_aload_n dX7_depth_73 rfl ?_
      refine px_iload_n dX7_depth_74 rfl ?_
      refine px_callV1 (ν := mX7_traceAt) (ci := 7) rfl rfl lk_X7_98 in_X7_traceAt se_X7_traceAt mok_X7_traceAt dX7_depth_75 (c_X7_traceAt ht) (by exact mH_0) rfl rfl (by omega) (by simp) ?_
      refine px_iconst (v := 1) dX7_depth_78 (by decide) ?_
      refine px_iadd dX7_depth_79 ?_
      refine px_iload dX7_depth_80 rfl ?_
      refine px_iadd dX7_depth_82 ?_
      refine mx_iaload (j := 5) (m := 824) (q := 424 + 25 * t + 1 + i) dX7_depth_83 (by decide) (by first | rfl | (simp (disch := omega) only [li0, li1, li2, li3, li5, li6, li8, li9, li10, li12, li13, li16, li20, li24, li25, li100, li408, li424, li824, nI_add, nI_mul, nI_sub]; first | done | rfl | (congr 1; omega))) (by omega) ?_
      rw [x1]
      refine mx_iaload (j := 16) (m := 24) (q := x.1) dX7_depth_84 (by decide) (by rfl) (by exact x2) ?_
      rw [hEx]
      refine px_mmax lk_X7_226 (by omega) (by simp) dX7_depth_85 ?_
      rw [nI_max (by omega) (by omega)]
      refine px_istore4 rfl dX7_depth_88 ?_
      refine px_iinc5 rfl (nI_inc i) dX7_depth_90 ?_
      refine px_goto (tgt := 53) dX7_depth_93 (by decide) ?_
      exact ih
theorem l_X7_depth_41 {d j : Nat} {k : Int32} (hd : 2 ≤ d) : ∀ (q t : Nat) (M : MS) (E : Nat → Nat) (b : Nat), t + q = 16 → RP bk M C → DpM M E → (∀ p, E p ≤ b) → b + q < 2 ^ 30 → ∃ M' : MS, (∀ rr h1, (∀ z4 z5 : Option Value, EX B D d mX7_depth 125 [some (.ref r), some (.int k), some (.int (nI j)), some (.int (nI 24)), z4, z5] [] (n, w, mH r f M') rr h1) → ∀ z4 z5 : Option Value, EX B D d mX7_depth 41 [some (.ref r), some (.int k), some (.int (nI j)), some (.int (nI (8 + t))), z4, z5] [] (n, w, mH r f M) rr h1) ∧ RP bk M' C ∧ DpM M' (dpT C.1.1.A.tr q t E)
  | 0, t, M, E, b, ht, h, hE, hb, hb2 => by
    have : t = 16 := by omega
    subst this
    refine ⟨M, fun rr h1 hk z4 z5 => ?_, h, hE⟩
    have hk := hk z4 z5
    refine px_iload_n dX7_depth_41 rfl ?_
    refine px_bipush (v := 24) dX7_depth_42 (by decide) ?_
    refine px_icmp_ge (tgt := 125) dX7_depth_44 (by decide) (fun hc44 => ?_) (fun hc44 => ?_)
    · exact hk
    · exact absurd (by decide) hc44
  | q + 1, t, M, E, b, ht, h, hE, hb, hb2 => by
    have ht2 : t < 16 := by omega
    have hTT := h.2.1.1.2.2.2 t ht2 rfl
    have hdb := aDe_b (o := C.1.1.A.tr (8 + t)) hb
    have hE2 : DpM (M.sa 16 (8 + t) (nI (aDe E (C.1.1.A.tr (8 + t))))) (va_up E (8 + t) (aDe E (C.1.1.A.tr (8 + t)))) := fun p hp => by
      show va_up M.2.1 16 (va_up (M.2.1 16) (8 + t) _) 16 p = _
      rw [va_up_self]
      by_cases e : p = 8 + t
      · subst e; rw [va_up_self, va_up_self]
      · rw [va_up_ne _ _ e, va_up_ne _ _ e]; exact hE p hp
    obtain ⟨M', g1, g2, g3⟩ := l_X7_depth_41 (d := d) (j := j) (k := k) hd q (t + 1) (M.sa 16 (8 + t) (nI (aDe E (C.1.1.A.tr (8 + t))))) _ (b + 1) (by omega) (h.d16 rfl (fun i hi => va_up_ne _ _ hi) rfl) hE2 (fun p => by
      by_cases e : p = 8 + t
      · subst e; rw [va_up_self]; exact hdb
      · rw [va_up_ne _ _ e]; have := hb p; omega) (by omega)
    refine ⟨M', fun rr h1 hk z4 z5 => ?_, g2, g3⟩
    have g1 := g1 rr h1 hk
    have hlt : ¬ (24 : Int32) ≤ nI (8 + t) := nI_ge (a := 8 + t) (b := 24) (by omega) (by omega)
    cases hr : C.1.1.A.tr (8 + t) with
    | none =>
      rw [hr] at hTT g1
      have hTT : M.2.1 5 (424 + 25 * t) = -1 := hTT
      have g1 := g1 (some (.int 0)) (some (.int 0))
      refine px_iload_n dX7_depth_41 rfl ?_
      refine px_bipush (v := 24) dX7_depth_42 (by decide) ?_
      refine px_icmp_ge (tgt := 125) dX7_depth_44 (by decide) (fun hc44 => ?_) (fun hc44 => ?_)
      · exact absurd hc44 hlt
      · refine px_iconst (v := 0) dX7_depth_47 (by decide) ?_
        refine px_istore4 rfl dX7_depth_48 ?_
        refine px_iconst (v := 0) dX7_depth_50 (by decide) ?_
        refine px_istore5 rfl dX7_depth_51 ?_
        refine px_iload dX7_depth_53 rfl ?_
        refine px_aload_n dX7_depth_55 rfl ?_
        refine px_iload_n dX7_depth_56 rfl ?_
        refine px_callV1 (ν := mX7_traced) (ci := 7) rfl rfl lk_X7_147 in_X7_traced se_X7_traced mok_X7_traced dX7_depth_57 (c_X7_traced ht2) (by exact mH_0) rfl rfl (by omega) (by simp) ?_
        rw [hTT]
        refine px_icmp_ge (tgt := 96) dX7_depth_60 (by decide) (fun hc60 => ?_) (fun hc60 => ?_)
        · refine px_aload_n dX7_depth_96 rfl ?_
          refine mx_get fl_X7_85 dX7_depth_97 rfl ?_
          refine px_iload_n dX7_depth_100 rfl ?_
          refine px_aload_n dX7_depth_101 rfl ?_
          refine px_iload_n dX7_depth_102 rfl ?_
          refine px_callV1 (ν := mX7_traced) (ci := 7) rfl rfl lk_X7_147 in_X7_traced se_X7_traced mok_X7_traced dX7_depth_103 (c_X7_traced ht2) (by exact mH_0) rfl rfl (by omega) (by simp) ?_
          rw [hTT]
          refine px_iconst (v := 1) dX7_depth_106 (by decide) ?_
          refine px_icmp_ge (tgt := 114) dX7_depth_107 (by decide) (fun hc107 => ?_) (fun hc107 => ?_)
          · exact absurd hc107 (by decide)
          · refine px_iconst (v := 0) dX7_depth_110 (by decide) ?_
            refine px_goto (tgt := 118) dX7_depth_111 (by decide) ?_
            refine mx_iastore (j := 16) (m := 24) (q := 8 + t) dX7_depth_118 (by decide) (by first | rfl | (simp (disch := omega) only [li0, li1, li2, li3, li5, li6, li8, li9, li10, li12, li13, li16, li20, li24, li25, li100, li408, li424, li824, nI_add, nI_mul, nI_sub]; first | done | rfl | (congr 1; omega))) (by omega) ?_
            refine px_iinc3 rfl (nI_inc (8 + t)) dX7_depth_119 ?_
            refine px_goto (tgt := 41) dX7_depth_122 (by decide) ?_
            exact g1
        · exact absurd (by decide) hc60
    | some T =>
      rw [hr] at hTT g1
      obtain ⟨t1, t2, t3⟩ := hTT
      have g1 := g1 (some (.int (nI (max 0 (aMx E T))))) (some (.int (nI T.length)))
      have em : max 0 (aMx E T) = aMx E T := Nat.max_eq_right (Nat.zero_le _)
      have k96 : EX B D d mX7_depth 96 [some (.ref r), some (.int k), some (.int (nI j)), some (.int (nI (8 + t))), some (.int (nI (max 0 (aMx E T)))), some (.int (nI T.length))] [] (n, w, mH r f M) rr h1 := by
        cases T with
        | nil =>
          refine px_aload_n dX7_depth_96 rfl ?_
          refine mx_get fl_X7_85 dX7_depth_97 rfl ?_
          refine px_iload_n dX7_depth_100 rfl ?_
          refine px_aload_n dX7_depth_101 rfl ?_
          refine px_iload_n dX7_depth_102 rfl ?_
          refine px_callV1 (ν := mX7_traced) (ci := 7) rfl rfl lk_X7_147 in_X7_traced se_X7_traced mok_X7_traced dX7_depth_103 (c_X7_traced ht2) (by exact mH_0) rfl rfl (by omega) (by simp) ?_
          rw [t2]
          refine px_iconst (v := 1) dX7_depth_106 (by decide) ?_
          refine px_icmp_ge (tgt := 114) dX7_depth_107 (by decide) (fun hc107 => ?_) (fun hc107 => ?_)
          · exact absurd hc107 (by decide)
          · refine px_iconst (v := 0) dX7_depth_110 (by decide) ?_
            refine px_goto (tgt := 118) dX7_depth_111 (by decide) ?_
            refine mx_iastore (j := 16) (m := 24) (q := 8 + t) dX7_depth_118 (by decide) (by first | rfl | (simp (disch := omega) only [li0, li1, li2, li3, li5, li6, li8, li9, li10, li12, li13, li16, li20, li24, li25, li100, li408, li424, li824, nI_add, nI_mul, nI_sub]; first | done | rfl | (congr 1; omega))) (by omega) ?_
            refine px_iinc3 rfl (nI_inc (8 + t)) dX7_depth_119 ?_
            refine px_goto (tgt := 41) dX7_depth_122 (by decide) ?_
            exact g1
        | cons y U =>
          have hv : nI (aMx E (y :: U)) + 1 = nI (aDe E (some (y :: U))) := by rw [nI_1]; rfl
          rw [em] at g1 ⊢
          refine px_aload_n dX7_depth_96 rfl ?_
          refine mx_get fl_X7_85 dX7_depth_97 rfl ?_
          refine px_iload_n dX7_depth_100 rfl ?_
          refine px_aload_n dX7_depth_101 rfl ?_
          refine px_iload_n dX7_depth_102 rfl ?_
          refine px_callV1 (ν := mX7_traced) (ci := 7) rfl rfl lk_X7_147 in_X7_traced se_X7_traced mok_X7_traced dX7_depth_103 (c_X7_traced ht2) (by exact mH_0) rfl rfl (by omega) (by simp) ?_
          rw [t2]
          refine px_iconst (v := 1) dX7_depth_106 (by decide) ?_
          refine px_icmp_ge (tgt := 114) dX7_depth_107 (by decide) (fun hc107 => ?_) (fun hc107 => ?_)
          · refine px_iload dX7_depth_114 rfl ?_
            refine px_iconst (v := 1) dX7_depth_116 (by decide) ?_
            refine px_iadd dX7_depth_117 ?_
            rw [hv]
            refine mx_iastore (j := 16) (m := 24) (q := 8 + t) dX7_depth_118 (by decide) (by first | rfl | (simp (disch := omega) only [li0, li1, li2, li3, li5, li6, li8, li9, li10, li12, li13, li16, li20, li24, li25, li100, li408, li424, li824, nI_add, nI_mul, nI_sub]; first | done | rfl | (congr 1; omega))) (by omega) ?_
            refine px_iinc3 rfl (nI_inc (8 + t)) dX7_depth_119 ?_
            refine px_goto (tgt := 41) dX7_depth_122 (by decide) ?_
            exact g1
          · exact absurd (show (1 : Int32) ≤ nI (U.length + 1) from nI_le (a := 1) (by omega) (by simp at t1; omega)) hc107
      refine px_iload_n dX7_depth_41 rfl ?_
      refine px_bipush (v := 24) dX7_depth_42 (by decide) ?_
      refine px_icmp_ge (tgt := 125) dX7_depth_44 (by decide) (fun hc44 => ?_) (fun hc44 => ?_)
      · exact absurd hc44 hlt
      · refine px_iconst (v := 0) dX7_depth_47 (by decide) ?_
        refine px_istore4 rfl dX7_depth_48 ?_
        refine px_iconst (v := 0) dX7_depth_50 (by decide) ?_
        refine px_istore5 rfl dX7_depth_51 ?_
        exact l_X7_depth_53 hd ht2 ⟨t1, t2, fun i x hx => ⟨(t3 i x hx).1, (t3 i x hx).2.1⟩⟩ hE hb (by omega) T 0 0 rfl (Nat.zero_le _) (Nat.zero_le _) k96
theorem l_X7_depth_32 {d : Nat} {k : Int32} (hd : 2 ≤ d) : ∀ (q j : Nat) (M : MS) (E : Nat → Nat) (b : Nat), j + q = 24 → RP bk M C → DpM M E → (∀ p, E p ≤ b) → b + 16 * q < 2 ^ 29 → ∃ M' : MS, (∀ rr h1, (∀ z3 z4 z5 : Option Value, EX B D d mX7_depth 131 [some (.ref r), some (.int k), some (.int (nI 24)), z3, z4, z5] [] (n, w, mH r f M') rr h1) → ∀ z3 z4 z5 : Option Value, EX B D d mX7_depth 32 [some (.ref r), some (.int k), some (.int (nI j)), z3, z4, z5] [] (n, w, mH r f M) rr h1) ∧ RP bk M' C ∧ DpM M' (dpR C.1.1.A.tr q E)
  | 0, j, M, E, b, hj, h, hE, hb, hb2 => by
    have : j = 24 := by omega
    subst this
    refine ⟨M, fun rr h1 hk z3 z4 z5 => ?_, h, hE⟩
    have hk := hk z3 z4 z5
    refine px_iload_n dX7_depth_32 rfl ?_
    refine px_bipush (v := 24) dX7_depth_33 (by decide) ?_
    refine px_icmp_ge (tgt := 131) dX7_depth_35 (by decide) (fun hc35 => ?_) (fun hc35 => ?_)
    · exact hk
    · exact absurd (by decide) hc35
  | q + 1, j, M, E, b, hj, h, hE, hb, hb2 => by
    obtain ⟨M1, g1, g2, g3⟩ := l_X7_depth_41 (B := B) (D := D) (n := n) (w := w) (r := r) (f := f) (d := d) (j := j) (k := k) hd 16 0 M E b (by omega) h hE hb (by omega)
    obtain ⟨M', e1, e2, e3⟩ := l_X7_depth_32 (d := d) (k := k) hd q (j + 1) M1 _ (b + 16) (by omega) g2 g3 (dpT_b 16 0 E b hb) (by omega)
    refine ⟨M', fun rr h1 hk z3 z4 z5 => ?_, e2, e3⟩
    have e1 := e1 rr h1 hk
    have k125 : ∀ z4 z5 : Option Value, EX B D d mX7_depth 125 [some (.ref r), some (.int k), some (.int (nI j)), some (.int (nI 24)), z4, z5] [] (n, w, mH r f M1) rr h1 := fun z4 z5 => by
      have e1 := e1 (some (.int (nI 24))) z4 z5
      refine px_iinc2 rfl (nI_inc j) dX7_depth_125 ?_
      refine px_goto (tgt := 32) dX7_depth_128 (by decide) ?_
      exact e1
    have g1 := g1 rr h1 k125 z4 z5
    refine px_iload_n dX7_depth_32 rfl ?_
    refine px_bipush (v := 24) dX7_depth_33 (by decide) ?_
    refine px_icmp_ge (tgt := 131) dX7_depth_35 (by decide) (fun hc35 => ?_) (fun hc35 => ?_)
    · exact absurd hc35 (nI_ge (a := j) (b := 24) (by omega) (by omega))
    · refine px_bipush (v := 8) dX7_depth_38 (by decide) ?_
      refine px_istore3 rfl dX7_depth_40 ?_
      exact g1
theorem WI.ok {A : AW} (h : WI A) : trOk A.tr ∧ noRing A.tr := ⟨fun t T x ht hT hx => (h.2.1 t ht).2.2 T x hT hx, h.2.2⟩
theorem m_depth {M : MS} (h : RP bk M C) (k : Int32) : RQ B D n w r f 50 mX7_depth [.int k] bk M (.int (v_depth C.1.1.A k)) C := by
  by_cases hk : s_isKey k = true
  · obtain ⟨j, hj, rfl⟩ := inK.mp hk
    obtain ⟨o1, o2⟩ := h.2.1.2.ok
    have h0 : v_depth C.1.1.A (nI j) = nI (dpR C.1.1.A.tr 24 (fun _ => 0) j) := by unfold v_depth; rw [if_pos hk, nI_clamp (by omega), dpR_dep o1 o2 hj]
    rw [h0]
    obtain ⟨M1, a1, a2, a3, a4, a5, -⟩ := l_X7_depth_11 (B := B) (D := D) (n := n) (w := w) (r := r) (f := f) (d := 50) (k := nI j) 24 0 M (by omega)
    have h1 := h.d16 a2 a4 a3
    obtain ⟨M', b1, b2, b3⟩ := l_X7_depth_32 (B := B) (D := D) (n := n) (w := w) (r := r) (f := f) (d := 50) (k := nI j) (by omega) 24 0 M1 (fun _ => 0) 0 (by omega) h1 (fun q hq => a5 q (Nat.zero_le _) hq) (fun _ => Nat.le_refl _) (by omega)
    refine ⟨M', bk, ?_, b2, by omega⟩
    have hres := b3 j hj
    have k131 : ∀ z3 z4 z5 : Option Value, EX B D 50 mX7_depth 131 [some (.ref r), some (.int (nI j)), some (.int (nI 24)), z3, z4, z5] [] (n, w, mH r f M') (some (.int (nI (dpR C.1.1.A.tr 24 (fun _ => 0) j)))) (n, w, mH r f M') := fun z3 z4 z5 => by
      refine px_aload_n dX7_depth_131 rfl ?_
      refine mx_get fl_X7_85 dX7_depth_132 rfl ?_
      refine px_iload_n dX7_depth_135 rfl ?_
      refine mx_iaload (j := 16) (m := 24) (q := j) dX7_depth_136 (by decide) (by first | rfl | (simp (disch := omega) only [li0, li1, li2, li3, li5, li6, li8, li9, li10, li12, li13, li16, li20, li24, li25, li100, li408, li424, li824, nI_add, nI_mul, nI_sub]; first | done | rfl | (congr 1; omega))) (by exact hj) ?_
      exact px_reti dX7_depth_137 (by rw [hres]) (by rfl)
    have b1 := b1 _ _ k131 none none none
    refine CT.of [some (.ref r), some (.int (nI j)), none, none, none, none] rfl (Nat.le_of_ble_eq_true rfl) pl_X7 trivial ?_
    refine px_iload_n dX7_depth_0 rfl ?_
    refine px_callS1 (ν := mX7_isKey) lk_X7_208 st_X7_isKey mok_X7_isKey dX7_depth_1 (cr_isKey _) rfl rfl (by omega) (by simp) ?_
    refine px_ifb_ne (tgt := 9) dX7_depth_4 (by decide) (fun hc4 => ?_) (fun hc4 => ?_)
    · refine px_iconst (v := 0) dX7_depth_9 (by decide) ?_
      refine px_istore2 rfl dX7_depth_10 ?_
      refine a1 _ _ ?_
      refine px_iconst (v := 0) dX7_depth_30 (by decide) ?_
      refine px_istore2 rfl dX7_depth_31 ?_
      exact b1
    · rw [hk] at hc4; cases hc4
  · have h0 : v_depth C.1.1.A k = -1 := by unfold v_depth; rw [if_neg hk]
    rw [h0]
    refine RQ.same h ?_
    refine CT.of [some (.ref r), some (.int k), none, none, none, none] rfl (Nat.le_of_ble_eq_true rfl) pl_X7 trivial ?_
    refine px_iload_n dX7_depth_0 rfl ?_
    refine px_callS1 (ν := mX7_isKey) lk_X7_208 st_X7_isKey mok_X7_isKey dX7_depth_1 (cr_isKey _) rfl rfl (by omega) (by simp) ?_
    refine px_ifb_ne (tgt := 9) dX7_depth_4 (by decide) (fun hc4 => ?_) (fun hc4 => ?_)
    · exact absurd hc4 hk
    · refine px_iconst (v := (-1)) dX7_depth_7 (by decide) ?_
      exact px_reti dX7_depth_8 (by rfl) (by rfl)
end M71
