/-! a BUILD of a set of TARGETS in the reference -/
theorem bv_and1 (y : BitVec 32) : y &&& 1#32 = 1#32 ↔ y.getLsbD 0 = true := by
  constructor
  · intro h
    have h1 := congrArg (fun z : BitVec 32 => z.getLsbD 0) h
    simpa using h1
  · intro h
    ext i hi
    by_cases h0 : i = 0
    · subst h0
      simp at h ⊢
      exact h
    · simp [h0]
theorem bv_bit (x : BitVec 32) {t : Nat} (ht : t < 32) : x &&& (1#32 <<< t) = 0#32 ↔ x.getLsbD t = false := by
  constructor
  · intro h
    have h1 := congrArg (fun z : BitVec 32 => z.getLsbD t) h
    simpa [ht] using h1
  · intro h
    ext i hi
    by_cases h0 : i = t
    · subst h0
      have : x[i] = false := by rw [← BitVec.getLsbD_eq_getElem]; exact h
      simp [this]
    · by_cases h1 : i < t
      · simp [h1]
      · have : i - t ≠ 0 := by omega
        simp [this]
theorem shr_bit (x : Int32) {t : Nat} (ht : t < 16) : (x >>> (nI t &&& 31)) &&& 1 = 1 ↔ s_isIn x (nI (8 + t)) = true := by
  have e : (nI t &&& 31).toBitVec.smod 32 = BitVec.ofNat 32 t := by
    have key : ∀ t : Fin 16, (nI t.val &&& 31).toBitVec.smod 32 = BitVec.ofNat 32 t.val := by decide +kernel
    exact key ⟨t, ht⟩
  have e2 : (BitVec.ofNat 32 t).toNat = t := by rw [BitVec.toNat_ofNat]; exact Nat.mod_eq_of_lt (by omega)
  rw [s_isIn, bitOf_t ht]
  have h1 : (x >>> (nI t &&& 31)).toBitVec = x.toBitVec.sshiftRight t := by
    show x.toBitVec.sshiftRight' ((nI t &&& 31).toBitVec.smod 32) = _
    rw [e]
    show x.toBitVec.sshiftRight (BitVec.ofNat 32 t).toNat = _
    rw [e2]
  have h2 : ((1 : Int32) <<< (nI t &&& 31)).toBitVec = 1#32 <<< t := by
    show (1 : Int32).toBitVec <<< ((nI t &&& 31).toBitVec.smod 32) = _
    rw [e]
    show 1#32 <<< (BitVec.ofNat 32 t).toNat = _
    rw [e2]
  rw [← Int32.toBitVec_inj]
  simp only [Bool.not_eq_true', decide_eq_false_iff_not]
  rw [← Int32.toBitVec_inj, Int32.toBitVec_and, Int32.toBitVec_and, h1, h2]
  show _ &&& 1#32 = 1#32 ↔ ¬ _ = 0#32
  rw [bv_and1, bv_bit _ (by omega), BitVec.getLsbD_sshiftRight]
  have h32 : ¬ 32 ≤ t := by omega
  simp
  exact fun h => absurd h h32
/-- what always holds of a world -/
def WI (A : AW) : Prop := vRu A ∧ (∀ t, t < 16 → (A.tr (8 + t) ≠ none → A.rs (8 + t) ≠ none) ∧ (A.ru (8 + t) = [] → A.tr (8 + t) = none) ∧ ∀ (T : aAcc) (x : Nat × List Q4), A.tr (8 + t) = some T → x ∈ T → x.1 < 24) ∧ noRing A.tr
theorem WI.gi {S : BS} (h : WI S.A) : GI (aForget S) := by
  obtain ⟨h1, h2, rk, h3⟩ := h
  have hf : ∀ t, (aForget S).dn (8 + t) = true → False := fun t h => by cases h
  exact ⟨h1, cd_none.symm, fun t ht hd => (hf t hd).elim, fun t ht _ => h2 t ht, rk, 0, fun t ht hd => (hf t hd).elim, fun t ht _ => Nat.zero_le _, fun t T x ht _ hT hx h8 => h3 t T x ht hT hx h8⟩
theorem GI.wi {S : BS} (h : GI S) (ho : ∀ t, t < 16 → S.op (8 + t) = false) : WI S.A := by
  obtain ⟨h1, h2, h3, h4, rk, N, h5, h6, h7⟩ := h
  exact ⟨h1, fun t ht => h4 t ht (ho t ht), rk, fun t T x ht hT hx h8 => h7 t T x ht (ho t ht) hT hx h8⟩
def NQ (M : MS) (S : BS) : Prop := M.1 14 = nI S.ord.length ∧ (∀ (i x : Nat), S.ord[i]? = some x → M.2.1 11 i = nI x) ∧ M.1 16 = S.st ∧ M.1 17 = S.po ∧ M.1 18 = S.sp ∧ M.1 19 = S.cu
/-- what a call that BUILDS leaves as it was -/
def Fc (M M' : MS) : Prop := (∀ j, j = 8 ∨ j = 10 → M'.1 j = M.1 j) ∧ (∀ j, (6 ≤ j ∧ j ≤ 8) ∨ 14 ≤ j → M'.2.1 j = M.2.1 j) ∧ M'.2.2 = M.2.2
theorem Fb.c {M M' : MS} (h : Fb M M') : Fc M M' := ⟨fun j hj => h.1 j (by omega), h.2⟩
theorem Fc.rf (M : MS) : Fc M M := ⟨fun _ _ => rfl, fun _ _ => rfl, rfl⟩
theorem Fc.tra {M N K : MS} (h1 : Fc M N) (h2 : Fc N K) : Fc M K := ⟨fun j a => (h2.1 j a).trans (h1.1 j a), fun j a => (h2.2.1 j a).trans (h1.2.1 j a), h2.2.2.trans h1.2.2⟩
section M63
variable {B : Nat} {D : va_G} {n w r : Nat} {f : Nat → Option va_E} {bk : BK} {M : MS} {S : BS}
abbrev noX : Nat → Bool := fun _ => false
theorem l_X7_built_2 {d : Nat} {set : Int32} {stop : Bool} {z4 : Option Value} : ∀ (k j : Nat) (M : MS), j + k = 24 → ∃ M' : MS, (∀ rr h1, EX B D d mX7_built 28 [some (.ref r), some (.int set), some (.int (bi stop)), some (.int (nI 24)), z4] [] (n, w, mH r f M') rr h1 → EX B D d mX7_built 2 [some (.ref r), some (.int set), some (.int (bi stop)), some (.int (nI j)), z4] [] (n, w, mH r f M) rr h1) ∧ M'.1 = M.1 ∧ M'.2.2 = M.2.2 ∧ (∀ i, i ≠ 9 → i ≠ 10 → M'.2.1 i = M.2.1 i) ∧ (∀ q, j ≤ q → q < 24 → M'.2.1 9 q = 0 ∧ M'.2.1 10 q = 0) ∧ (∀ q, q < j → M'.2.1 9 q = M.2.1 9 q ∧ M'.2.1 10 q = M.2.1 10 q)
  | 0, j, M, hj => by
    have : j = 24 := by omega
    subst this
    refine ⟨M, fun rr h1 hk => ?_, rfl, rfl, fun _ _ _ => rfl, fun q h1 h2 => by omega, fun q _ => ⟨rfl, rfl⟩⟩
    refine px_iload_n dX7_built_2 rfl ?_
    refine px_bipush (v := 24) dX7_built_3 (by decide) ?_
    refine px_icmp_ge (tgt := 28) dX7_built_5 (by decide) (fun hc5 => ?_) (fun hc5 => ?_)
    · exact hk
    · exact absurd (by decide) hc5
  | k + 1, j, M, hj => by
    obtain ⟨M', e1, e2, e3, e4, e5, e6⟩ := l_X7_built_2 (d := d) (set := set) (stop := stop) (z4 := z4) k (j + 1) ((M.sa 9 j 0).sa 10 j 0) (by omega)
    have e9 : ((M.sa 9 j 0).sa 10 j 0).2.1 9 = va_up (M.2.1 9) j 0 := rfl
    have e10 : ((M.sa 9 j 0).sa 10 j 0).2.1 10 = va_up (M.2.1 10) j 0 := rfl
    refine ⟨M', fun rr h1 hk => ?_, e2, e3, fun i h1 h2 => ?_, fun q h1 h2 => ?_, fun q hq => ?_⟩
    · have e1 := e1 rr h1 hk
      refine px_iload_n dX7_built_2 rfl ?_
      refine px_bipush (v := 24) dX7_built_3 (by decide) ?_
      refine px_icmp_ge (tgt := 28) dX7_built_5 (by decide) (fun hc5 => ?_) (fun hc5 => ?_)
      · exact absurd hc5 (nI_ge (a := j) (b := 24) (by omega) (by omega))
      · refine px_aload_n dX7_built_8 rfl ?_
        refine mx_get fl_X7_60 dX7_built_9 rfl ?_
        refine px_iload_n dX7_built_12 rfl ?_
        refine px_iconst (v := 0) dX7_built_13 (by decide) ?_
        refine mx_bastore (j := 9) (m := 24) (q := j) dX7_built_14 (by decide) (by first | rfl | (simp (disch := omega) only [li0, li1, li2, li3, li5, li6, li8, li9, li10, li12, li13, li16, li20, li24, li25, li100, li408, li424, li824, nI_add, nI_mul, nI_sub]; first | done | rfl | (congr 1; omega))) (by omega) (by first | exact Or.inl rfl | exact Or.inr rfl | exact bi_01 _) ?_
        refine px_aload_n dX7_built_15 rfl ?_
        refine mx_get fl_X7_64 dX7_built_16 rfl ?_
        refine px_iload_n dX7_built_19 rfl ?_
        refine px_iconst (v := 0) dX7_built_20 (by decide) ?_
        refine mx_bastore (j := 10) (m := 24) (q := j) dX7_built_21 (by decide) (by first | rfl | (simp (disch := omega) only [li0, li1, li2, li3, li5, li6, li8, li9, li10, li12, li13, li16, li20, li24, li25, li100, li408, li424, li824, nI_add, nI_mul, nI_sub]; first | done | rfl | (congr 1; omega))) (by omega) (by first | exact Or.inl rfl | exact Or.inr rfl | exact bi_01 _) ?_
        refine px_iinc3 rfl (nI_inc j) dX7_built_22 ?_
        refine px_goto (tgt := 2) dX7_built_25 (by decide) ?_
        exact e1
    · rw [e4 i h1 h2]
      show va_up (va_up M.2.1 9 _) 10 _ i = _
      rw [va_up_ne _ _ h2, va_up_ne _ _ h1]
    · by_cases e : q = j
      · subst e
        obtain ⟨g1, g2⟩ := e6 q (by omega)
        rw [g1, g2, e9, e10, va_up_self, va_up_self]; exact ⟨rfl, rfl⟩
      · exact e5 q (by omega) h2
    · obtain ⟨g1, g2⟩ := e6 q (by omega)
      rw [g1, g2, e9, e10, va_up_ne _ _ (by omega), va_up_ne _ _ (by omega)]; exact ⟨rfl, rfl⟩
def t_stop (stop : Bool) (x : Int32) (k : Nat) : Int32 := if stop = true ∧ t_isFail x = true then nI k else -5
theorem aEach_s {set : Int32} {stop : Bool} {k : Nat} {S : BS} : aEach set stop (k + 1) S = if s_isIn set (nI (8 + (15 - k))) = true then
      (if stop = true ∧ (aFail (aNeed (aBuild 16) (8 + (15 - k)) S).A (8 + (15 - k))).isSome = true then (aNeed (aBuild 16) (8 + (15 - k)) S, some (8 + (15 - k))) else aEach set stop k (aNeed (aBuild 16) (8 + (15 - k)) S))
    else aEach set stop k S := rfl
theorem fail_o {bk : BK} {A : AW} {t : Nat} {x : Int32} (h : CdO bk (A.rs (8 + t)) x) : t_isFail x = (aFail A (8 + t)).isSome := by
  unfold aFail
  rw [show aHas A (8 + t) = A.rs (8 + t) from if_neg (by omega)]
  cases hr : A.rs (8 + t) with
  | none =>
    rw [hr] at h
    have h : x = -1 := h
    subst h; rfl
  | some l =>
    rw [hr] at h
    rw [h.2.fail]
    show isF l = (if isF l = true then some l else none).isSome
    cases isF l <;> rfl
theorem l_X7_built_41 {d : Nat} {set : Int32} {stop : Bool} (hd : 37 ≤ d) : ∀ (k : Nat) (S : BS) (M : MS) (bk : BK) (z4 : Option Value), k ≤ 16 → BR bk noX M S → (∀ t, t < 16 → S.op (8 + t) = false) → ne bk + 16 ≤ 8900 + cd S.dn → M.1 15 = -5 →
    ∃ (M' : MS) (bk' : BK), EX B D d mX7_built 41 [some (.ref r), some (.int set), some (.int (bi stop)), some (.int (nI (16 - k))), z4] [] (n, w, mH r f M) (some (.int (nI (aEach set stop k S).1.ord.length))) (n, w, mH r f M') ∧ BR bk' noX M' (aEach set stop k S).1 ∧ bk <+: bk' ∧ Fc M M' ∧ ne bk' + cd S.dn ≤ ne bk + cd (aEach set stop k S).1.dn ∧ M'.1 15 = sbO (aEach set stop k S).2 ∧ (∀ t, t < 16 → (aEach set stop k S).1.op (8 + t) = false)
  | 0, S, M, bk, z4, hk, hB, hop, hcap, h15 => by
    refine ⟨M, bk, ?_, hB, List.prefix_rfl, Fc.rf M, Nat.le_refl _, h15, hop⟩
    have hlen : nI (cd S.dn) = nI S.ord.length := by rw [hB.2.2.2.2.1]
    refine px_iload_n dX7_built_41 rfl ?_
    refine px_bipush (v := 16) dX7_built_42 (by decide) ?_
    refine px_icmp_ge (tgt := 118) dX7_built_44 (by decide) (fun hc44 => ?_) (fun hc44 => ?_)
    · refine px_aload_n dX7_built_118 rfl ?_
      refine px_callV1 (ν := mX7_manyDone) (ci := 7) rfl rfl lk_X7_194 in_X7_manyDone se_X7_manyDone mok_X7_manyDone dX7_built_119 (c_X7_manyDone (fun t ht => (hB.2.2.1.1 t ht).1)) (by exact mH_0) rfl rfl (by omega) (by simp) ?_
      rw [hlen]
      exact px_reti dX7_built_122 (by rfl) (by rfl)
    · exact absurd (by decide) hc44
  | k + 1, S, M, bk, z4, hk, hB, hop, hcap, h15 => by
    have ht : 15 - k < 16 := by omega
    have e16 : 16 - (k + 1) = 15 - k := by omega
    have e16' : 15 - k + 1 = 16 - k := by omega
    rw [e16, aEach_s]
    generalize 15 - k = t at ht e16' ⊢
    have hge : ¬ (16 : Int32) ≤ nI t := nI_ge (a := t) (b := 16) ht (by omega)
    have h15' : M.1 15 < 0 := by rw [h15]; decide
    by_cases hin : s_isIn set (nI (8 + t)) = true
    · rw [if_pos hin]
      have hin2 : (set >>> (nI t &&& 31)) &&& 1 = 1 := (shr_bit set ht).mpr hin
      have hN : Kp S (aNeed (aBuild 16) (8 + t) S) := Kp_need (Kp_build 16) _ S
      have hop' : ∀ u, u < 16 → (aNeed (aBuild 16) (8 + t) S).op (8 + u) = false := fun u hu => by rw [hN.1]; exact hop u hu
      -- from pc 85 on
      have key : ∀ (M1 : MS) (bk1 : BK), Po bk noX M S bk1 M1 (aNeed (aBuild 16) (8 + t) S) 0 → ∃ (M' : MS) (bk' : BK), EX B D d mX7_built 85 [some (.ref r), some (.int set), some (.int (bi stop)), some (.int (nI t)), some (.int (nI (8 + t)))] [] (n, w, mH r f M1) (some (.int (nI (if stop = true ∧ (aFail (aNeed (aBuild 16) (8 + t) S).A (8 + t)).isSome = true then (aNeed (aBuild 16) (8 + t) S, some (8 + t)) else aEach set stop k (aNeed (aBuild 16) (8 + t) S)).1.ord.length))) (n, w, mH r f M') ∧ BR bk' noX M' (if stop = true ∧ (aFail (aNeed (aBuild 16) (8 + t) S).A (8 + t)).isSome = true then (aNeed (aBuild 16) (8 + t) S, some (8 + t)) else aEach set stop k (aNeed (aBuild 16) (8 + t) S)).1 ∧ bk <+: bk' ∧ Fc M M' ∧ ne bk' + cd S.dn ≤ ne bk + cd (if stop = true ∧ (aFail (aNeed (aBuild 16) (8 + t) S).A (8 + t)).isSome = true then (aNeed (aBuild 16) (8 + t) S, some (8 + t)) else aEach set stop k (aNeed (aBuild 16) (8 + t) S)).1.dn ∧ M'.1 15 = sbO (if stop = true ∧ (aFail (aNeed (aBuild 16) (8 + t) S).A (8 + t)).isSome = true then (aNeed (aBuild 16) (8 + t) S, some (8 + t)) else aEach set stop k (aNeed (aBuild 16) (8 + t) S)).2 ∧ (∀ u, u < 16 → (if stop = true ∧ (aFail (aNeed (aBuild 16) (8 + t) S).A (8 + t)).isSome = true then (aNeed (aBuild 16) (8 + t) S, some (8 + t)) else aEach set stop k (aNeed (aBuild 16) (8 + t) S)).1.op (8 + u) = false) := fun M1 bk1 hP => by
        generalize aNeed (aBuild 16) (8 + t) S = S1 at hN hop' hP ⊢
        have hf := fail_o (hP.1.2.1.2.2.1 t ht)
        -- behind stoppedBy
        have k112 : ∀ rr h1, EX B D d mX7_built 112 [some (.ref r), some (.int set), some (.int (bi stop)), some (.int (nI t)), some (.int (nI (8 + t)))] [] (n, w, mH r f (M1.sets 15 (t_stop stop (M1.2.1 5 (408 + t)) (8 + t)))) rr h1 → EX B D d mX7_built 85 [some (.ref r), some (.int set), some (.int (bi stop)), some (.int (nI t)), some (.int (nI (8 + t)))] [] (n, w, mH r f M1) rr h1 := fun rr h1 hk => by
          have s1 : stop = true → t_isFail (M1.2.1 5 (408 + t)) = true → t_stop stop (M1.2.1 5 (408 + t)) (8 + t) = nI (8 + t) := fun a b => by unfold t_stop; rw [if_pos ⟨a, b⟩]
          have s2 : stop = false → t_stop stop (M1.2.1 5 (408 + t)) (8 + t) = -5 := fun a => by unfold t_stop; rw [if_neg (by rw [a]; simp)]
          have s3 : t_isFail (M1.2.1 5 (408 + t)) = false → t_stop stop (M1.2.1 5 (408 + t)) (8 + t) = -5 := fun a => by unfold t_stop; rw [if_neg (by rw [a]; simp)]
          refine px_aload_n dX7_built_85 rfl ?_
          refine px_iload_n dX7_built_86 rfl ?_
          refine px_ifb_eq (tgt := 107) dX7_built_87 (by decide) (fun hc87 => ?_) (fun hc87 => ?_)
          · refine px_bipush (v := (-5)) dX7_built_107 (by decide) ?_
            refine mx_put fp_X7_70 dX7_built_109 rfl rfl (by decide) rfl ?_
            first | (rw [s1 hc87 hc99] at hk; exact hk) | (rw [s2 hc87] at hk; exact hk) | (rw [s3 hc99] at hk; exact hk)
          · refine px_aload_n dX7_built_90 rfl ?_
            refine px_iload dX7_built_91 rfl ?_
            refine px_callV1 (ν := mX7_has) (ci := 7) rfl rfl lk_X7_156 in_X7_has se_X7_has mok_X7_has dX7_built_93 (c_X7_has_t ht) (by exact mH_0) rfl rfl (by omega) (by simp) ?_
            refine px_callS1 (ν := mX7_isFailure) lk_X7_34 st_X7_isFailure mok_X7_isFailure dX7_built_96 (c_X7_isFailure _) rfl rfl (by omega) (by simp) ?_
            refine px_ifb_eq (tgt := 107) dX7_built_99 (by decide) (fun hc99 => ?_) (fun hc99 => ?_)
            · refine px_bipush (v := (-5)) dX7_built_107 (by decide) ?_
              refine mx_put fp_X7_70 dX7_built_109 rfl rfl (by decide) rfl ?_
              first | (rw [s1 hc87 hc99] at hk; exact hk) | (rw [s2 hc87] at hk; exact hk) | (rw [s3 hc99] at hk; exact hk)
            · refine px_iload dX7_built_102 rfl ?_
              refine px_goto (tgt := 109) dX7_built_104 (by decide) ?_
              refine mx_put fp_X7_70 dX7_built_109 rfl rfl (by decide) rfl ?_
              first | (rw [s1 hc87 hc99] at hk; exact hk) | (rw [s2 hc87] at hk; exact hk) | (rw [s3 hc99] at hk; exact hk)
        have hBs : BR bk1 noX (M1.sets 15 (t_stop stop (M1.2.1 5 (408 + t)) (8 + t))) S1 := ⟨hP.1.1.of rfl (fun _ _ _ => rfl), hP.1.2.1, hP.1.2.2.1, hP.1.2.2.2⟩
        have hFs : Fc M (M1.sets 15 (t_stop stop (M1.2.1 5 (408 + t)) (8 + t))) := hP.2.2.1.c.tra ⟨fun j hj => by rcases hj with rfl | rfl <;> rfl, fun _ _ => rfl, rfl⟩
        have hPn := hP.2.2.2.1
        have h15s : (M1.sets 15 (t_stop stop (M1.2.1 5 (408 + t)) (8 + t))).1 15 = t_stop stop (M1.2.1 5 (408 + t)) (8 + t) := rfl
        by_cases hst : stop = true ∧ (aFail S1.A (8 + t)).isSome = true
        · rw [if_pos hst]
          have hts : t_stop stop (M1.2.1 5 (408 + t)) (8 + t) = nI (8 + t) := by unfold t_stop; rw [if_pos ⟨hst.1, by rw [hf]; exact hst.2⟩]
          refine ⟨_, bk1, k112 _ _ ?_, hBs, hP.2.1, hFs, hPn, by rw [h15s, hts]; rfl, hop'⟩
          have hlen : nI (cd S1.dn) = nI S1.ord.length := by rw [hP.1.2.2.2.2.1]
          have h15p : ¬ (M1.sets 15 (t_stop stop (M1.2.1 5 (408 + t)) (8 + t))).1 15 < 0 := by rw [h15s, hts]; exact nI_pos (by omega)
          refine px_iinc3 rfl (nI_inc t) dX7_built_112 ?_
          refine px_goto (tgt := 41) dX7_built_115 (by decide) ?_
          refine px_iload_n dX7_built_41 rfl ?_
          refine px_bipush (v := 16) dX7_built_42 (by decide) ?_
          refine px_icmp_ge (tgt := 118) dX7_built_44 (by decide) (fun hc44 => ?_) (fun hc44 => ?_)
          · refine px_aload_n dX7_built_118 rfl ?_
            refine px_callV1 (ν := mX7_manyDone) (ci := 7) rfl rfl lk_X7_194 in_X7_manyDone se_X7_manyDone mok_X7_manyDone dX7_built_119 (c_X7_manyDone (fun t ht => (hBs.2.2.1.1 t ht).1)) (by exact mH_0) rfl rfl (by omega) (by simp) ?_
            rw [hlen]
            exact px_reti dX7_built_122 (by rfl) (by rfl)
          · refine px_aload_n dX7_built_47 rfl ?_
            refine mx_get fl_X7_70 dX7_built_48 rfl ?_
            refine px_if_ge (tgt := 118) dX7_built_51 (by decide) (fun hc51 => ?_) (fun hc51 => ?_)
            · refine px_aload_n dX7_built_118 rfl ?_
              refine px_callV1 (ν := mX7_manyDone) (ci := 7) rfl rfl lk_X7_194 in_X7_manyDone se_X7_manyDone mok_X7_manyDone dX7_built_119 (c_X7_manyDone (fun t ht => (hBs.2.2.1.1 t ht).1)) (by exact mH_0) rfl rfl (by omega) (by simp) ?_
              rw [hlen]
              exact px_reti dX7_built_122 (by rfl) (by rfl)
            · exact absurd (Int32.not_lt.mp h15p) hc51
        · rw [if_neg hst]
          have hts : t_stop stop (M1.2.1 5 (408 + t)) (8 + t) = -5 := by unfold t_stop; rw [if_neg (fun h => hst ⟨h.1, by rw [← hf]; exact h.2⟩)]
          obtain ⟨M', bk', g1, g2, g3, g4, g5, g6, g7⟩ := l_X7_built_41 (set := set) (stop := stop) hd k S1 (M1.sets 15 (t_stop stop (M1.2.1 5 (408 + t)) (8 + t))) bk1 (some (.int (nI (8 + t)))) (by omega) hBs hop' (by omega) (by rw [h15s, hts])
          refine ⟨M', bk', k112 _ _ ?_, g2, hP.2.1.trans g3, hFs.tra g4, by omega, g6, g7⟩
          rw [← e16'] at g1
          refine px_iinc3 rfl (nI_inc t) dX7_built_112 ?_
          refine px_goto (tgt := 41) dX7_built_115 (by decide) ?_
          exact g1
      cases hdn : S.dn (8 + t) with
      | false =>
        have hne : aNeed (aBuild 16) (8 + t) S = aBuild 16 (8 + t) S := by unfold aNeed; rw [if_pos ⟨by omega, hdn, hop t ht⟩]
        obtain ⟨M1, bk1, hC, hP, -⟩ := hr_all (B := B) (D := D) (n := n) (w := w) (r := r) (f := f) 16 S t M bk noX ht hB hdn (hop t ht) (fun j hj => by cases hj) (by omega) hcap
        rw [← hne] at hP
        obtain ⟨M', bk', e1, e2⟩ := key M1 bk1 hP
        refine ⟨M', bk', ?_, e2⟩
        have h9 : M.2.1 9 (8 + t) = 0 := by rw [(hB.2.2.1.1 t ht).1, hdn]; rfl
        refine px_iload_n dX7_built_41 rfl ?_
        refine px_bipush (v := 16) dX7_built_42 (by decide) ?_
        refine px_icmp_ge (tgt := 118) dX7_built_44 (by decide) (fun hc44 => ?_) (fun hc44 => ?_)
        · exact absurd hc44 hge
        · refine px_aload_n dX7_built_47 rfl ?_
          refine mx_get fl_X7_70 dX7_built_48 rfl ?_
          refine px_if_ge (tgt := 118) dX7_built_51 (by decide) (fun hc51 => ?_) (fun hc51 => ?_)
          · exact absurd hc51 (Int32.not_le.mpr h15')
          · refine px_bipush (v := 8) dX7_built_54 (by decide) ?_
            refine px_iload_n dX7_built_56 rfl ?_
            refine px_iadd dX7_built_57 ?_
            refine px_istore4 rfl dX7_built_58 ?_
            rw [show (8 : Int32) + nI t = nI (8 + t) from nI_add 8 t]
            refine px_iload_n dX7_built_60 rfl ?_
            refine px_iload_n dX7_built_61 rfl ?_
            refine px_ishr dX7_built_62 ?_
            refine px_iconst (v := 1) dX7_built_63 (by decide) ?_
            refine px_iand dX7_built_64 ?_
            refine px_iconst (v := 1) dX7_built_65 (by decide) ?_
            refine px_icmp_ne (tgt := 112) dX7_built_66 (by decide) (fun hc66 => ?_) (fun hc66 => ?_)
            · exact absurd hin2 hc66
            · refine px_aload_n dX7_built_69 rfl ?_
              refine mx_get fl_X7_60 dX7_built_70 rfl ?_
              refine px_iload dX7_built_73 rfl ?_
              refine mx_baload (j := 9) (m := 24) (q := 8 + t) dX7_built_75 (by decide) (by first | rfl | (simp (disch := omega) only [li0, li1, li2, li3, li5, li6, li8, li9, li10, li12, li13, li16, li20, li24, li25, li100, li408, li424, li824, nI_add, nI_mul, nI_sub]; first | done | rfl | (congr 1; omega))) (by omega) ?_
              refine px_if_ne (tgt := 85) dX7_built_76 (by decide) (fun hc76 => ?_) (fun hc76 => ?_)
              · exact absurd h9 hc76
              · refine px_aload_n dX7_built_79 rfl ?_
                refine px_iload dX7_built_80 rfl ?_
                refine px_callV0 (ν := mX7_builds) (ci := 7) rfl rfl lk_X7_172 in_X7_builds se_X7_builds mok_X7_builds dX7_built_82 (hC) (by exact mH_0) rfl rfl (by omega) (by simp) ?_
                exact e1
      | true =>
        have hne : aNeed (aBuild 16) (8 + t) S = S := by unfold aNeed; rw [if_neg (by rw [hdn]; simp)]
        obtain ⟨M', bk', e1, e2⟩ := key M bk (by rw [hne]; exact Po.rf hB)
        refine ⟨M', bk', ?_, e2⟩
        have h9 : ¬ M.2.1 9 (8 + t) = 0 := by rw [(hB.2.2.1.1 t ht).1, hdn]; decide
        refine px_iload_n dX7_built_41 rfl ?_
        refine px_bipush (v := 16) dX7_built_42 (by decide) ?_
        refine px_icmp_ge (tgt := 118) dX7_built_44 (by decide) (fun hc44 => ?_) (fun hc44 => ?_)
        · exact absurd hc44 hge
        · refine px_aload_n dX7_built_47 rfl ?_
          refine mx_get fl_X7_70 dX7_built_48 rfl ?_
          refine px_if_ge (tgt := 118) dX7_built_51 (by decide) (fun hc51 => ?_) (fun hc51 => ?_)
          · exact absurd hc51 (Int32.not_le.mpr h15')
          · refine px_bipush (v := 8) dX7_built_54 (by decide) ?_
            refine px_iload_n dX7_built_56 rfl ?_
            refine px_iadd dX7_built_57 ?_
            refine px_istore4 rfl dX7_built_58 ?_
            rw [show (8 : Int32) + nI t = nI (8 + t) from nI_add 8 t]
            refine px_iload_n dX7_built_60 rfl ?_
            refine px_iload_n dX7_built_61 rfl ?_
            refine px_ishr dX7_built_62 ?_
            refine px_iconst (v := 1) dX7_built_63 (by decide) ?_
            refine px_iand dX7_built_64 ?_
            refine px_iconst (v := 1) dX7_built_65 (by decide) ?_
            refine px_icmp_ne (tgt := 112) dX7_built_66 (by decide) (fun hc66 => ?_) (fun hc66 => ?_)
            · exact absurd hin2 hc66
            · refine px_aload_n dX7_built_69 rfl ?_
              refine mx_get fl_X7_60 dX7_built_70 rfl ?_
              refine px_iload dX7_built_73 rfl ?_
              refine mx_baload (j := 9) (m := 24) (q := 8 + t) dX7_built_75 (by decide) (by first | rfl | (simp (disch := omega) only [li0, li1, li2, li3, li5, li6, li8, li9, li10, li12, li13, li16, li20, li24, li25, li100, li408, li424, li824, nI_add, nI_mul, nI_sub]; first | done | rfl | (congr 1; omega))) (by omega) ?_
              refine px_if_ne (tgt := 85) dX7_built_76 (by decide) (fun hc76 => ?_) (fun hc76 => ?_)
              · exact e1
              · exact absurd hc76 h9
    · rw [if_neg hin]
      have hin2 : ¬ (set >>> (nI t &&& 31)) &&& 1 = 1 := fun e => hin ((shr_bit set ht).mp e)
      obtain ⟨M', bk', g1, g2⟩ := l_X7_built_41 (set := set) (stop := stop) hd k S M bk (some (.int (nI (8 + t)))) (by omega) hB hop hcap h15
      refine ⟨M', bk', ?_, g2⟩
      rw [← e16'] at g1
      refine px_iload_n dX7_built_41 rfl ?_
      refine px_bipush (v := 16) dX7_built_42 (by decide) ?_
      refine px_icmp_ge (tgt := 118) dX7_built_44 (by decide) (fun hc44 => ?_) (fun hc44 => ?_)
      · exact absurd hc44 hge
      · refine px_aload_n dX7_built_47 rfl ?_
        refine mx_get fl_X7_70 dX7_built_48 rfl ?_
        refine px_if_ge (tgt := 118) dX7_built_51 (by decide) (fun hc51 => ?_) (fun hc51 => ?_)
        · exact absurd hc51 (Int32.not_le.mpr h15')
        · refine px_bipush (v := 8) dX7_built_54 (by decide) ?_
          refine px_iload_n dX7_built_56 rfl ?_
          refine px_iadd dX7_built_57 ?_
          refine px_istore4 rfl dX7_built_58 ?_
          rw [show (8 : Int32) + nI t = nI (8 + t) from nI_add 8 t]
          refine px_iload_n dX7_built_60 rfl ?_
          refine px_iload_n dX7_built_61 rfl ?_
          refine px_ishr dX7_built_62 ?_
          refine px_iconst (v := 1) dX7_built_63 (by decide) ?_
          refine px_iand dX7_built_64 ?_
          refine px_iconst (v := 1) dX7_built_65 (by decide) ?_
          refine px_icmp_ne (tgt := 112) dX7_built_66 (by decide) (fun hc66 => ?_) (fun hc66 => ?_)
          · refine px_iinc3 rfl (nI_inc t) dX7_built_112 ?_
            refine px_goto (tgt := 41) dX7_built_115 (by decide) ?_
            exact g1
          · exact absurd hc66 hin2
theorem c_X7_built {set : Int32} {stop : Bool} (hb : Bk M bk) (hN : NW bk noX (M.2.1 5) S.A) (hW : WI S.A) (hq : M.1 16 = S.st ∧ M.1 17 = S.po ∧ M.1 18 = S.sp ∧ M.1 19 = S.cu) (hcap : ne bk + 16 ≤ 8900) : ∃ (M' : MS) (bk' : BK), CT B D 37 mX7_built [.ref r, .int set, .int (bi stop)] (n, w, mH r f M) (some (.int (nI (aAll set stop S).1.ord.length))) (n, w, mH r f M') ∧ Bk M' bk' ∧ NW bk' noX (M'.2.1 5) (aAll set stop S).1.A ∧ WI (aAll set stop S).1.A ∧ NQ M' (aAll set stop S).1 ∧ (aAll set stop S).1.ord.length ≤ 16 ∧ M'.1 15 = sbO (aAll set stop S).2 ∧ bk <+: bk' ∧ Fc M M' ∧ ne bk' ≤ ne bk + 16 := by
  obtain ⟨M1, e1, e2, e3, e4, e5, e6⟩ := l_X7_built_2 (B := B) (D := D) (n := n) (w := w) (r := r) (f := f) (d := 37) (set := set) (stop := stop) (z4 := none) 24 0 M (by omega)
  have hB : BR bk noX ((M1.sets 14 0).sets 15 (-5)) (aForget S) := by
    refine ⟨hb.of (by show M1.1 4 = _; rw [e2]) (fun j h1 h2 => e4 j (by omega) (by omega)), ?_, ⟨fun t ht => ?_, rfl, fun i x hx => ?_, ?_, ?_, ?_, ?_⟩, hW.gi⟩
    · show NW bk noX (M1.2.1 5) S.A
      rw [e4 5 (by omega) (by omega)]; exact hN
    · exact e5 (8 + t) (Nat.zero_le _) (by omega)
    · have hx : ([] : List Nat)[i]? = some x := hx
      cases hx
    · show M1.1 16 = _; rw [e2]; exact hq.1
    · show M1.1 17 = _; rw [e2]; exact hq.2.1
    · show M1.1 18 = _; rw [e2]; exact hq.2.2.1
    · show M1.1 19 = _; rw [e2]; exact hq.2.2.2
  obtain ⟨M', bk', g1, g2, g3, g4, g5, g6, g7⟩ := l_X7_built_41 (B := B) (D := D) (n := n) (w := w) (r := r) (f := f) (set := set) (stop := stop) (d := 37) (Nat.le_refl _) 16 (aForget S) _ bk none (Nat.le_refl _) hB (fun _ _ => rfl) (by omega) rfl
  have hcd := cdN_le 16 (aEach set stop 16 (aForget S)).1.dn
  have h0 : cd (aForget S).dn = 0 := cd_none
  have hf1 : Fc M M1 := ⟨fun j _ => by rw [e2], fun j hj => e4 j (by omega) (by omega), e3⟩
  refine ⟨M', bk', ?_, g2.1, g2.2.1, g2.2.2.2.wi g7, ⟨g2.2.2.1.2.1, g2.2.2.1.2.2.1, g2.2.2.1.2.2.2⟩, ?_, g6, g3, hf1.tra ((show Fc M1 ((M1.sets 14 0).sets 15 (-5)) from ⟨fun j hj => by rcases hj with rfl | rfl <;> rfl, fun _ _ => rfl, rfl⟩).tra g4), by unfold cd at g5 h0; rw [h0] at g5; omega⟩
  · refine CT.of [some (.ref r), some (.int set), some (.int (bi stop)), none, none] rfl (Nat.le_of_ble_eq_true rfl) pl_X7 trivial ?_
    refine px_iconst (v := 0) dX7_built_0 (by decide) ?_
    refine px_istore3 rfl dX7_built_1 ?_
    refine e1 _ _ ?_
    refine px_aload_n dX7_built_28 rfl ?_
    refine px_iconst (v := 0) dX7_built_29 (by decide) ?_
    refine mx_put fp_X7_144 dX7_built_30 rfl rfl (by decide) rfl ?_
    refine px_aload_n dX7_built_33 rfl ?_
    refine px_bipush (v := (-5)) dX7_built_34 (by decide) ?_
    refine mx_put fp_X7_70 dX7_built_36 rfl rfl (by decide) rfl ?_
    refine px_iconst (v := 0) dX7_built_39 (by decide) ?_
    refine px_istore3 rfl dX7_built_40 ?_
    exact g1
  · have := g2.2.2.2.2.1
    show (aEach set stop 16 (aForget S)).1.ord.length ≤ 16
    rw [this]; exact hcd
end M63
