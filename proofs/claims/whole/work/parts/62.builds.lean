/-! the reference BUILDS a TARGET -/
theorem sa_id (M : MS) (j q : Nat) : M.sa j q (M.2.1 j q) = M := by
  unfold MS.sa MS.seta
  rw [up_id, up_id]
theorem AW.set_id (A : AW) (k : Nat) : A.set k (A.rs k) (A.tr k) = A := by
  unfold AW.set
  simp only [up_id]
theorem AW.set_tr (A : AW) (k : Nat) (a : Option (List Q4)) (b : Option aAcc) : (A.set k a b).tr k = b := by
  show va_up A.tr k b k = b
  rw [va_up_self]
section M62
variable {B : Nat} {D : va_G} {n w r : Nat} {f : Nat → Option va_E} {X : Nat → Bool} {bk : BK} {M : MS} {S : BS}
theorem BR.close {t : Nat} (h : BR bk X M S) (ht : t < 16) (hd : S.dn (8 + t) = false) (hr : S.A.rs (8 + t) ≠ none) (hu : S.A.ru (8 + t) = [] → S.A.tr (8 + t) = none) (hT : ∀ (T : aAcc) (x : Nat × List Q4), S.A.tr (8 + t) = some T → x ∈ T → x.1 < 24 ∧ (8 ≤ x.1 → S.dn x.1 = true)) : BR bk X (M.fin (8 + t) S.ord.length) (aClose S (8 + t)) ∧ Fb M (M.fin (8 + t) S.ord.length) := by
  have hlt := cd_lt ht hd
  have hL : S.ord.length < 16 := by rw [h.2.2.2.2.1]; exact hlt
  obtain ⟨b1, b2, b3, b4, b5, b6, b7⟩ := h.2.2.1
  have e9 : (M.fin (8 + t) S.ord.length).2.1 9 = va_up (M.2.1 9) (8 + t) 1 := rfl
  have e10 : (M.fin (8 + t) S.ord.length).2.1 10 = va_up (M.2.1 10) (8 + t) 0 := rfl
  have e11 : (M.fin (8 + t) S.ord.length).2.1 11 = va_up (M.2.1 11) S.ord.length (nI (8 + t)) := rfl
  have eord : (aClose S (8 + t)).ord = S.ord ++ [8 + t] := if_pos hL
  refine ⟨⟨h.1.of rfl (fun j h1 h2 => ?_), h.2.1, ⟨fun u hu => ?_, ?_, fun i x hx => ?_, b4, b5, b6, b7⟩, h.2.2.2.closed ht hd hr hu hT⟩, fun j hj => by rcases hj with rfl | rfl | rfl <;> rfl, fun j hj => ?_, rfl⟩
  · show va_up (va_up (va_up M.2.1 10 _) 9 _) 11 _ j = _
    rw [va_up_ne _ _ (by omega), va_up_ne _ _ (by omega), va_up_ne _ _ (by omega)]
  · rw [e9, e10]
    show _ = bi (va_up S.dn (8 + t) true (8 + u)) ∧ _ = bi (va_up S.op (8 + t) false (8 + u))
    by_cases e : u = t
    · subst e; rw [va_up_self, va_up_self, va_up_self, va_up_self]; exact ⟨rfl, rfl⟩
    · rw [va_up_ne _ _ (by omega), va_up_ne _ _ (by omega), va_up_ne _ _ (by omega), va_up_ne _ _ (by omega)]; exact b1 u hu
  · rw [eord, List.length_append]; rfl
  · rw [eord] at hx
    rw [e11]
    by_cases hi : i < S.ord.length
    · rw [List.getElem?_append_left hi] at hx
      rw [va_up_ne _ _ (by omega)]; exact b3 i x hx
    · have hi1 := (List.getElem?_eq_some_iff.mp hx).1
      rw [List.length_append] at hi1
      have hi2 : i = S.ord.length := by simp at hi1; omega
      subst hi2
      rw [List.getElem?_append_right (Nat.le_refl _), Nat.sub_self] at hx
      cases hx
      rw [va_up_self]
  · show va_up (va_up (va_up M.2.1 10 _) 9 _) 11 _ j = _
    rw [va_up_ne _ _ (by omega), va_up_ne _ _ (by omega), va_up_ne _ _ (by omega)]
theorem BR.opened {t : Nat} (h : BR bk X M S) (ht : t < 16) (hd : S.dn (8 + t) = false) : BR bk X (M.sa 10 (8 + t) 1) (aOpen S (8 + t)) ∧ Fb M (M.sa 10 (8 + t) 1) := by
  obtain ⟨b1, b2, b3, b4, b5, b6, b7⟩ := h.2.2.1
  have e10 : (M.sa 10 (8 + t) 1).2.1 10 = va_up (M.2.1 10) (8 + t) 1 := rfl
  refine ⟨⟨h.1.of rfl (fun j h1 h2 => va_up_ne _ _ (by omega)), h.2.1, ⟨fun u hu => ?_, b2, b3, b4, b5, b6, b7⟩, h.2.2.2.opened hd⟩, fun _ _ => rfl, fun j hj => va_up_ne _ _ (by omega), rfl⟩
  rw [e10]
  show M.2.1 9 (8 + u) = bi (S.dn (8 + u)) ∧ _ = bi (va_up S.op (8 + t) true (8 + u))
  refine ⟨(b1 u hu).1, ?_⟩
  by_cases e : u = t
  · subst e; rw [va_up_self, va_up_self]; rfl
  · rw [va_up_ne _ _ (by omega), va_up_ne _ _ (by omega)]; exact (b1 u hu).2
theorem b_close {d t : Nat} {z2 z3 : Option Value} (hd : 1 ≤ d) (ht : t < 16) (hL : S.ord.length < 16) (h14 : M.1 14 = nI S.ord.length) : EX B D d mX7_builds 130 [some (.ref r), some (.int (nI (8 + t))), z2, z3] [] (n, w, mH r f M) none (n, w, mH r f (M.fin (8 + t) S.ord.length)) := by
  refine px_aload_n dX7_builds_130 rfl ?_
  refine px_iload_n dX7_builds_131 rfl ?_
  refine px_callV0 (ν := mX7_finishes) (ci := 7) rfl rfl lk_X7_165 in_X7_finishes se_X7_finishes mok_X7_finishes dX7_builds_132 (c_X7_finishes (by omega) hL h14) (by exact mH_0) rfl rfl (by omega) (by simp) ?_
  exact px_retv dX7_builds_135 rfl (by rfl)
theorem b_run {dd F d t : Nat} (hdd : 4 ≤ dd) (hd : dd + 2 ≤ d) (hH : HR B D dd F n w r f) (ht : t < 16) (hX0 : X (8 + t) = false) (hB : BR bk X M S) (hop : S.op (8 + t) = true) (hdn : S.dn (8 + t) = false) (hX : ∀ j, X j = true → S.op j = true) (hF : 16 ≤ cd S.op + F) (hcap : ne bk + 16 ≤ 8900 + cd S.dn) :
    ∃ (M' : MS) (bk' : BK) (z2 z3 : Option Value), (∀ rr h1, EX B D d mX7_builds 130 [some (.ref r), some (.int (nI (8 + t))), z2, z3] [] (n, w, mH r f M') rr h1 → EX B D d mX7_builds 81 [some (.ref r), some (.int (nI (8 + t))), none, none] [] (n, w, mH r f M) rr h1) ∧ Po bk X M S bk' M' (aRun (aNeed (aBuild F)) (8 + t) 16 S) 1 ∧ (aRun (aNeed (aBuild F)) (8 + t) 16 S).A.rs (8 + t) ≠ none ∧ ∀ (T : aAcc) (x : Nat × List Q4), (aRun (aNeed (aBuild F)) (8 + t) 16 S).A.tr (8 + t) = some T → x ∈ T → x.1 < 24 ∧ (8 ≤ x.1 → (aRun (aNeed (aBuild F)) (8 + t) 16 S).dn x.1 = true) := by
  have hB1 : BR bk (va_up X (8 + t) true) M S := by
    have h1 := hB.2.1.hide (8 + t) (S.A.tr (8 + t))
    rw [AW.set_id] at h1
    exact ⟨hB.1, h1, hB.2.2⟩
  have hX1 : ∀ j, va_up X (8 + t) true j = true → S.op j = true := fun j hj => by
    by_cases e : j = 8 + t
    · subst e; exact hop
    · rw [va_up_ne _ _ e] at hj; exact hX j hj
  obtain ⟨Ma, M', bk', Sx, acc, res, x, c1, c2, c3, c4, c5, c6, c7, c8, c9⟩ := c_X7_runs (d := dd + 1) (by omega) (Nat.le_refl _) (by omega) hH ht (va_up_self _ _ _) hB1 hop hdn hX1 hF hcap
  have hwas := hB.2.1.2.2.1 t ht
  have hwas2 := hwas.mono c3.2.1
  have hsame := same_iff c3.1.1.2.2.1 hwas2 c6 c5
  rw [← c7] at hsame
  have hop4 : (aRan Sx (8 + t) acc).op (8 + t) = true := by
    have := (Kq_run (Kp_build F) (8 + t) 16 S).1
    rw [c2] at this
    have this : (aRan Sx (8 + t) acc).op = S.op := this
    rw [this]; exact hop
  have hx0 := c5.ne c6
  -- the heap behind it
  have hN := c3.1.2.1.settr ht (fun q hq => c8.2.2.2 q hq) c9
  have hN2 := hN.setrs (rs := some res) (y := x) List.prefix_rfl ⟨c6, c5⟩ ht
  rw [AW.set_set, AW.set_tr] at hN2
  obtain ⟨b1, b2, b3, b4, b5, b6, b7⟩ := c3.1.2.2.1
  have hcut : ∀ z : Int32, z = (if oSame ((aRan Sx (8 + t) acc).A.rs (8 + t)) (some res) = true then 1 else 0) → M'.1 19 + z = (aFin (aRan Sx (8 + t) acc) (8 + t) acc res).cu := fun z hz => by
    rw [c8.1, b7, hz]
    show _ = (if oSame ((aRan Sx (8 + t) acc).A.rs (8 + t)) (some res) = true then (aRan Sx (8 + t) acc).cu + 1 else (aRan Sx (8 + t) acc).cu)
    split
    · rfl
    · exact Int32.add_zero _
  refine ⟨(M'.sets 19 (aFin (aRan Sx (8 + t) acc) (8 + t) acc res).cu).sa 5 (408 + t) x, bk', some (.int (M.2.1 5 (408 + t))), some (.int x), fun rr h1 hk => ?_, ?_, ?_, ?_⟩
  · have key : ∀ z : Int32, z = (if oSame ((aRan Sx (8 + t) acc).A.rs (8 + t)) (some res) = true then 1 else 0) → EX B D d mX7_builds 112 [some (.ref r), some (.int (nI (8 + t))), some (.int (M.2.1 5 (408 + t))), some (.int x)] [.int z, .int (M'.1 19), .ref r] (n, w, mH r f M') rr h1 := fun z hz => by
      have hc := hcut z hz
      rw [← hc] at hk
      refine px_iadd dX7_builds_112 ?_
      refine mx_put fp_X7_162 dX7_builds_113 rfl rfl (by decide) rfl ?_
      refine px_aload_n dX7_builds_116 rfl ?_
      refine mx_get fl_X7_48 dX7_builds_117 rfl ?_
      refine px_sipush (v := 408) dX7_builds_120 (by decide) ?_
      refine px_iload_n dX7_builds_123 rfl ?_
      refine px_iadd dX7_builds_124 ?_
      refine px_bipush (v := 8) dX7_builds_125 (by decide) ?_
      refine px_isub dX7_builds_127 ?_
      refine px_iload_n dX7_builds_128 rfl ?_
      refine mx_iastore (j := 5) (m := 824) (q := 408 + t) dX7_builds_129 (by decide) (by first | rfl | (simp (disch := omega) only [li0, li1, li2, li3, li5, li6, li8, li9, li10, li12, li13, li16, li20, li24, li25, li100, li408, li424, li824, nI_add, nI_mul, nI_sub]; first | done | rfl | (congr 1; omega))) (by omega) ?_
      exact hk
    have z1 : M.2.1 5 (408 + t) = x → (1 : Int32) = (if oSame ((aRan Sx (8 + t) acc).A.rs (8 + t)) (some res) = true then 1 else 0) := fun e => by rw [if_pos (hsame.mp e)]
    have z0 : ¬ M.2.1 5 (408 + t) = x → (0 : Int32) = (if oSame ((aRan Sx (8 + t) acc).A.rs (8 + t)) (some res) = true then 1 else 0) := fun e => by rw [if_neg (fun h => e (hsame.mpr h))]
    have zn : M.2.1 5 (408 + t) < 0 → ¬ M.2.1 5 (408 + t) = x := fun h e => by rw [e] at h; exact hx0 h
    refine px_aload_n dX7_builds_81 rfl ?_
    refine px_iload_n dX7_builds_82 rfl ?_
    refine px_callV1 (ν := mX7_has) (ci := 7) rfl rfl lk_X7_156 in_X7_has se_X7_has mok_X7_has dX7_builds_83 (c_X7_has_t ht) (by exact mH_0) rfl rfl (by omega) (by simp) ?_
    refine px_istore2 rfl dX7_builds_86 ?_
    refine px_aload_n dX7_builds_87 rfl ?_
    refine px_iload_n dX7_builds_88 rfl ?_
    refine px_callV1 (ν := mX7_runs) (ci := 7) rfl rfl lk_X7_159 in_X7_runs se_X7_runs mok_X7_runs dX7_builds_89 (c1) (by exact mH_0) rfl rfl (by omega) (by simp) ?_
    refine px_istore3 rfl dX7_builds_92 ?_
    refine px_aload_n dX7_builds_93 rfl ?_
    refine px_dup dX7_builds_94 rfl ?_
    refine mx_get fl_X7_162 dX7_builds_95 rfl ?_
    refine px_iload_n dX7_builds_98 rfl ?_
    refine px_if_lt (tgt := 111) dX7_builds_99 (by decide) (fun hc99 => ?_) (fun hc99 => ?_)
    · refine px_iconst (v := 0) dX7_builds_111 (by decide) ?_
      exact key _ (by first | exact z1 hc104 | exact z0 hc104 | exact z0 (zn hc99))
    · refine px_iload_n dX7_builds_102 rfl ?_
      refine px_iload_n dX7_builds_103 rfl ?_
      refine px_icmp_ne (tgt := 111) dX7_builds_104 (by decide) (fun hc104 => ?_) (fun hc104 => ?_)
      · refine px_iconst (v := 0) dX7_builds_111 (by decide) ?_
        exact key _ (by first | exact z1 hc104 | exact z0 hc104 | exact z0 (zn hc99))
      · refine px_iconst (v := 1) dX7_builds_107 (by decide) ?_
        refine px_goto (tgt := 112) dX7_builds_108 (by decide) ?_
        exact key _ (by first | exact z1 hc104 | exact z0 hc104 | exact z0 (zn hc99))
  · rw [c2]
    refine ⟨⟨c3.1.1.of ?_ (fun j h1 h2 => ?_), ?_, ⟨?_, ?_, ?_, ?_, ?_, ?_, ?_⟩, c3.1.2.2.2.set (rs := some res) (tr := if isRing res = true then none else some acc) hop4 rfl rfl rfl rfl⟩, c3.2.1, ?_, c3.2.2.2.1, c3.2.2.2.2⟩
    · show M'.1 4 = _; rw [c8.1]
    · show va_up M'.2.1 5 _ j = _
      rw [va_up_ne _ _ (by omega)]; exact c8.2.1 j (by omega)
    · exact hN2
    · show ∀ u, u < 16 → M'.2.1 9 (8 + u) = _ ∧ M'.2.1 10 (8 + u) = _
      rw [c8.2.1 9 (by omega), c8.2.1 10 (by omega)]; exact b1
    · show M'.1 14 = _; rw [c8.1]; exact b2
    · show ∀ i y, _ → M'.2.1 11 i = _
      rw [c8.2.1 11 (by omega)]; exact b3
    · show M'.1 16 = _; rw [c8.1]; exact b4
    · show M'.1 17 = _; rw [c8.1]; exact b5
    · show M'.1 18 = _; rw [c8.1]; exact b6
    · rfl
    · have h1 : Fb M Ma := c3.2.2.1
      refine ⟨fun j hj => ?_, fun j hj => ?_, c8.2.2.1.trans h1.2.2⟩
      · rw [← h1.1 j hj, ← c8.1]
        rcases hj with rfl | rfl | rfl <;> rfl
      · show va_up M'.2.1 5 _ j = _
        rw [va_up_ne _ _ (by omega), ← h1.2.1 j hj]; exact c8.2.1 j (by omega)
  · rw [c2]
    show va_up _ (8 + t) (some res) (8 + t) ≠ none
    rw [va_up_self]; simp
  · rw [c2]
    intro T y hT hy
    have hT : va_up (aRan Sx (8 + t) acc).A.tr (8 + t) (if isRing res = true then none else some acc) (8 + t) = some T := hT
    rw [va_up_self] at hT
    split at hT
    · cases hT
    · cases hT
      obtain ⟨i, hi⟩ := List.mem_iff_getElem?.mp hy
      obtain ⟨a1, a2, a3, a4, a5⟩ := c4.2.2 i y hi
      exact ⟨a2, a5⟩
theorem hr_step {dd F : Nat} (hdd : 4 ≤ dd) (hH : HR B D dd F n w r f) : HR B D (dd + 2) (F + 1) n w r f := by
  intro S t M bk X ht hB hdn hop hX hF hcap
  have hX0 : X (8 + t) = false := by
    cases h : X (8 + t) with
    | false => rfl
    | true => rw [hX _ h] at hop; cases hop
  have hlt := cd_lt ht hdn
  obtain ⟨hB1, hFb1⟩ := hB.opened ht hdn
  have hop1 : (aOpen S (8 + t)).op (8 + t) = true := va_up_self _ _ _
  have hX1 : ∀ j, X j = true → (aOpen S (8 + t)).op j = true := fun j hj => by
    show va_up S.op (8 + t) true j = true
    by_cases e : j = 8 + t
    · subst e; exact va_up_self _ _ _
    · rw [va_up_ne _ _ e]; exact hX j hj
  have hF1 : 16 ≤ cd (aOpen S (8 + t)).op + F := by
    have : cd (aOpen S (8 + t)).op = cd S.op + 1 := cd_up ht hop
    omega
  have hP1 : Po bk X M S bk (M.sa 10 (8 + t) 1) (aOpen S (8 + t)) 0 := ⟨hB1, List.prefix_rfl, hFb1, Nat.le_refl _, fun _ h => h⟩
  have hgi := hB.2.2.2.2.2.2.1 t ht hop
  have hru := hB.2.1.2.1 t ht
  have hru0 : (M.sa 10 (8 + t) 1).2.1 5 (8 + 25 * t + 0) = nI (S.A.ru (8 + t)).length := hru.2.1
  -- the end, from any state before the closing
  have fin : ∀ (M' : MS) (bk' : BK) (S' : BS) (e : Nat), aBuild (F + 1) (8 + t) S = aClose S' (8 + t) → Po bk X M S bk' M' S' e → e ≤ 1 → S'.dn (8 + t) = false → S'.A.rs (8 + t) ≠ none → (S'.A.ru (8 + t) = [] → S'.A.tr (8 + t) = none) → (∀ (T : aAcc) (x : Nat × List Q4), S'.A.tr (8 + t) = some T → x ∈ T → x.1 < 24 ∧ (8 ≤ x.1 → S'.dn x.1 = true)) → (∀ h1, (∀ z2 z3, EX B D (dd + 2) mX7_builds 130 [some (.ref r), some (.int (nI (8 + t))), z2, z3] [] (n, w, mH r f M') none h1) → CT B D (dd + 2) mX7_builds [.ref r, .int (nI (8 + t))] (n, w, mH r f M) none h1) → ∃ (M' : MS) (bk' : BK), CT B D (dd + 2) mX7_builds [.ref r, .int (nI (8 + t))] (n, w, mH r f M) none (n, w, mH r f M') ∧ Po bk X M S bk' M' (aBuild (F + 1) (8 + t) S) 0 ∧ (aBuild (F + 1) (8 + t) S).dn (8 + t) = true := fun M' bk' S' e h1 h2 h3 h4 h5 h6 h7 h8 => by
    have hlt' := cd_lt ht h4
    obtain ⟨q1, q2⟩ := h2.1.close ht h4 h5 h6 h7
    refine ⟨_, bk', h8 _ (fun z2 z3 => b_close (by omega) ht (by rw [h2.1.2.2.2.2.1]; exact hlt') h2.1.2.2.1.2.1), ?_, ?_⟩
    · rw [h1]
      refine ⟨q1, h2.2.1, h2.2.2.1.tra q2, ?_, fun j hj => ?_⟩
      · have := h2.2.2.2.1
        have e2 : cd (aClose S' (8 + t)).dn = cd S'.dn + 1 := cd_up ht h4
        omega
      · show va_up S'.dn (8 + t) true j = true
        by_cases e : j = 8 + t
        · subst e; exact va_up_self _ _ _
        · rw [va_up_ne _ _ e]; exact h2.2.2.2.2 j hj
    · rw [h1]; exact va_up_self _ _ _
  by_cases hem : (S.A.ru (8 + t)).isEmpty = true
  · have hem' : S.A.ru (8 + t) = [] := List.isEmpty_iff.mp hem
    have hb0 : aBuild (F + 1) (8 + t) S = aClose (aEmpty (aOpen S (8 + t)) (8 + t)) (8 + t) := by rw [aBuild_S, if_pos hem]
    have htr : S.A.tr (8 + t) = none := hgi.2.1 hem'
    have hlen := hB1.1.len
    obtain ⟨M2, bk2, i, f1, f2, f3, f4, f5, f6, f7⟩ := c_X7_fails (B := B) (D := D) (n := n) (w := w) (r := r) (f := f) (k := nI (8 + t)) (s := 6) (t := -1) (y := -1) hB1.1 (by omega) (fun _ => ⟨8 + t, by omega, rfl, rfl, rfl⟩)
    rw [if_pos rfl] at f7
    have hB2 := hB1.bg f2 f4 f3.g
    have htr2 : M2.2.1 5 (424 + 25 * t) = -1 := by
      have := hB2.2.1.2.2.2 t ht hX0
      rw [show (aOpen S (8 + t)).A.tr (8 + t) = none from htr] at this
      exact this
    have hsa : (M2.sa 5 (408 + t) (nI (2 * i + 1))).sa 5 (424 + 25 * t) (-1) = M2.sa 5 (408 + t) (nI (2 * i + 1)) := by
      have e : (M2.sa 5 (408 + t) (nI (2 * i + 1))).2.1 5 (424 + 25 * t) = -1 := by
        rw [sa5, va_up_ne _ _ (by omega)]; exact htr2
      have := sa_id (M2.sa 5 (408 + t) (nI (2 * i + 1))) 5 (424 + 25 * t)
      rw [e] at this
      exact this
    have hcd : CdO bk2 (some (emR (8 + t))) (nI (2 * i + 1)) := ⟨by simp [emR], Or.inr ⟨by decide, rfl, Or.inl rfl, i, -1, f6, f5, rfl, rfl⟩⟩
    have hN := hB2.2.1.setrs List.prefix_rfl hcd ht
    refine fin (M2.sa 5 (408 + t) (nI (2 * i + 1))) bk2 (aEmpty (aOpen S (8 + t)) (8 + t)) 0 hb0 ⟨⟨f2.of rfl (fun j h1 h2 => va_up_ne _ _ (by omega)), ?_, hB2.2.2.1, hB1.2.2.2.set (rs := some (emR (8 + t))) (tr := S.A.tr (8 + t)) hop1 rfl rfl rfl rfl⟩, f4, hFb1.tra (f3.g.fb.tra ⟨fun _ _ => rfl, fun j hj => va_up_ne _ _ (by omega), rfl⟩), by show ne bk2 + cd S.dn ≤ ne bk + cd S.dn + 0; omega, fun _ h => h⟩ (by omega) hdn ?_ (fun _ => ?_) (fun T x hT => ?_) (fun h1 hk => ?_)
    · exact hN
    · show va_up S.A.rs (8 + t) (some (emR (8 + t))) (8 + t) ≠ none
      rw [va_up_self]; simp
    · show va_up S.A.tr (8 + t) (S.A.tr (8 + t)) (8 + t) = none
      rw [va_up_self]; exact htr
    · have hT : va_up S.A.tr (8 + t) (S.A.tr (8 + t)) (8 + t) = some T := hT
      rw [va_up_self, htr] at hT; cases hT
    · have hk := hk none none
      rw [← hsa] at hk
      refine CT.of [some (.ref r), some (.int (nI (8 + t))), none, none] rfl (Nat.le_of_ble_eq_true rfl) pl_X7 trivial ?_
      refine px_aload_n dX7_builds_0 rfl ?_
      refine mx_get fl_X7_64 dX7_builds_1 rfl ?_
      refine px_iload_n dX7_builds_4 rfl ?_
      refine px_iconst (v := 1) dX7_builds_5 (by decide) ?_
      refine mx_bastore (j := 10) (m := 24) (q := 8 + t) dX7_builds_6 (by decide) (by first | rfl | (simp (disch := omega) only [li0, li1, li2, li3, li5, li6, li8, li9, li10, li12, li13, li16, li20, li24, li25, li100, li408, li424, li824, nI_add, nI_mul, nI_sub]; first | done | rfl | (congr 1; omega))) (by omega) (by first | exact Or.inl rfl | exact Or.inr rfl | exact bi_01 _) ?_
      refine px_aload_n dX7_builds_7 rfl ?_
      refine px_iload_n dX7_builds_8 rfl ?_
      refine px_iconst (v := 0) dX7_builds_9 (by decide) ?_
      refine px_callV1 (ν := mX7_ruled) (ci := 7) rfl rfl lk_X7_140 in_X7_ruled se_X7_ruled mok_X7_ruled dX7_builds_10 (c_X7_ruled ht (q := 0) rfl (by omega)) (by exact mH_0) rfl rfl (by omega) (by simp) ?_
      rw [hru0]
      refine px_if_ne (tgt := 52) dX7_builds_13 (by decide) (fun hc13 => ?_) (fun hc13 => ?_)
      · rw [hem'] at hc13; exact absurd rfl hc13
      · refine px_aload_n dX7_builds_16 rfl ?_
        refine mx_get fl_X7_48 dX7_builds_17 rfl ?_
        refine px_sipush (v := 408) dX7_builds_20 (by decide) ?_
        refine px_iload_n dX7_builds_23 rfl ?_
        refine px_iadd dX7_builds_24 ?_
        refine px_bipush (v := 8) dX7_builds_25 (by decide) ?_
        refine px_isub dX7_builds_27 ?_
        refine px_aload_n dX7_builds_28 rfl ?_
        refine px_iload_n dX7_builds_29 rfl ?_
        refine px_bipush (v := 6) dX7_builds_30 (by decide) ?_
        refine px_iconst (v := (-1)) dX7_builds_32 (by decide) ?_
        refine px_iconst (v := (-1)) dX7_builds_33 (by decide) ?_
        refine px_callV1 (ν := mX7_fails) (ci := 7) rfl rfl lk_X7_104 in_X7_fails se_X7_fails mok_X7_fails dX7_builds_34 (f1) (by exact mH_0) rfl rfl (by omega) (by simp) ?_
        refine mx_iastore (j := 5) (m := 824) (q := 408 + t) dX7_builds_37 (by decide) (by first | rfl | (simp (disch := omega) only [li0, li1, li2, li3, li5, li6, li8, li9, li10, li12, li13, li16, li20, li24, li25, li100, li408, li424, li824, nI_add, nI_mul, nI_sub]; first | done | rfl | (congr 1; omega))) (by omega) ?_
        refine px_aload_n dX7_builds_38 rfl ?_
        refine mx_get fl_X7_48 dX7_builds_39 rfl ?_
        refine px_aload_n dX7_builds_42 rfl ?_
        refine px_iload_n dX7_builds_43 rfl ?_
        refine px_callV1 (ν := mX7_traceAt) (ci := 7) rfl rfl lk_X7_98 in_X7_traceAt se_X7_traceAt mok_X7_traceAt dX7_builds_44 (c_X7_traceAt ht) (by exact mH_0) rfl rfl (by omega) (by simp) ?_
        refine px_iconst (v := (-1)) dX7_builds_47 (by decide) ?_
        refine mx_iastore (j := 5) (m := 824) (q := 424 + 25 * t) dX7_builds_48 (by decide) (by first | rfl | (simp (disch := omega) only [li0, li1, li2, li3, li5, li6, li8, li9, li10, li12, li13, li16, li20, li24, li25, li100, li408, li424, li824, nI_add, nI_mul, nI_sub]; first | done | rfl | (congr 1; omega))) (by omega) ?_
        refine px_goto (tgt := 130) dX7_builds_49 (by decide) ?_
        exact hk
  · have hemn : ¬ nI (S.A.ru (8 + t)).length = 0 := nI_ne0 (by cases h : S.A.ru (8 + t) with | nil => rw [h] at hem; exact absurd rfl hem | cons a l => simp) (by have := hru.1; omega)
    have hrun : S.A.ru (8 + t) ≠ [] := fun e => by rw [e] at hem; exact hem rfl
    -- the RUNs, from any state behind the looking
    have hcapO : ∀ bk1 (S1 : BS), ne bk1 + cd S.dn ≤ ne bk + cd S1.dn + 0 → ne bk1 + 16 ≤ 8900 + cd S1.dn := fun bk1 S1 h => by omega
    cases htr : S.A.tr (8 + t) with
    | none =>
      have hb0 : aBuild (F + 1) (8 + t) S = aClose (aRun (aNeed (aBuild F)) (8 + t) 16 (aOpen S (8 + t))) (8 + t) := by
        rw [aBuild_S, if_neg hem]
        rw [htr]
      have htr2 : (M.sa 10 (8 + t) 1).2.1 5 (424 + 25 * t) = -1 := by
        have := hB.2.1.2.2.2 t ht hX0
        rw [htr] at this
        exact this
      obtain ⟨M', bk', z2, z3, g1, g2, g3, g4⟩ := b_run hdd (Nat.le_refl _) hH ht hX0 hB1 hop1 hdn hX1 hF1 hcap
      have hK := Kq_run (Kp_build F) (8 + t) 16 (aOpen S (8 + t))
      refine fin M' bk' _ 1 hb0 (hP1.tra g2 (Nat.le_refl _)) (Nat.le_refl _) (by rw [hK.2.2.2.2 _ hop1]; exact hdn) g3 (fun h => ?_) g4 (fun h1 hk => ?_)
      · rw [hK.2.2.1] at h; exact absurd h hrun
      · have hk := g1 _ _ (hk z2 z3)
        refine CT.of [some (.ref r), some (.int (nI (8 + t))), none, none] rfl (Nat.le_of_ble_eq_true rfl) pl_X7 trivial ?_
        refine px_aload_n dX7_builds_0 rfl ?_
        refine mx_get fl_X7_64 dX7_builds_1 rfl ?_
        refine px_iload_n dX7_builds_4 rfl ?_
        refine px_iconst (v := 1) dX7_builds_5 (by decide) ?_
        refine mx_bastore (j := 10) (m := 24) (q := 8 + t) dX7_builds_6 (by decide) (by first | rfl | (simp (disch := omega) only [li0, li1, li2, li3, li5, li6, li8, li9, li10, li12, li13, li16, li20, li24, li25, li100, li408, li424, li824, nI_add, nI_mul, nI_sub]; first | done | rfl | (congr 1; omega))) (by omega) (by first | exact Or.inl rfl | exact Or.inr rfl | exact bi_01 _) ?_
        refine px_aload_n dX7_builds_7 rfl ?_
        refine px_iload_n dX7_builds_8 rfl ?_
        refine px_iconst (v := 0) dX7_builds_9 (by decide) ?_
        refine px_callV1 (ν := mX7_ruled) (ci := 7) rfl rfl lk_X7_140 in_X7_ruled se_X7_ruled mok_X7_ruled dX7_builds_10 (c_X7_ruled ht (q := 0) rfl (by omega)) (by exact mH_0) rfl rfl (by omega) (by simp) ?_
        rw [hru0]
        refine px_if_ne (tgt := 52) dX7_builds_13 (by decide) (fun hc13 => ?_) (fun hc13 => ?_)
        · refine px_aload_n dX7_builds_52 rfl ?_
          refine px_iload_n dX7_builds_53 rfl ?_
          refine px_callV1 (ν := mX7_traced) (ci := 7) rfl rfl lk_X7_147 in_X7_traced se_X7_traced mok_X7_traced dX7_builds_54 (c_X7_traced ht) (by exact mH_0) rfl rfl (by omega) (by simp) ?_
          rw [htr2]
          refine px_if_lt (tgt := 81) dX7_builds_57 (by decide) (fun hc57 => ?_) (fun hc57 => ?_)
          · exact hk
          · exact absurd (by decide) hc57
        · exact absurd hc13 hemn
    | some T =>
      have htr1 : (aOpen S (8 + t)).A.tr (8 + t) = some T := htr
      obtain ⟨u1, u2, u3⟩ := hB1.tr ht hX0 htr1
      obtain ⟨M5, bk5, hC, hP5, hlk⟩ := c_X7_isAsSeen (d := dd + 1) (by omega) (Nat.le_refl _) hH ht hX0 hB1 htr1 hop1 hX1 hF1 hcap
      have hK := Kp_look (Kp_build F) T (aOpen S (8 + t))
      have hop5 : (aLook (aBuild F) T (aOpen S (8 + t))).1.op (8 + t) = true := by rw [hK.1]; exact hop1
      have hdn5 : (aLook (aBuild F) T (aOpen S (8 + t))).1.dn (8 + t) = false := by rw [hK.2.2.2.2 _ hop1]; exact hdn
      have hru5 : (aLook (aBuild F) T (aOpen S (8 + t))).1.A.ru = S.A.ru := hK.2.2.1
      have htr5 : (aLook (aBuild F) T (aOpen S (8 + t))).1.A.tr (8 + t) = some T := by rw [(hK.2.2.2.1 _ hop1).1]; exact htr
      have hrs5 : (aLook (aBuild F) T (aOpen S (8 + t))).1.A.rs (8 + t) = S.A.rs (8 + t) := (hK.2.2.2.1 _ hop1).2
      cases hlb : (aLook (aBuild F) T (aOpen S (8 + t))).2 with
      | true =>
        have hb0 : aBuild (F + 1) (8 + t) S = aClose (aSpare (aLook (aBuild F) T (aOpen S (8 + t))).1) (8 + t) := by
          rw [aBuild_S, if_neg hem]
          rw [htr]
          show aClose (if (aLook (aBuild F) T (aOpen S (8 + t))).2 = true then _ else _) _ = _
          rw [if_pos hlb]
        obtain ⟨b1, b2, b3, b4, b5, b6, b7⟩ := hP5.1.2.2.1
        refine fin (M5.sets 18 (M5.1 18 + 1)) bk5 (aSpare (aLook (aBuild F) T (aOpen S (8 + t))).1) 0 hb0 (hP1.tra (e2 := 0) ⟨⟨hP5.1.1.of rfl (fun _ _ _ => rfl), hP5.1.2.1, ⟨b1, b2, b3, b4, b5, ?_, b7⟩, hP5.1.2.2.2.of rfl rfl rfl rfl⟩, hP5.2.1, hP5.2.2.1.tra ⟨fun j hj => by rcases hj with rfl | rfl | rfl <;> rfl, fun _ _ => rfl, rfl⟩, hP5.2.2.2.1, hP5.2.2.2.2⟩ (Nat.le_refl _)) (by omega) hdn5 ?_ (fun h => ?_) (fun T2 x hT2 hx => ?_) (fun h1 hk => ?_)
        · show va_up M5.1 18 (M5.1 18 + 1) 18 = _ + 1
          rw [va_up_self, b6]
        · show (aLook (aBuild F) T (aOpen S (8 + t))).1.A.rs (8 + t) ≠ none
          rw [hrs5]
          exact hgi.1 (by rw [htr]; simp)
        · have h : (aLook (aBuild F) T (aOpen S (8 + t))).1.A.ru (8 + t) = [] := h
          rw [hru5] at h; exact absurd h hrun
        · have hT2 : (aLook (aBuild F) T (aOpen S (8 + t))).1.A.tr (8 + t) = some T2 := hT2
          rw [htr5] at hT2
          cases hT2
          obtain ⟨i, hi⟩ := List.mem_iff_getElem?.mp hx
          exact ⟨(u3 i x hi).2.1, fun h8 => hlk hlb x hx h8⟩
        · have hk := hk none none
          rw [hlb] at hC
          refine CT.of [some (.ref r), some (.int (nI (8 + t))), none, none] rfl (Nat.le_of_ble_eq_true rfl) pl_X7 trivial ?_
          refine px_aload_n dX7_builds_0 rfl ?_
          refine mx_get fl_X7_64 dX7_builds_1 rfl ?_
          refine px_iload_n dX7_builds_4 rfl ?_
          refine px_iconst (v := 1) dX7_builds_5 (by decide) ?_
          refine mx_bastore (j := 10) (m := 24) (q := 8 + t) dX7_builds_6 (by decide) (by first | rfl | (simp (disch := omega) only [li0, li1, li2, li3, li5, li6, li8, li9, li10, li12, li13, li16, li20, li24, li25, li100, li408, li424, li824, nI_add, nI_mul, nI_sub]; first | done | rfl | (congr 1; omega))) (by omega) (by first | exact Or.inl rfl | exact Or.inr rfl | exact bi_01 _) ?_
          refine px_aload_n dX7_builds_7 rfl ?_
          refine px_iload_n dX7_builds_8 rfl ?_
          refine px_iconst (v := 0) dX7_builds_9 (by decide) ?_
          refine px_callV1 (ν := mX7_ruled) (ci := 7) rfl rfl lk_X7_140 in_X7_ruled se_X7_ruled mok_X7_ruled dX7_builds_10 (c_X7_ruled ht (q := 0) rfl (by omega)) (by exact mH_0) rfl rfl (by omega) (by simp) ?_
          rw [hru0]
          refine px_if_ne (tgt := 52) dX7_builds_13 (by decide) (fun hc13 => ?_) (fun hc13 => ?_)
          · refine px_aload_n dX7_builds_52 rfl ?_
            refine px_iload_n dX7_builds_53 rfl ?_
            refine px_callV1 (ν := mX7_traced) (ci := 7) rfl rfl lk_X7_147 in_X7_traced se_X7_traced mok_X7_traced dX7_builds_54 (c_X7_traced ht) (by exact mH_0) rfl rfl (by omega) (by simp) ?_
            rw [u2]
            refine px_if_lt (tgt := 81) dX7_builds_57 (by decide) (fun hc57 => ?_) (fun hc57 => ?_)
            · exact absurd hc57 (nI_pos (by omega))
            · refine px_aload_n dX7_builds_60 rfl ?_
              refine px_iload_n dX7_builds_61 rfl ?_
              refine px_callV1 (ν := mX7_isAsSeen) (ci := 7) rfl rfl lk_X7_150 in_X7_isAsSeen se_X7_isAsSeen mok_X7_isAsSeen dX7_builds_62 (hC) (by exact mH_0) rfl rfl (by omega) (by simp) ?_
              refine px_ifb_eq (tgt := 81) dX7_builds_65 (by decide) (fun hc65 => ?_) (fun hc65 => ?_)
              · cases hc65
              · refine px_aload_n dX7_builds_68 rfl ?_
                refine px_dup dX7_builds_69 rfl ?_
                refine mx_get fl_X7_153 dX7_builds_70 rfl ?_
                refine px_iconst (v := 1) dX7_builds_73 (by decide) ?_
                refine px_iadd dX7_builds_74 ?_
                refine mx_put fp_X7_153 dX7_builds_75 rfl rfl (by decide) rfl ?_
                refine px_goto (tgt := 130) dX7_builds_78 (by decide) ?_
                exact hk
          · exact absurd hc13 hemn
      | false =>
        have hb0 : aBuild (F + 1) (8 + t) S = aClose (aRun (aNeed (aBuild F)) (8 + t) 16 (aLook (aBuild F) T (aOpen S (8 + t))).1) (8 + t) := by
          rw [aBuild_S, if_neg hem]
          rw [htr]
          show aClose (if (aLook (aBuild F) T (aOpen S (8 + t))).2 = true then _ else _) _ = _
          rw [if_neg (by rw [hlb]; decide)]
        rw [hlb] at hC
        obtain ⟨M', bk', z2, z3, g1, g2, g3, g4⟩ := b_run hdd (Nat.le_refl _) hH ht hX0 hP5.1 hop5 hdn5 (fun j hj => by rw [hK.1]; exact hX1 j hj) (by rw [hK.1]; exact hF1) (hcapO _ _ hP5.2.2.2.1)
        have hKr := Kq_run (Kp_build F) (8 + t) 16 (aLook (aBuild F) T (aOpen S (8 + t))).1
        refine fin M' bk' _ 1 hb0 ((hP1.tra hP5 (Nat.le_refl _)).tra g2 (Nat.le_refl _)) (Nat.le_refl _) (by rw [hKr.2.2.2.2 _ hop5]; exact hdn5) g3 (fun h => ?_) g4 (fun h1 hk => ?_)
        · rw [hKr.2.2.1, hru5] at h; exact absurd h hrun
        · have hk := g1 _ _ (hk z2 z3)
          refine CT.of [some (.ref r), some (.int (nI (8 + t))), none, none] rfl (Nat.le_of_ble_eq_true rfl) pl_X7 trivial ?_
          refine px_aload_n dX7_builds_0 rfl ?_
          refine mx_get fl_X7_64 dX7_builds_1 rfl ?_
          refine px_iload_n dX7_builds_4 rfl ?_
          refine px_iconst (v := 1) dX7_builds_5 (by decide) ?_
          refine mx_bastore (j := 10) (m := 24) (q := 8 + t) dX7_builds_6 (by decide) (by first | rfl | (simp (disch := omega) only [li0, li1, li2, li3, li5, li6, li8, li9, li10, li12, li13, li16, li20, li24, li25, li100, li408, li424, li824, nI_add, nI_mul, nI_sub]; first | done | rfl | (congr 1; omega))) (by omega) (by first | exact Or.inl rfl | exact Or.inr rfl | exact bi_01 _) ?_
          refine px_aload_n dX7_builds_7 rfl ?_
          refine px_iload_n dX7_builds_8 rfl ?_
          refine px_iconst (v := 0) dX7_builds_9 (by decide) ?_
          refine px_callV1 (ν := mX7_ruled) (ci := 7) rfl rfl lk_X7_140 in_X7_ruled se_X7_ruled mok_X7_ruled dX7_builds_10 (c_X7_ruled ht (q := 0) rfl (by omega)) (by exact mH_0) rfl rfl (by omega) (by simp) ?_
          rw [hru0]
          refine px_if_ne (tgt := 52) dX7_builds_13 (by decide) (fun hc13 => ?_) (fun hc13 => ?_)
          · refine px_aload_n dX7_builds_52 rfl ?_
            refine px_iload_n dX7_builds_53 rfl ?_
            refine px_callV1 (ν := mX7_traced) (ci := 7) rfl rfl lk_X7_147 in_X7_traced se_X7_traced mok_X7_traced dX7_builds_54 (c_X7_traced ht) (by exact mH_0) rfl rfl (by omega) (by simp) ?_
            rw [u2]
            refine px_if_lt (tgt := 81) dX7_builds_57 (by decide) (fun hc57 => ?_) (fun hc57 => ?_)
            · exact absurd hc57 (nI_pos (by omega))
            · refine px_aload_n dX7_builds_60 rfl ?_
              refine px_iload_n dX7_builds_61 rfl ?_
              refine px_callV1 (ν := mX7_isAsSeen) (ci := 7) rfl rfl lk_X7_150 in_X7_isAsSeen se_X7_isAsSeen mok_X7_isAsSeen dX7_builds_62 (hC) (by exact mH_0) rfl rfl (by omega) (by simp) ?_
              refine px_ifb_eq (tgt := 81) dX7_builds_65 (by decide) (fun hc65 => ?_) (fun hc65 => ?_)
              · exact hk
              · cases hc65
          · exact absurd hc13 hemn
theorem hr_zero {dd : Nat} : HR B D dd 0 n w r f := by
  intro S t M bk X ht hB hdn hop hX hF hcap
  have := cd_lt ht hop
  omega
theorem hr_all : ∀ F, HR B D (2 * F + 4) F n w r f
  | 0 => hr_zero
  | F + 1 => hr_step (by omega) (hr_all F)
end M62
