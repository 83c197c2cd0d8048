/-! the reference's row of all that a world is, by its places -/
def NI (g : Nat → Int32) (inn : Nat → Option Int32) : Prop := ∀ k, k < 8 → match inn k with
  | none => g k = -1
  | some c => s_isContent c.toInt64 = true ∧ g k = (c + 1000000) * 2
def NR (g : Nat → Int32) (ru : Nat → List (Int32 × Nat)) : Prop := ∀ t, t < 16 → (ru (8 + t)).length ≤ 12 ∧ g (8 + 25 * t) = nI (ru (8 + t)).length ∧ ∀ (i : Nat) (x : Int32 × Nat), (ru (8 + t))[i]? = some x → g (8 + 25 * t + (1 + 2 * i)) = x.1 ∧ g (8 + 25 * t + (2 + 2 * i)) = nI x.2
def NS (bk : BK) (g : Nat → Int32) (rs : Nat → Option (List Q4)) : Prop := ∀ t, t < 16 → CdO bk (rs (8 + t)) (g (408 + t))
def TrO (bk : BK) (o : Option aAcc) (g : Nat → Int32) (a : Nat) : Prop := match o with
  | none => g a = -1
  | some T => T.length ≤ 12 ∧ g a = nI T.length ∧ ∀ (i : Nat) (x : Nat × List Q4), T[i]? = some x → g (a + 1 + i) = nI x.1 ∧ x.1 < 24 ∧ x.2 ≠ [] ∧ Cd bk x.2 (g (a + 13 + i))
def NT (bk : BK) (X : Nat → Bool) (g : Nat → Int32) (tr : Nat → Option aAcc) : Prop := ∀ t, t < 16 → X (8 + t) = false → TrO bk (tr (8 + t)) g (424 + 25 * t)
def NW (bk : BK) (X : Nat → Bool) (g : Nat → Int32) (A : AW) : Prop := NI g A.inn ∧ NR g A.ru ∧ NS bk g A.rs ∧ NT bk X g A.tr
theorem NI.ag {g g' : Nat → Int32} {inn} (h : NI g inn) (he : ∀ q, q < 8 → g' q = g q) : NI g' inn := fun k hk => by
  have h1 := h k hk
  rw [he k hk]; exact h1
theorem NR.ag {g g' : Nat → Int32} {ru} (h : NR g ru) (he : ∀ q, 8 ≤ q → q < 408 → g' q = g q) : NR g' ru := fun t ht => by
  obtain ⟨h1, h2, h3⟩ := h t ht
  refine ⟨h1, by rw [he _ (by omega) (by omega)]; exact h2, fun i x hx => ?_⟩
  have hi := (List.getElem?_eq_some_iff.mp hx).1
  rw [he _ (by omega) (by omega), he _ (by omega) (by omega)]
  exact h3 i x hx
theorem NS.ag {bk bk' : BK} {g g' : Nat → Int32} {rs} (h : NS bk g rs) (hp : bk <+: bk') (he : ∀ q, 408 ≤ q → q < 424 → g' q = g q) : NS bk' g' rs := fun t ht => by
  rw [he _ (by omega) (by omega)]
  exact (h t ht).mono hp
theorem TrO.ag {bk bk' : BK} {o g g'} {a : Nat} (h : TrO bk o g a) (hp : bk <+: bk') (he : ∀ q, a ≤ q → q < a + 25 → g' q = g q) : TrO bk' o g' a := by
  cases o with
  | none => show g' a = -1; rw [he _ (by omega) (by omega)]; exact h
  | some T =>
    obtain ⟨h1, h2, h3⟩ := h
    refine ⟨h1, by rw [he _ (by omega) (by omega)]; exact h2, fun i x hx => ?_⟩
    have hi := (List.getElem?_eq_some_iff.mp hx).1
    obtain ⟨a1, a2, a3, a4⟩ := h3 i x hx
    rw [he _ (by omega) (by omega), he _ (by omega) (by omega)]
    exact ⟨a1, a2, a3, a4.mono hp⟩
theorem NT.ag {bk bk' : BK} {X g g' tr} (h : NT bk X g tr) (hp : bk <+: bk') (he : ∀ q, 424 ≤ q → q < 824 → g' q = g q) : NT bk' X g' tr := fun t ht hX => (h t ht hX).ag hp (fun q h1 h2 => he q (by omega) (by omega))
theorem NW.ag {bk bk' : BK} {X g g' A} (h : NW bk X g A) (hp : bk <+: bk') (he : ∀ q, q < 824 → g' q = g q) : NW bk' X g' A := ⟨h.1.ag (fun q h => he q (by omega)), h.2.1.ag (fun q _ h => he q (by omega)), h.2.2.1.ag hp (fun q _ h => he q (by omega)), h.2.2.2.ag hp (fun q _ h => he q (by omega))⟩
/-- a step that may only add to the book -/
def Bs (M : MS) (bk : BK) (M' : MS) (bk' : BK) (e : Nat) : Prop := Bk M' bk' ∧ Bo M M' ∧ bk <+: bk' ∧ ne bk' ≤ ne bk + e
theorem Bs.rf {M : MS} {bk : BK} (h : Bk M bk) : Bs M bk M bk 0 := ⟨h, Bo.rf M, List.prefix_rfl, Nat.le_refl _⟩
theorem Bs.tra {M N K : MS} {a b c : BK} {e1 e2 e : Nat} (h1 : Bs M a N b e1) (h2 : Bs N b K c e2) (he : e1 + e2 ≤ e) : Bs M a K c e := ⟨h2.1, h1.2.1.tra h2.2.1, h1.2.2.1.trans h2.2.2.1, by have := h1.2.2.2; have := h2.2.2.2; omega⟩
theorem Bs.nw {M M' : MS} {bk bk' : BK} {e X A} (h : Bs M bk M' bk' e) (hN : NW bk X (M.2.1 5) A) : NW bk' X (M'.2.1 5) A := hN.ag h.2.2.1 (fun q _ => by rw [h.2.1.2.1 5 (by omega)])
section M55
variable {B : Nat} {D : va_G} {n w r : Nat} {f : Nat → Option va_E} {M : MS} {bk : BK}
theorem c_X7_ruled {t q : Nat} {i : Int32} (ht : t < 16) (hi : i = nI q) (hq : q < 25) : CT B D 0 mX7_ruled [.ref r, .int (nI (8 + t)), .int i] (n, w, mH r f M) (some (.int (M.2.1 5 (8 + 25 * t + q)))) (n, w, mH r f M) := by
  subst hi
  refine CT.of [some (.ref r), some (.int (nI (8 + t))), some (.int (nI q))] rfl (Nat.le_of_ble_eq_true rfl) pl_X7 trivial ?_
  refine px_aload_n dX7_ruled_0 rfl ?_
  refine mx_get fl_X7_48 dX7_ruled_1 rfl ?_
  refine px_bipush (v := 8) dX7_ruled_4 (by decide) ?_
  refine px_bipush (v := 25) dX7_ruled_6 (by decide) ?_
  refine px_iload_n dX7_ruled_8 rfl ?_
  refine px_bipush (v := 8) dX7_ruled_9 (by decide) ?_
  refine px_isub dX7_ruled_11 ?_
  refine px_imul dX7_ruled_12 ?_
  refine px_iadd dX7_ruled_13 ?_
  refine px_iload_n dX7_ruled_14 rfl ?_
  refine px_iadd dX7_ruled_15 ?_
  refine mx_iaload (j := 5) (m := 824) (q := 8 + 25 * t + q) dX7_ruled_16 (by decide) (by first | rfl | (simp (disch := omega) only [li0, li1, li2, li3, li5, li6, li8, li9, li10, li12, li13, li16, li20, li24, li25, li100, li408, li424, li824, nI_add, nI_mul, nI_sub]; first | done | rfl | (congr 1; omega))) (by omega) ?_
  exact px_reti dX7_ruled_17 (by rfl) (by rfl)
theorem c_X7_traceAt {t : Nat} (ht : t < 16) : CT B D 0 mX7_traceAt [.ref r, .int (nI (8 + t))] (n, w, mH r f M) (some (.int (nI (424 + 25 * t)))) (n, w, mH r f M) := by
  refine CT.of [some (.ref r), some (.int (nI (8 + t)))] rfl (Nat.le_of_ble_eq_true rfl) pl_X7 trivial ?_
  refine px_sipush (v := 424) dX7_traceAt_0 (by decide) ?_
  refine px_bipush (v := 25) dX7_traceAt_3 (by decide) ?_
  refine px_iload_n dX7_traceAt_5 rfl ?_
  refine px_bipush (v := 8) dX7_traceAt_6 (by decide) ?_
  refine px_isub dX7_traceAt_8 ?_
  refine px_imul dX7_traceAt_9 ?_
  refine px_iadd dX7_traceAt_10 ?_
  exact px_reti dX7_traceAt_11 (by congr 2; first | rfl | (simp (disch := omega) only [li0, li1, li2, li3, li5, li6, li8, li9, li10, li12, li13, li16, li20, li24, li25, li100, li408, li424, li824, nI_add, nI_mul, nI_sub]; first | done | rfl | (congr 1; omega))) (by rfl)
theorem c_X7_traced {t : Nat} (ht : t < 16) : CT B D 1 mX7_traced [.ref r, .int (nI (8 + t))] (n, w, mH r f M) (some (.int (M.2.1 5 (424 + 25 * t)))) (n, w, mH r f M) := by
  refine CT.of [some (.ref r), some (.int (nI (8 + t)))] rfl (Nat.le_of_ble_eq_true rfl) pl_X7 trivial ?_
  refine px_aload_n dX7_traced_0 rfl ?_
  refine mx_get fl_X7_48 dX7_traced_1 rfl ?_
  refine px_aload_n dX7_traced_4 rfl ?_
  refine px_iload_n dX7_traced_5 rfl ?_
  refine px_callV1 (ν := mX7_traceAt) (ci := 7) rfl rfl lk_X7_98 in_X7_traceAt se_X7_traceAt mok_X7_traceAt dX7_traced_6 (c_X7_traceAt ht) (by exact mH_0) rfl rfl (by omega) (by simp) ?_
  refine mx_iaload (j := 5) (m := 824) (q := 424 + 25 * t) dX7_traced_9 (by decide) (by first | rfl | (simp (disch := omega) only [li0, li1, li2, li3, li5, li6, li8, li9, li10, li12, li13, li16, li20, li24, li25, li100, li408, li424, li824, nI_add, nI_mul, nI_sub]; first | done | rfl | (congr 1; omega))) (by omega) ?_
  exact px_reti dX7_traced_10 (by rfl) (by rfl)
theorem c_X7_isDone {m : Nat} (hm : m < 24) : CT B D 2 mX7_isDone [.ref r, .int (nI m)] (n, w, mH r f M) (some (.int (bi (s_isInput (nI m) || !decide (M.2.1 9 m = 0))))) (n, w, mH r f M) := by
  refine CT.of [some (.ref r), some (.int (nI m))] rfl (Nat.le_of_ble_eq_true rfl) pl_X7 (bi_01 _) ?_
  refine px_iload_n dX7_isDone_0 rfl ?_
  refine px_callS1 (ν := mX7_isInput) lk_X7_108 st_X7_isInput mok_X7_isInput dX7_isDone_1 (cr_isInput _) rfl rfl (by omega) (by simp) ?_
  refine px_ifb_ne (tgt := 16) dX7_isDone_4 (by decide) (fun hc4 => ?_) (fun hc4 => ?_)
  · refine px_iconst (v := 1) dX7_isDone_16 (by decide) ?_
    refine px_goto (tgt := 21) dX7_isDone_17 (by decide) ?_
    exact px_reti dX7_isDone_21 (by first | (simp [bi, *]; done) | (simp_all [bi]; done)) (by rfl)
  · refine px_aload_n dX7_isDone_7 rfl ?_
    refine mx_get fl_X7_60 dX7_isDone_8 rfl ?_
    refine px_iload_n dX7_isDone_11 rfl ?_
    refine mx_baload (j := 9) (m := 24) (q := m) dX7_isDone_12 (by decide) (by first | rfl | (simp (disch := omega) only [li0, li1, li2, li3, li5, li6, li8, li9, li10, li12, li13, li16, li20, li24, li25, li100, li408, li424, li824, nI_add, nI_mul, nI_sub]; first | done | rfl | (congr 1; omega))) (by omega) ?_
    refine px_if_eq (tgt := 20) dX7_isDone_13 (by decide) (fun hc13 => ?_) (fun hc13 => ?_)
    · refine px_iconst (v := 0) dX7_isDone_20 (by decide) ?_
      exact px_reti dX7_isDone_21 (by first | (simp [bi, *]; done) | (simp_all [bi]; done)) (by rfl)
    · refine px_iconst (v := 1) dX7_isDone_16 (by decide) ?_
      refine px_goto (tgt := 21) dX7_isDone_17 (by decide) ?_
      exact px_reti dX7_isDone_21 (by first | (simp [bi, *]; done) | (simp_all [bi]; done)) (by rfl)
def MS.fin (M : MS) (m L : Nat) : MS := (((M.sa 10 m 0).sa 9 m 1).sa 11 L (nI m)).sets 14 (nI (L + 1))
theorem c_X7_finishes {m L : Nat} (hm : m < 24) (hL : L < 16) (h14 : M.1 14 = nI L) : CT B D 0 mX7_finishes [.ref r, .int (nI m)] (n, w, mH r f M) none (n, w, mH r f (M.fin m L)) := by
  refine CT.of [some (.ref r), some (.int (nI m))] rfl (Nat.le_of_ble_eq_true rfl) pl_X7 trivial ?_
  refine px_aload_n dX7_finishes_0 rfl ?_
  refine mx_get fl_X7_64 dX7_finishes_1 rfl ?_
  refine px_iload_n dX7_finishes_4 rfl ?_
  refine px_iconst (v := 0) dX7_finishes_5 (by decide) ?_
  refine mx_bastore (j := 10) (m := 24) (q := m) dX7_finishes_6 (by decide) (by first | rfl | (simp (disch := omega) only [li0, li1, li2, li3, li5, li6, li8, li9, li10, li12, li13, li16, li20, li24, li25, li100, li408, li424, li824, nI_add, nI_mul, nI_sub]; first | done | rfl | (congr 1; omega))) (by omega) (by first | exact Or.inl rfl | exact Or.inr rfl | exact bi_01 _) ?_
  refine px_aload_n dX7_finishes_7 rfl ?_
  refine mx_get fl_X7_60 dX7_finishes_8 rfl ?_
  refine px_iload_n dX7_finishes_11 rfl ?_
  refine px_iconst (v := 1) dX7_finishes_12 (by decide) ?_
  refine mx_bastore (j := 9) (m := 24) (q := m) dX7_finishes_13 (by decide) (by first | rfl | (simp (disch := omega) only [li0, li1, li2, li3, li5, li6, li8, li9, li10, li12, li13, li16, li20, li24, li25, li100, li408, li424, li824, nI_add, nI_mul, nI_sub]; first | done | rfl | (congr 1; omega))) (by omega) (by first | exact Or.inl rfl | exact Or.inr rfl | exact bi_01 _) ?_
  refine px_aload_n dX7_finishes_14 rfl ?_
  refine mx_get fl_X7_67 dX7_finishes_15 rfl ?_
  refine px_aload_n dX7_finishes_18 rfl ?_
  refine mx_get fl_X7_144 dX7_finishes_19 rfl ?_
  refine px_iload_n dX7_finishes_22 rfl ?_
  refine mx_iastore (j := 11) (m := 16) (q := L) dX7_finishes_23 (by decide) (by exact h14) (by omega) ?_
  refine px_aload_n dX7_finishes_24 rfl ?_
  refine px_dup dX7_finishes_25 rfl ?_
  refine mx_get fl_X7_144 dX7_finishes_26 rfl ?_
  refine px_iconst (v := 1) dX7_finishes_29 (by decide) ?_
  refine px_iadd dX7_finishes_30 ?_
  refine mx_put fp_X7_144 dX7_finishes_31 rfl rfl (by decide) rfl ?_
  exact px_retv dX7_finishes_34 rfl (by show (n, w, mH r f (MS.sets _ 14 (nI (L + 1)))) = (n, w, mH r f (MS.sets _ 14 (M.1 14 + 1))); rw [h14, ← nI_succ])
theorem c_X7_toldOf {o : Option (List Q4)} {x : Int32} (hb : Bk M bk) (h : CdO bk o x) : CT B D 1 mX7_toldOf [.ref r, .int x] (n, w, mH r f M) (some (.int (toldO o))) (n, w, mH r f M) := by
  cases o with
  | none =>
    have h : x = -1 := h
    subst h
    refine CT.of [some (.ref r), some (.int (-1))] rfl (Nat.le_of_ble_eq_true rfl) pl_X7 trivial ?_
    refine px_iload_n dX7_toldOf_0 rfl ?_
    refine px_if_ge (tgt := 9) dX7_toldOf_1 (by decide) (fun hc1 => ?_) (fun hc1 => ?_)
    · exact absurd hc1 (by decide)
    · refine px_ldc dX7_toldOf_4 kc_X7_33 ?_
      refine px_goto (tgt := 34) dX7_toldOf_6 (by decide) ?_
      exact px_reti dX7_toldOf_34 (by rfl) (by rfl)
  | some l =>
    have h0 := h.2.ne h.1
    have hf := h.2.fail
    cases hl : isF l with
    | false =>
      rw [hl] at hf
      obtain ⟨v1, v2, v3⟩ := h.2.val h.1 hl
      refine CT.of [some (.ref r), some (.int x)] rfl (Nat.le_of_ble_eq_true rfl) pl_X7 trivial ?_
      refine px_iload_n dX7_toldOf_0 rfl ?_
      refine px_if_ge (tgt := 9) dX7_toldOf_1 (by decide) (fun hc1 => ?_) (fun hc1 => ?_)
      · refine px_iload_n dX7_toldOf_9 rfl ?_
        refine px_callS1 (ν := mX7_isFailure) lk_X7_34 st_X7_isFailure mok_X7_isFailure dX7_toldOf_10 (c_X7_isFailure _) rfl rfl (by omega) (by simp) ?_
        refine px_ifb_eq (tgt := 30) dX7_toldOf_13 (by decide) (fun hc13 => ?_) (fun hc13 => ?_)
        · refine px_iload_n dX7_toldOf_30 rfl ?_
          refine px_callS1 (ν := mX7_numberOf) lk_X7_38 st_X7_numberOf mok_X7_numberOf dX7_toldOf_31 (c_X7_numberOf _) rfl rfl (by omega) (by simp) ?_
          exact px_reti dX7_toldOf_34 (by rw [v1]; rfl) (by rfl)
        · rw [hf] at hc13; cases hc13
      · exact absurd (by simpa using hc1) h0
    | true =>
      rw [hl] at hf
      obtain ⟨k, s, t, l', i, y, e1, e2, e3, e4, e5, e6, e7, e8⟩ := h.2.row hl
      subst e1
      have hk1 := hb.2.1 i _ e6
      refine CT.of [some (.ref r), some (.int x)] rfl (Nat.le_of_ble_eq_true rfl) pl_X7 trivial ?_
      refine px_iload_n dX7_toldOf_0 rfl ?_
      refine px_if_ge (tgt := 9) dX7_toldOf_1 (by decide) (fun hc1 => ?_) (fun hc1 => ?_)
      · refine px_iload_n dX7_toldOf_9 rfl ?_
        refine px_callS1 (ν := mX7_isFailure) lk_X7_34 st_X7_isFailure mok_X7_isFailure dX7_toldOf_10 (c_X7_isFailure _) rfl rfl (by omega) (by simp) ?_
        refine px_ifb_eq (tgt := 30) dX7_toldOf_13 (by decide) (fun hc13 => ?_) (fun hc13 => ?_)
        · rw [hf] at hc13; cases hc13
        · refine px_ldc dX7_toldOf_16 kc_X7_33 ?_
          refine px_aload_n dX7_toldOf_18 rfl ?_
          refine mx_get fl_X7_24 dX7_toldOf_19 rfl ?_
          refine px_iload_n dX7_toldOf_22 rfl ?_
          refine px_iconst (v := 2) dX7_toldOf_23 (by decide) ?_
          refine px_idiv dX7_toldOf_24 (by decide) ?_
          refine mx_iaload (j := 2) (m := 9000) (q := i) dX7_toldOf_25 (by decide) (by exact e5) (by omega) ?_
          refine px_iadd dX7_toldOf_26 ?_
          refine px_goto (tgt := 34) dX7_toldOf_27 (by decide) ?_
          exact px_reti dX7_toldOf_34 (by rw [hk1.2.1]; show some (Value.int (if s = 0 then _ else _)) = _; rw [if_neg e2]) (by rfl)
      · exact absurd (by simpa using hc1) h0
theorem c_X7_has_t {t : Nat} (ht : t < 16) : CT B D 2 mX7_has [.ref r, .int (nI (8 + t))] (n, w, mH r f M) (some (.int (M.2.1 5 (408 + t)))) (n, w, mH r f M) := by
  refine CT.of [some (.ref r), some (.int (nI (8 + t)))] rfl (Nat.le_of_ble_eq_true rfl) pl_X7 trivial ?_
  refine px_iload_n dX7_has_0 rfl ?_
  refine px_callS1 (ν := mX7_isTarget) lk_X7_101 st_X7_isTarget mok_X7_isTarget dX7_has_1 (cr_isTarget _) rfl rfl (by omega) (by simp) ?_
  refine px_ifb_eq (tgt := 21) dX7_has_4 (by decide) (fun hc4 => ?_) (fun hc4 => ?_)
  · rw [inT_t ht] at hc4; cases hc4
  · refine px_aload_n dX7_has_7 rfl ?_
    refine mx_get fl_X7_48 dX7_has_8 rfl ?_
    refine px_sipush (v := 408) dX7_has_11 (by decide) ?_
    refine px_iload_n dX7_has_14 rfl ?_
    refine px_iadd dX7_has_15 ?_
    refine px_bipush (v := 8) dX7_has_16 (by decide) ?_
    refine px_isub dX7_has_18 ?_
    refine mx_iaload (j := 5) (m := 824) (q := 408 + t) dX7_has_19 (by decide) (by first | rfl | (simp (disch := omega) only [li0, li1, li2, li3, li5, li6, li8, li9, li10, li12, li13, li16, li20, li24, li25, li100, li408, li424, li824, nI_add, nI_mul, nI_sub]; first | done | rfl | (congr 1; omega))) (by omega) ?_
    exact px_reti dX7_has_20 (by rfl) (by rfl)
theorem c_X7_has {A : AW} (hb : Bk M bk) (hcap : ne bk ≤ 8900) (hI : NI (M.2.1 5) A.inn) (hS : NS bk (M.2.1 5) A.rs) {m : Nat} (hm : m < 24) : ∃ (M' : MS) (bk' : BK) (x : Int32), CT B D 2 mX7_has [.ref r, .int (nI m)] (n, w, mH r f M) (some (.int x)) (n, w, mH r f M') ∧ Bs M bk M' bk' 0 ∧ CdO bk' (aHas A m) x := by
  rcases Nat.lt_or_ge m 8 with h8 | h8
  · have hA : aHas A m = some (match A.inn m with | some c => numR c | none => emR m) := if_pos h8
    have hI1 := hI m h8
    cases hi : A.inn m with
    | some c =>
      rw [hi] at hI1 hA
      rw [hA]
      have hx := cn_nI hI1.1
      refine ⟨M, bk, _, ?_, Bs.rf hb, by simp [numR], Cd.num hI1.1⟩
      refine CT.of [some (.ref r), some (.int (nI m))] rfl (Nat.le_of_ble_eq_true rfl) pl_X7 trivial ?_
      refine px_iload_n dX7_has_0 rfl ?_
      refine px_callS1 (ν := mX7_isTarget) lk_X7_101 st_X7_isTarget mok_X7_isTarget dX7_has_1 (cr_isTarget _) rfl rfl (by omega) (by simp) ?_
      refine px_ifb_eq (tgt := 21) dX7_has_4 (by decide) (fun hc4 => ?_) (fun hc4 => ?_)
      · refine px_aload_n dX7_has_21 rfl ?_
        refine mx_get fl_X7_48 dX7_has_22 rfl ?_
        refine px_iload_n dX7_has_25 rfl ?_
        refine mx_iaload (j := 5) (m := 824) (q := m) dX7_has_26 (by decide) (by first | rfl | (simp (disch := omega) only [li0, li1, li2, li3, li5, li6, li8, li9, li10, li12, li13, li16, li20, li24, li25, li100, li408, li424, li824, nI_add, nI_mul, nI_sub]; first | done | rfl | (congr 1; omega))) (by omega) ?_
        refine px_if_ge (tgt := 42) dX7_has_27 (by decide) (fun hc27 => ?_) (fun hc27 => ?_)
        · refine px_aload_n dX7_has_42 rfl ?_
          refine mx_get fl_X7_48 dX7_has_43 rfl ?_
          refine px_iload_n dX7_has_46 rfl ?_
          refine mx_iaload (j := 5) (m := 824) (q := m) dX7_has_47 (by decide) (by first | rfl | (simp (disch := omega) only [li0, li1, li2, li3, li5, li6, li8, li9, li10, li12, li13, li16, li20, li24, li25, li100, li408, li424, li824, nI_add, nI_mul, nI_sub]; first | done | rfl | (congr 1; omega))) (by omega) ?_
          exact px_reti dX7_has_48 (by rw [hI1.2]) (by rfl)
        · exfalso; rw [hI1.2] at hc27; obtain ⟨j, j1, -, -, j2⟩ := hx; rw [j2] at hc27; exact hc27 (nI_pos' (by omega))
      · rw [inT_i h8] at hc4; cases hc4
    | none =>
      rw [hi] at hI1 hA
      rw [hA]
      have hlen := hb.len
      obtain ⟨M', bk', i, f1, f2, f3, f4, f5, f6, f7⟩ := c_X7_fails (B := B) (D := D) (n := n) (w := w) (r := r) (f := f) (k := nI m) (s := 6) (t := -1) (y := -1) hb (by omega) (fun _ => ⟨m, hm, rfl, rfl, rfl⟩)
      refine ⟨M', bk', nI (2 * i + 1), ?_, ⟨f2, f3, f4, f7⟩, by simp [emR], Or.inr ⟨by decide, rfl, Or.inl rfl, i, -1, f6, f5, rfl, rfl⟩⟩
      refine CT.of [some (.ref r), some (.int (nI m))] rfl (Nat.le_of_ble_eq_true rfl) pl_X7 trivial ?_
      refine px_iload_n dX7_has_0 rfl ?_
      refine px_callS1 (ν := mX7_isTarget) lk_X7_101 st_X7_isTarget mok_X7_isTarget dX7_has_1 (cr_isTarget _) rfl rfl (by omega) (by simp) ?_
      refine px_ifb_eq (tgt := 21) dX7_has_4 (by decide) (fun hc4 => ?_) (fun hc4 => ?_)
      · refine px_aload_n dX7_has_21 rfl ?_
        refine mx_get fl_X7_48 dX7_has_22 rfl ?_
        refine px_iload_n dX7_has_25 rfl ?_
        refine mx_iaload (j := 5) (m := 824) (q := m) dX7_has_26 (by decide) (by first | rfl | (simp (disch := omega) only [li0, li1, li2, li3, li5, li6, li8, li9, li10, li12, li13, li16, li20, li24, li25, li100, li408, li424, li824, nI_add, nI_mul, nI_sub]; first | done | rfl | (congr 1; omega))) (by omega) ?_
        refine px_if_ge (tgt := 42) dX7_has_27 (by decide) (fun hc27 => ?_) (fun hc27 => ?_)
        · exfalso; rw [hI1] at hc27; exact absurd hc27 (by decide)
        · refine px_aload_n dX7_has_30 rfl ?_
          refine px_iload_n dX7_has_31 rfl ?_
          refine px_bipush (v := 6) dX7_has_32 (by decide) ?_
          refine px_iconst (v := (-1)) dX7_has_34 (by decide) ?_
          refine px_iconst (v := (-1)) dX7_has_35 (by decide) ?_
          refine px_callV1 (ν := mX7_fails) (ci := 7) rfl rfl lk_X7_104 in_X7_fails se_X7_fails mok_X7_fails dX7_has_36 (f1) (by exact mH_0) rfl rfl (by omega) (by simp) ?_
          refine px_goto (tgt := 48) dX7_has_39 (by decide) ?_
          exact px_reti dX7_has_48 (by rfl) (by rfl)
      · rw [inT_i h8] at hc4; cases hc4
  · obtain ⟨t, ht, rfl⟩ : ∃ t, t < 16 ∧ m = 8 + t := ⟨m - 8, by omega, by omega⟩
    refine ⟨M, bk, _, c_X7_has_t ht, Bs.rf hb, ?_⟩
    rw [show aHas A (8 + t) = A.rs (8 + t) from if_neg (by omega)]
    exact hS t ht
end M55
