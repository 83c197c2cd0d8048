/-! what a RUN asked for; RING among the CAUSES; how many are DONE -/
def As (bk : BK) (M : MS) (dn : Nat → Bool) (acc : aAcc) : Prop := M.1 22 = nI acc.length ∧ acc.length ≤ 12 ∧ ∀ (i : Nat) (x : Nat × List Q4), acc[i]? = some x → M.2.1 12 i = nI x.1 ∧ x.1 < 24 ∧ x.2 ≠ [] ∧ Cd bk x.2 (M.2.1 13 i) ∧ (8 ≤ x.1 → dn x.1 = true)
theorem As.of {bk bk' : BK} {M M' : MS} {dn : Nat → Bool} {acc : aAcc} (h : As bk M dn acc) (hp : bk <+: bk') (h1 : M'.1 22 = M.1 22) (h2 : M'.2.1 12 = M.2.1 12) (h3 : M'.2.1 13 = M.2.1 13) : As bk' M' dn acc := ⟨h1.trans h.1, h.2.1, fun i x hx => by
  obtain ⟨a1, a2, a3, a4, a5⟩ := h.2.2 i x hx
  rw [h2, h3]
  exact ⟨a1, a2, a3, a4.mono hp, a5⟩⟩
/-- only what a RUN asked for is changed -/
def Bn (M M' : MS) : Prop := (∀ j, j ≠ 22 → M'.1 j = M.1 j) ∧ (∀ j, j ≠ 12 → j ≠ 13 → M'.2.1 j = M.2.1 j) ∧ M'.2.2 = M.2.2
def Bg (M M' : MS) : Prop := (∀ j, j ≠ 4 → j ≠ 22 → M'.1 j = M.1 j) ∧ (∀ j, 4 < j → j ≠ 12 → j ≠ 13 → M'.2.1 j = M.2.1 j) ∧ M'.2.2 = M.2.2
theorem Bg.rf (M : MS) : Bg M M := ⟨fun _ _ _ => rfl, fun _ _ _ _ => rfl, rfl⟩
theorem Bg.tra {M N K : MS} (h1 : Bg M N) (h2 : Bg N K) : Bg M K := ⟨fun j a b => (h2.1 j a b).trans (h1.1 j a b), fun j a b c => (h2.2.1 j a b c).trans (h1.2.1 j a b c), h2.2.2.trans h1.2.2⟩
theorem Bo.g {M M' : MS} (h : Bo M M') : Bg M M' := ⟨fun j a _ => h.1 j a, fun j a _ _ => h.2.1 j a, h.2.2⟩
theorem Bn.g {M M' : MS} (h : Bn M M') : Bg M M' := ⟨fun j _ a => h.1 j a, fun j _ a b => h.2.1 j a b, h.2.2⟩
theorem Bn.bk {M M' : MS} {bk : BK} (h : Bn M M') (hb : Bk M bk) : Bk M' bk := hb.of (h.1 4 (by omega)) (fun j _ _ => h.2.1 j (by omega) (by omega))
section M56
variable {B : Nat} {D : va_G} {n w r : Nat} {f : Nat → Option va_E} {M : MS} {bk : BK}
theorem l_X7_notes_5 {d m : Nat} {y : Int32} {dn : Nat → Bool} {acc : aAcc} (h : As bk M dn acc) {rr : Option Value} {h1 : pm_H} (b0 : Bool) (hE : ∀ z : Int32, z = bi (b0 || acc.any (fun x => decide (nI x.1 = nI m))) → EX B D d mX7_notes 41 [some (.ref r), some (.int (nI m)), some (.int y), some (.int z), some (.int (nI acc.length))] [] (n, w, mH r f M) rr h1) : ∀ (U : aAcc) (k : Nat) (b : Bool), acc.drop k = U → k ≤ acc.length → (b || U.any (fun x => decide (nI x.1 = nI m))) = (b0 || acc.any (fun x => decide (nI x.1 = nI m))) → EX B D d mX7_notes 5 [some (.ref r), some (.int (nI m)), some (.int y), some (.int (bi b)), some (.int (nI k))] [] (n, w, mH r f M) rr h1
  | [], k, b, hU, hk, he => by
    have hk2 : k = acc.length := by have := List.drop_eq_nil_iff.mp hU; omega
    subst hk2
    refine px_iload dX7_notes_5 rfl ?_
    refine px_aload_n dX7_notes_7 rfl ?_
    refine mx_get fl_X7_175 dX7_notes_8 rfl ?_
    refine px_icmp_ge (tgt := 41) dX7_notes_11 (by decide) (fun hc11 => ?_) (fun hc11 => ?_)
    · exact hE _ (by rw [← he]; simp)
    · exact absurd (by rw [h.1]; exact Int32.le_refl _) hc11
  | x :: U, k, b, hU, hk, he => by
    have hx : acc[k]? = some x := by have := congrArg List.head? hU; rwa [List.head?_drop] at this
    have hk2 : k < acc.length := (List.getElem?_eq_some_iff.mp hx).1
    have hge : ¬ M.1 22 ≤ nI k := by rw [h.1]; exact nI_ge hk2 (by have := h.2.1; omega)
    have h12 := h.2.1
    have hxx := (h.2.2 k x hx).1
    have hU2 : acc.drop (k + 1) = U := by rw [← List.drop_drop, hU]; rfl
    have q0 : b = true → (1 : Int32) = bi (b || decide (nI x.1 = nI m)) := fun e => by rw [e]; rfl
    have q1 : M.2.1 12 k = nI m → (1 : Int32) = bi (b || decide (nI x.1 = nI m)) := fun e => by rw [decide_eq_true (hxx.symm.trans e)]; cases b <;> rfl
    have q2 : ¬ M.2.1 12 k = nI m → b = false → (0 : Int32) = bi (b || decide (nI x.1 = nI m)) := fun e eb => by rw [decide_eq_false (fun e2 => e (hxx.trans e2)), eb]; rfl
    have ih : ∀ z : Int32, z = bi (b || decide (nI x.1 = nI m)) → EX B D d mX7_notes 5 [some (.ref r), some (.int (nI m)), some (.int y), some (.int z), some (.int (nI (k + 1)))] [] (n, w, mH r f M) rr h1 := fun z hz => by
      subst hz
      exact l_X7_notes_5 h b0 hE U (k + 1) _ hU2 (by omega) (by rw [← he, List.any_cons, Bool.or_assoc])
    refine px_iload dX7_notes_5 rfl ?_
    refine px_aload_n dX7_notes_7 rfl ?_
    refine mx_get fl_X7_175 dX7_notes_8 rfl ?_
    refine px_icmp_ge (tgt := 41) dX7_notes_11 (by decide) (fun hc11 => ?_) (fun hc11 => ?_)
    · exact absurd hc11 hge
    · refine px_iload_n dX7_notes_14 rfl ?_
      refine px_ifb_ne (tgt := 29) dX7_notes_15 (by decide) (fun hc15 => ?_) (fun hc15 => ?_)
      · refine px_iconst (v := 1) dX7_notes_29 (by decide) ?_
        refine px_goto (tgt := 34) dX7_notes_30 (by decide) ?_
        refine px_istore3 rfl dX7_notes_34 ?_
        refine px_iinc4 rfl (nI_inc k) dX7_notes_35 ?_
        refine px_goto (tgt := 5) dX7_notes_38 (by decide) ?_
        exact ih _ (by first | exact q0 hc15 | exact q1 hc26 | exact q2 hc26 hc15)
      · refine px_aload_n dX7_notes_18 rfl ?_
        refine mx_get fl_X7_73 dX7_notes_19 rfl ?_
        refine px_iload dX7_notes_22 rfl ?_
        refine mx_iaload (j := 12) (m := 12) (q := k) dX7_notes_24 (by decide) (by first | rfl | (simp (disch := omega) only [li0, li1, li2, li3, li5, li6, li8, li9, li10, li12, li13, li16, li20, li24, li25, li100, li408, li424, li824, nI_add, nI_mul, nI_sub]; first | done | rfl | (congr 1; omega))) (by omega) ?_
        refine px_iload_n dX7_notes_25 rfl ?_
        refine px_icmp_ne (tgt := 33) dX7_notes_26 (by decide) (fun hc26 => ?_) (fun hc26 => ?_)
        · refine px_iconst (v := 0) dX7_notes_33 (by decide) ?_
          refine px_istore3 rfl dX7_notes_34 ?_
          refine px_iinc4 rfl (nI_inc k) dX7_notes_35 ?_
          refine px_goto (tgt := 5) dX7_notes_38 (by decide) ?_
          exact ih _ (by first | exact q0 hc15 | exact q1 hc26 | exact q2 hc26 hc15)
        · refine px_iconst (v := 1) dX7_notes_29 (by decide) ?_
          refine px_goto (tgt := 34) dX7_notes_30 (by decide) ?_
          refine px_istore3 rfl dX7_notes_34 ?_
          refine px_iinc4 rfl (nI_inc k) dX7_notes_35 ?_
          refine px_goto (tgt := 5) dX7_notes_38 (by decide) ?_
          exact ih _ (by first | exact q0 hc15 | exact q1 hc26 | exact q2 hc26 hc15)
def MS.note (M : MS) (L m : Nat) (y : Int32) : MS := ((M.sa 12 L (nI m)).sa 13 L y).sets 22 (nI (L + 1))
theorem c_X7_notes {m : Nat} {y : Int32} {dn : Nat → Bool} {acc : aAcc} {rr : List Q4} (h : As bk M dn acc) (hlen : acc.length < 12) (hm : m < 24) (hr : rr ≠ []) (hy : Cd bk rr y) (hd : 8 ≤ m → dn m = true) : ∃ M' : MS, CT B D 0 mX7_notes [.ref r, .int (nI m), .int y] (n, w, mH r f M) none (n, w, mH r f M') ∧ As bk M' dn (accNote acc m rr) ∧ Bn M M' := by
  by_cases hin : acc.any (fun x => decide (nI x.1 = nI m)) = true
  · refine ⟨M, ?_, by unfold accNote; rw [if_pos hin]; exact h, fun _ _ => rfl, fun _ _ _ => rfl, rfl⟩
    refine CT.of [some (.ref r), some (.int (nI m)), some (.int y), none, none] rfl (Nat.le_of_ble_eq_true rfl) pl_X7 trivial ?_
    refine px_iconst (v := 0) dX7_notes_0 (by decide) ?_
    refine px_istore3 rfl dX7_notes_1 ?_
    refine px_iconst (v := 0) dX7_notes_2 (by decide) ?_
    refine px_istore4 rfl dX7_notes_3 ?_
    refine l_X7_notes_5 h false (fun z hz => ?_) acc 0 false rfl (by omega) rfl
    rw [hin] at hz
    subst hz
    refine px_iload_n dX7_notes_41 rfl ?_
    refine px_ifb_ne (tgt := 75) dX7_notes_42 (by decide) (fun hc42 => ?_) (fun hc42 => ?_)
    · exact px_retv dX7_notes_75 rfl (by rfl)
    · cases hc42
  · have hin' : acc.any (fun x => decide (nI x.1 = nI m)) = false := by simpa using hin
    refine ⟨M.note acc.length m y, ?_, ?_, ?_⟩
    · refine CT.of [some (.ref r), some (.int (nI m)), some (.int y), none, none] rfl (Nat.le_of_ble_eq_true rfl) pl_X7 trivial ?_
      refine px_iconst (v := 0) dX7_notes_0 (by decide) ?_
      refine px_istore3 rfl dX7_notes_1 ?_
      refine px_iconst (v := 0) dX7_notes_2 (by decide) ?_
      refine px_istore4 rfl dX7_notes_3 ?_
      refine l_X7_notes_5 h false (fun z hz => ?_) acc 0 false rfl (by omega) rfl
      rw [hin'] at hz
      subst hz
      refine px_iload_n dX7_notes_41 rfl ?_
      refine px_ifb_ne (tgt := 75) dX7_notes_42 (by decide) (fun hc42 => ?_) (fun hc42 => ?_)
      · cases hc42
      · refine px_aload_n dX7_notes_45 rfl ?_
        refine mx_get fl_X7_73 dX7_notes_46 rfl ?_
        refine px_aload_n dX7_notes_49 rfl ?_
        refine mx_get fl_X7_175 dX7_notes_50 rfl ?_
        refine px_iload_n dX7_notes_53 rfl ?_
        refine mx_iastore (j := 12) (m := 12) (q := acc.length) dX7_notes_54 (by decide) (by exact h.1) (by omega) ?_
        refine px_aload_n dX7_notes_55 rfl ?_
        refine mx_get fl_X7_76 dX7_notes_56 rfl ?_
        refine px_aload_n dX7_notes_59 rfl ?_
        refine mx_get fl_X7_175 dX7_notes_60 rfl ?_
        refine px_iload_n dX7_notes_63 rfl ?_
        refine mx_iastore (j := 13) (m := 12) (q := acc.length) dX7_notes_64 (by decide) (by exact h.1) (by omega) ?_
        refine px_aload_n dX7_notes_65 rfl ?_
        refine px_dup dX7_notes_66 rfl ?_
        refine mx_get fl_X7_175 dX7_notes_67 rfl ?_
        refine px_iconst (v := 1) dX7_notes_70 (by decide) ?_
        refine px_iadd dX7_notes_71 ?_
        refine mx_put fp_X7_175 dX7_notes_72 rfl rfl (by decide) rfl ?_
        exact px_retv dX7_notes_75 rfl (by show (n, w, mH r f (MS.sets _ 22 (nI (acc.length + 1)))) = (n, w, mH r f (MS.sets _ 22 (M.1 22 + 1))); rw [h.1, ← nI_succ])
    · unfold accNote
      rw [if_neg hin]
      refine ⟨by rw [List.length_append]; rfl, by rw [List.length_append]; exact hlen, fun i x hx => ?_⟩
      show va_up (M.2.1 12) acc.length (nI m) i = nI x.1 ∧ _ ∧ _ ∧ Cd bk x.2 (va_up (M.2.1 13) acc.length y i) ∧ _
      by_cases hi : i < acc.length
      · rw [List.getElem?_append_left hi] at hx
        rw [va_up_ne _ _ (by omega), va_up_ne _ _ (by omega)]
        exact h.2.2 i x hx
      · have hi1 := (List.getElem?_eq_some_iff.mp hx).1
        rw [List.length_append] at hi1
        have hi2 : i = acc.length := by simp at hi1; omega
        subst hi2
        rw [List.getElem?_append_right (Nat.le_refl _), Nat.sub_self] at hx
        cases hx
        rw [va_up_self, va_up_self]
        exact ⟨rfl, hm, hr, hy, hd⟩
    · refine ⟨fun j hj => va_up_ne _ _ hj, fun j h1 h2 => ?_, rfl⟩
      show va_up (va_up M.2.1 12 _) 13 _ j = _
      rw [va_up_ne _ _ h2, va_up_ne _ _ h1]
theorem l_X7_isOfRing_4 {d : Nat} (hd : 1 ≤ d) (hb : Bk M bk) {x0 : Int32} : ∀ (l : List Q4) (x : Int32) (b : Bool), Cd bk l x → EX B D d mX7_isOfRing 4 [some (.ref r), some (.int x0), some (.int (bi b)), some (.int x)] [] (n, w, mH r f M) (some (.int (bi (b || isRing l)))) (n, w, mH r f M)
  | [], x, b, hx => by
    have hf := hx.fail
    refine px_iload_n dX7_isOfRing_4 rfl ?_
    refine px_callS1 (ν := mX7_isFailure) lk_X7_34 st_X7_isFailure mok_X7_isFailure dX7_isOfRing_5 (c_X7_isFailure _) rfl rfl (by omega) (by simp) ?_
    refine px_ifb_eq (tgt := 45) dX7_isOfRing_8 (by decide) (fun hc8 => ?_) (fun hc8 => ?_)
    · refine px_iload_n dX7_isOfRing_45 rfl ?_
      exact px_reti dX7_isOfRing_46 (by simp [isRing]) (by rfl)
    · rw [hf] at hc8; cases hc8
  | (c, k, s, t) :: l, x, b, hx => by
    have hf := hx.fail
    cases hl : isF ((c, k, s, t) :: l) with
    | false =>
      rw [hl] at hf
      have hv := (hx.val (List.cons_ne_nil _ _) hl).2.1
      have hring : isRing ((c, k, s, t) :: l) = false := by rw [hv]; rfl
      rw [hring, Bool.or_false]
      refine px_iload_n dX7_isOfRing_4 rfl ?_
      refine px_callS1 (ν := mX7_isFailure) lk_X7_34 st_X7_isFailure mok_X7_isFailure dX7_isOfRing_5 (c_X7_isFailure _) rfl rfl (by omega) (by simp) ?_
      refine px_ifb_eq (tgt := 45) dX7_isOfRing_8 (by decide) (fun hc8 => ?_) (fun hc8 => ?_)
      · refine px_iload_n dX7_isOfRing_45 rfl ?_
        exact px_reti dX7_isOfRing_46 (by rfl) (by rfl)
      · rw [hf] at hc8; cases hc8
    | true =>
      rw [hl] at hf
      obtain ⟨k', s', t', l', i, y, e1, e2, e3, e4, e5, e6, e7, e8⟩ := hx.row hl
      cases e1
      obtain ⟨a1, a2, a3, a4⟩ := hb.2.1 i _ e6
      have a2' : M.2.1 2 i = s := a2
      have q0 : b = true → (1 : Int32) = bi (b || decide (s = 1)) := fun e => by rw [e]; rfl
      have q1 : M.2.1 2 i = 1 → (1 : Int32) = bi (b || decide (s = 1)) := fun e => by rw [decide_eq_true (a2'.symm.trans e)]; cases b <;> rfl
      have q2 : ¬ M.2.1 2 i = 1 → b = false → (0 : Int32) = bi (b || decide (s = 1)) := fun e eb => by rw [decide_eq_false (fun e2 => e (a2'.trans e2)), eb]; rfl
      have ih : ∀ z u : Int32, z = bi (b || decide (s = 1)) → u = y → EX B D d mX7_isOfRing 4 [some (.ref r), some (.int x0), some (.int z), some (.int u)] [] (n, w, mH r f M) (some (.int (bi (b || isRing ((0, k, s, t) :: l))))) (n, w, mH r f M) := fun z u hz hu => by
        subst hz hu
        have := l_X7_isOfRing_4 (d := d) hd hb (x0 := x0) l _ (b || decide (s = 1)) e7
        rw [Bool.or_assoc] at this
        exact this
      refine px_iload_n dX7_isOfRing_4 rfl ?_
      refine px_callS1 (ν := mX7_isFailure) lk_X7_34 st_X7_isFailure mok_X7_isFailure dX7_isOfRing_5 (c_X7_isFailure _) rfl rfl (by omega) (by simp) ?_
      refine px_ifb_eq (tgt := 45) dX7_isOfRing_8 (by decide) (fun hc8 => ?_) (fun hc8 => ?_)
      · rw [hf] at hc8; cases hc8
      · refine px_iload_n dX7_isOfRing_11 rfl ?_
        refine px_ifb_ne (tgt := 27) dX7_isOfRing_12 (by decide) (fun hc12 => ?_) (fun hc12 => ?_)
        · refine px_iconst (v := 1) dX7_isOfRing_27 (by decide) ?_
          refine px_goto (tgt := 32) dX7_isOfRing_28 (by decide) ?_
          refine px_istore2 rfl dX7_isOfRing_32 ?_
          refine px_aload_n dX7_isOfRing_33 rfl ?_
          refine mx_get fl_X7_30 dX7_isOfRing_34 rfl ?_
          refine px_iload_n dX7_isOfRing_37 rfl ?_
          refine px_iconst (v := 2) dX7_isOfRing_38 (by decide) ?_
          refine px_idiv dX7_isOfRing_39 (by decide) ?_
          refine mx_iaload (j := 4) (m := 9000) (q := i) dX7_isOfRing_40 (by decide) (by exact e5) (by omega) ?_
          refine px_istore3 rfl dX7_isOfRing_41 ?_
          refine px_goto (tgt := 4) dX7_isOfRing_42 (by decide) ?_
          exact ih _ _ (by first | exact q0 hc12 | exact q1 hc24 | exact q2 hc24 hc12) a4
        · refine px_aload_n dX7_isOfRing_15 rfl ?_
          refine mx_get fl_X7_24 dX7_isOfRing_16 rfl ?_
          refine px_iload_n dX7_isOfRing_19 rfl ?_
          refine px_iconst (v := 2) dX7_isOfRing_20 (by decide) ?_
          refine px_idiv dX7_isOfRing_21 (by decide) ?_
          refine mx_iaload (j := 2) (m := 9000) (q := i) dX7_isOfRing_22 (by decide) (by exact e5) (by omega) ?_
          refine px_iconst (v := 1) dX7_isOfRing_23 (by decide) ?_
          refine px_icmp_ne (tgt := 31) dX7_isOfRing_24 (by decide) (fun hc24 => ?_) (fun hc24 => ?_)
          · refine px_iconst (v := 0) dX7_isOfRing_31 (by decide) ?_
            refine px_istore2 rfl dX7_isOfRing_32 ?_
            refine px_aload_n dX7_isOfRing_33 rfl ?_
            refine mx_get fl_X7_30 dX7_isOfRing_34 rfl ?_
            refine px_iload_n dX7_isOfRing_37 rfl ?_
            refine px_iconst (v := 2) dX7_isOfRing_38 (by decide) ?_
            refine px_idiv dX7_isOfRing_39 (by decide) ?_
            refine mx_iaload (j := 4) (m := 9000) (q := i) dX7_isOfRing_40 (by decide) (by exact e5) (by omega) ?_
            refine px_istore3 rfl dX7_isOfRing_41 ?_
            refine px_goto (tgt := 4) dX7_isOfRing_42 (by decide) ?_
            exact ih _ _ (by first | exact q0 hc12 | exact q1 hc24 | exact q2 hc24 hc12) a4
          · refine px_iconst (v := 1) dX7_isOfRing_27 (by decide) ?_
            refine px_goto (tgt := 32) dX7_isOfRing_28 (by decide) ?_
            refine px_istore2 rfl dX7_isOfRing_32 ?_
            refine px_aload_n dX7_isOfRing_33 rfl ?_
            refine mx_get fl_X7_30 dX7_isOfRing_34 rfl ?_
            refine px_iload_n dX7_isOfRing_37 rfl ?_
            refine px_iconst (v := 2) dX7_isOfRing_38 (by decide) ?_
            refine px_idiv dX7_isOfRing_39 (by decide) ?_
            refine mx_iaload (j := 4) (m := 9000) (q := i) dX7_isOfRing_40 (by decide) (by exact e5) (by omega) ?_
            refine px_istore3 rfl dX7_isOfRing_41 ?_
            refine px_goto (tgt := 4) dX7_isOfRing_42 (by decide) ?_
            exact ih _ _ (by first | exact q0 hc12 | exact q1 hc24 | exact q2 hc24 hc12) a4
theorem c_X7_isOfRing (hb : Bk M bk) {l : List Q4} {x : Int32} (hx : Cd bk l x) : CT B D 1 mX7_isOfRing [.ref r, .int x] (n, w, mH r f M) (some (.int (bi (isRing l)))) (n, w, mH r f M) := by
  refine CT.of [some (.ref r), some (.int x), none, none] rfl (Nat.le_of_ble_eq_true rfl) pl_X7 (bi_01 _) ?_
  refine px_iconst (v := 0) dX7_isOfRing_0 (by decide) ?_
  refine px_istore2 rfl dX7_isOfRing_1 ?_
  refine px_iload_n dX7_isOfRing_2 rfl ?_
  refine px_istore3 rfl dX7_isOfRing_3 ?_
  exact l_X7_isOfRing_4 (Nat.le_refl _) hb l x false hx
theorem l_X7_manyDone_5 {d : Nat} {dn : Nat → Bool} (h : ∀ t, t < 16 → M.2.1 9 (8 + t) = bi (dn (8 + t))) : ∀ (k t : Nat), t + k = 16 → EX B D d mX7_manyDone 5 [some (.ref r), some (.int (nI (cdN t dn))), some (.int (nI (8 + t)))] [] (n, w, mH r f M) (some (.int (nI (cd dn)))) (n, w, mH r f M)
  | 0, t, ht => by
    have : t = 16 := by omega
    subst this
    refine px_iload_n dX7_manyDone_5 rfl ?_
    refine px_bipush (v := 24) dX7_manyDone_6 (by decide) ?_
    refine px_icmp_ge (tgt := 34) dX7_manyDone_8 (by decide) (fun hc8 => ?_) (fun hc8 => ?_)
    · refine px_iload_n dX7_manyDone_34 rfl ?_
      exact px_reti dX7_manyDone_35 (by rfl) (by rfl)
    · exact absurd (by decide) hc8
  | k + 1, t, ht => by
    have h1 := h t (by omega)
    have q1 : ¬ M.2.1 9 (8 + t) = 0 → nI (cdN t dn) + 1 = nI (cdN (t + 1) dn) := fun e => by
      rw [h1] at e
      cases hq : dn (8 + t) with
      | true => rw [cdN, if_pos hq, nI_1]
      | false => rw [hq] at e; exact absurd rfl e
    have q2 : M.2.1 9 (8 + t) = 0 → nI (cdN t dn) + 0 = nI (cdN (t + 1) dn) := fun e => by
      rw [h1] at e
      cases hq : dn (8 + t) with
      | true => rw [hq] at e; cases e
      | false => rw [cdN, if_neg (by rw [hq]; decide)]; exact Int32.add_zero _
    have ih : ∀ z : Int32, z = nI (cdN (t + 1) dn) → EX B D d mX7_manyDone 5 [some (.ref r), some (.int (z)), some (.int (nI (8 + t + 1)))] [] (n, w, mH r f M) (some (.int (nI (cd dn)))) (n, w, mH r f M) := fun z hz => by
      subst hz
      exact l_X7_manyDone_5 h k (t + 1) (by omega)
    refine px_iload_n dX7_manyDone_5 rfl ?_
    refine px_bipush (v := 24) dX7_manyDone_6 (by decide) ?_
    refine px_icmp_ge (tgt := 34) dX7_manyDone_8 (by decide) (fun hc8 => ?_) (fun hc8 => ?_)
    · exact absurd hc8 (nI_ge (a := 8 + t) (b := 24) (by omega) (by omega))
    · refine px_iload_n dX7_manyDone_11 rfl ?_
      refine px_aload_n dX7_manyDone_12 rfl ?_
      refine mx_get fl_X7_60 dX7_manyDone_13 rfl ?_
      refine px_iload_n dX7_manyDone_16 rfl ?_
      refine mx_baload (j := 9) (m := 24) (q := 8 + t) dX7_manyDone_17 (by decide) (by first | rfl | (simp (disch := omega) only [li0, li1, li2, li3, li5, li6, li8, li9, li10, li12, li13, li16, li20, li24, li25, li100, li408, li424, li824, nI_add, nI_mul, nI_sub]; first | done | rfl | (congr 1; omega))) (by omega) ?_
      refine px_if_eq (tgt := 25) dX7_manyDone_18 (by decide) (fun hc18 => ?_) (fun hc18 => ?_)
      · refine px_iconst (v := 0) dX7_manyDone_25 (by decide) ?_
        refine px_iadd dX7_manyDone_26 ?_
        refine px_istore1 rfl dX7_manyDone_27 ?_
        refine px_iinc2 rfl (nI_inc (8 + t)) dX7_manyDone_28 ?_
        refine px_goto (tgt := 5) dX7_manyDone_31 (by decide) ?_
        exact ih _ (by first | exact q1 hc18 | exact q2 hc18)
      · refine px_iconst (v := 1) dX7_manyDone_21 (by decide) ?_
        refine px_goto (tgt := 26) dX7_manyDone_22 (by decide) ?_
        refine px_iadd dX7_manyDone_26 ?_
        refine px_istore1 rfl dX7_manyDone_27 ?_
        refine px_iinc2 rfl (nI_inc (8 + t)) dX7_manyDone_28 ?_
        refine px_goto (tgt := 5) dX7_manyDone_31 (by decide) ?_
        exact ih _ (by first | exact q1 hc18 | exact q2 hc18)
theorem c_X7_manyDone {dn : Nat → Bool} (h : ∀ t, t < 16 → M.2.1 9 (8 + t) = bi (dn (8 + t))) : CT B D 0 mX7_manyDone [.ref r] (n, w, mH r f M) (some (.int (nI (cd dn)))) (n, w, mH r f M) := by
  refine CT.of [some (.ref r), none, none] rfl (Nat.le_of_ble_eq_true rfl) pl_X7 trivial ?_
  refine px_iconst (v := 0) dX7_manyDone_0 (by decide) ?_
  refine px_istore1 rfl dX7_manyDone_1 ?_
  refine px_bipush (v := 8) dX7_manyDone_2 (by decide) ?_
  refine px_istore2 rfl dX7_manyDone_4 ?_
  exact l_X7_manyDone_5 h 16 0 rfl
end M56
