/-! the reference: UNLIKE, fresh -/
section M70
variable {B : Nat} {D : va_G} {n w r : Nat} {f : Nat → Option va_E} {bk : BK} {M : MS} {C : CS}
theorem l_X7_unlike_35 {d t : Nat} {x y : Int32} (ht : t < 16) {rr : Option Value} {h1 : pm_H} : ∀ (q k : Nat) (b : Bool), k + q = t → EX B D d mX7_unlike 74 [some (.ref r), some (.int (x)), some (.int (nI t)), some (.int y), some (.int (bi (b && !anyN q (fun j => decide (M.2.1 5 (408 + (k + j)) = y))))), some (.int (nI t))] [] (n, w, mH r f M) rr h1 → EX B D d mX7_unlike 35 [some (.ref r), some (.int (x)), some (.int (nI t)), some (.int y), some (.int (bi b)), some (.int (nI k))] [] (n, w, mH r f M) rr h1
  | 0, k, b, hk, hE => by
    have : k = t := by omega
    subst this
    have e : (b && !anyN 0 (fun j => decide (M.2.1 5 (408 + (k + j)) = y))) = b := by simp [anyN]
    rw [e] at hE
    refine px_iload dX7_unlike_35 rfl ?_
    refine px_iload_n dX7_unlike_37 rfl ?_
    refine px_icmp_ge (tgt := 74) dX7_unlike_38 (by decide) (fun hc38 => ?_) (fun hc38 => ?_)
    · exact hE
    · exact absurd (Int32.le_refl _) hc38
  | q + 1, k, b, hk, hE => by
    have ih : ∀ z : Int32, z = bi (b && !decide (M.2.1 5 (408 + k) = y)) → EX B D d mX7_unlike 35 [some (.ref r), some (.int (x)), some (.int (nI t)), some (.int y), some (.int z), some (.int (nI (k + 1)))] [] (n, w, mH r f M) rr h1 := fun z hz => by
      subst hz
      refine l_X7_unlike_35 (d := d) (x := x) ht q (k + 1) _ (by omega) ?_
      have e : (b && !decide (M.2.1 5 (408 + k) = y) && !anyN q (fun j => decide (M.2.1 5 (408 + (k + 1 + j)) = y))) = (b && !anyN (q + 1) (fun j => decide (M.2.1 5 (408 + (k + j)) = y))) := by
        show _ = (b && !(decide (M.2.1 5 (408 + (k + 0)) = y) || anyN q (fun j => decide (M.2.1 5 (408 + (k + (j + 1))) = y))))
        have e2 : (fun j => decide (M.2.1 5 (408 + (k + 1 + j)) = y)) = (fun j => decide (M.2.1 5 (408 + (k + (j + 1))) = y)) := by
          funext j
          rw [show k + 1 + j = k + (j + 1) by omega]
        rw [e2, Nat.add_zero, Bool.not_or, Bool.and_assoc]
      rw [e]
      exact hE
    have q0 : b = false → (0 : Int32) = bi (b && !decide (M.2.1 5 (408 + k) = y)) := fun e => by rw [e]; rfl
    have q1 : M.2.1 5 (408 + k) = y → (0 : Int32) = bi (b && !decide (M.2.1 5 (408 + k) = y)) := fun e => by rw [decide_eq_true e]; cases b <;> rfl
    have q2 : b = true → ¬ M.2.1 5 (408 + k) = y → (1 : Int32) = bi (b && !decide (M.2.1 5 (408 + k) = y)) := fun e1 e2 => by rw [e1, decide_eq_false e2]; rfl
    refine px_iload dX7_unlike_35 rfl ?_
    refine px_iload_n dX7_unlike_37 rfl ?_
    refine px_icmp_ge (tgt := 74) dX7_unlike_38 (by decide) (fun hc38 => ?_) (fun hc38 => ?_)
    · exact absurd hc38 (nI_ge (by omega) (by omega))
    · refine px_iload dX7_unlike_41 rfl ?_
      refine px_ifb_eq (tgt := 65) dX7_unlike_43 (by decide) (fun hc43 => ?_) (fun hc43 => ?_)
      · refine px_iconst (v := 0) dX7_unlike_65 (by decide) ?_
        refine px_istore4 rfl dX7_unlike_66 ?_
        refine px_iinc5 rfl (nI_inc k) dX7_unlike_68 ?_
        refine px_goto (tgt := 35) dX7_unlike_71 (by decide) ?_
        exact ih _ (by first | exact q0 hc43 | exact q1 hc58 | exact q2 hc43 hc58)
      · refine px_aload_n dX7_unlike_46 rfl ?_
        refine mx_get fl_X7_48 dX7_unlike_47 rfl ?_
        refine px_sipush (v := 408) dX7_unlike_50 (by decide) ?_
        refine px_iload dX7_unlike_53 rfl ?_
        refine px_iadd dX7_unlike_55 ?_
        refine mx_iaload (j := 5) (m := 824) (q := 408 + k) dX7_unlike_56 (by decide) (by first | rfl | (simp (disch := omega) only [li0, li1, li2, li3, li5, li6, li8, li9, li10, li12, li13, li16, li20, li24, li25, li100, li408, li424, li824, nI_add, nI_mul, nI_sub]; first | done | rfl | (congr 1; omega))) (by omega) ?_
        refine px_iload_n dX7_unlike_57 rfl ?_
        refine px_icmp_eq (tgt := 65) dX7_unlike_58 (by decide) (fun hc58 => ?_) (fun hc58 => ?_)
        · refine px_iconst (v := 0) dX7_unlike_65 (by decide) ?_
          refine px_istore4 rfl dX7_unlike_66 ?_
          refine px_iinc5 rfl (nI_inc k) dX7_unlike_68 ?_
          refine px_goto (tgt := 35) dX7_unlike_71 (by decide) ?_
          exact ih _ (by first | exact q0 hc43 | exact q1 hc58 | exact q2 hc43 hc58)
        · refine px_iconst (v := 1) dX7_unlike_61 (by decide) ?_
          refine px_goto (tgt := 66) dX7_unlike_62 (by decide) ?_
          refine px_istore4 rfl dX7_unlike_66 ?_
          refine px_iinc5 rfl (nI_inc k) dX7_unlike_68 ?_
          refine px_goto (tgt := 35) dX7_unlike_71 (by decide) ?_
          exact ih _ (by first | exact q0 hc43 | exact q1 hc58 | exact q2 hc43 hc58)
theorem unlike_eq (h : RP bk M C) {t : Nat} (ht : t < 16) : (!decide (M.2.1 5 (408 + t) < 0) && !anyN t (fun j => decide (M.2.1 5 (408 + (0 + j)) = M.2.1 5 (408 + t)))) = ((aHas C.1.1.A (8 + t)).isSome && !aSameBelow C.1.1.A (8 + t)) := by
  have hs := h.2.1.1.2.2.1
  have hst := hs t ht
  have ea : ∀ u, aHas C.1.1.A (8 + u) = C.1.1.A.rs (8 + u) := fun u => if_neg (by omega)
  unfold aSameBelow
  rw [ea t, show 8 + t - 8 = t by omega]
  cases hr : C.1.1.A.rs (8 + t) with
  | none =>
    rw [hr] at hst
    have hst : M.2.1 5 (408 + t) = -1 := hst
    rw [hst]
    rfl
  | some l =>
    rw [hr] at hst
    rw [decide_eq_false (hst.2.ne hst.1)]
    show (true && _) = (true && _)
    congr 2
    rw [Bool.eq_iff_iff, anyN_iff, anyN_iff]
    constructor
    · rintro ⟨j, hj, e⟩
      refine ⟨j, hj, ?_⟩
      rw [ea j]
      rw [Nat.zero_add] at e
      exact (same_iff h.1.2.2.1 (hs j (by omega)) hst.1 hst.2).mp (by simpa using e)
    · rintro ⟨j, hj, e⟩
      refine ⟨j, hj, ?_⟩
      rw [ea j] at e
      rw [Nat.zero_add]
      exact decide_eq_true ((same_iff h.1.2.2.1 (hs j (by omega)) hst.1 hst.2).mpr e)
theorem l_X7_unlike_4 {d : Nat} (h : RP bk M C) : ∀ (q t : Nat) (x : Int32) (z3 z4 z5 : Option Value), t + q = 16 → EX B D d mX7_unlike 4 [some (.ref r), some (.int (x)), some (.int (nI t)), z3, z4, z5] [] (n, w, mH r f M) (some (.int (cntF (fun k => (aHas C.1.1.A k).isSome && !aSameBelow C.1.1.A k) q (8 + t) x))) (n, w, mH r f M)
  | 0, t, x, z3, z4, z5, ht => by
    have : t = 16 := by omega
    subst this
    refine px_iload_n dX7_unlike_4 rfl ?_
    refine px_bipush (v := 16) dX7_unlike_5 (by decide) ?_
    refine px_icmp_ge (tgt := 93) dX7_unlike_7 (by decide) (fun hc7 => ?_) (fun hc7 => ?_)
    · refine px_iload_n dX7_unlike_93 rfl ?_
      exact px_reti dX7_unlike_94 (by rfl) (by rfl)
    · exact absurd (by decide) hc7
  | q + 1, t, x, z3, z4, z5, ht => by
    have ht2 : t < 16 := by omega
    have hu := unlike_eq h ht2
    have ih : ∀ b : Bool, b = (!decide (M.2.1 5 (408 + t) < 0)) → EX B D d mX7_unlike 35 [some (.ref r), some (.int (x)), some (.int (nI t)), some (.int (M.2.1 5 (408 + t))), some (.int (bi b)), some (.int (nI 0))] [] (n, w, mH r f M) (some (.int (cntF (fun k => (aHas C.1.1.A k).isSome && !aSameBelow C.1.1.A k) (q + 1) (8 + t) x))) (n, w, mH r f M) := fun b hb => by
      refine l_X7_unlike_35 (x := x) ht2 t 0 b (by omega) ?_
      rw [hb, hu]
      cases hp : ((aHas C.1.1.A (8 + t)).isSome && !aSameBelow C.1.1.A (8 + t)) with
      | true =>
        rw [cntF_t hp]
        have ih2 := l_X7_unlike_4 (d := d) h q (t + 1) (x + 1) (some (.int (M.2.1 5 (408 + t)))) (some (.int (bi true))) (some (.int (nI t))) (by omega)
        refine px_iload_n dX7_unlike_74 rfl ?_
        refine px_iload dX7_unlike_75 rfl ?_
        refine px_ifb_eq (tgt := 84) dX7_unlike_77 (by decide) (fun hc77 => ?_) (fun hc77 => ?_)
        · cases hc77
        · refine px_iconst (v := 1) dX7_unlike_80 (by decide) ?_
          refine px_goto (tgt := 85) dX7_unlike_81 (by decide) ?_
          refine px_iadd dX7_unlike_85 ?_
          refine px_istore1 rfl dX7_unlike_86 ?_
          refine px_iinc2 rfl (nI_inc t) dX7_unlike_87 ?_
          refine px_goto (tgt := 4) dX7_unlike_90 (by decide) ?_
          exact ih2
      | false =>
        rw [cntF_f hp]
        have ih2 := l_X7_unlike_4 (d := d) h q (t + 1) x (some (.int (M.2.1 5 (408 + t)))) (some (.int (bi false))) (some (.int (nI t))) (by omega)
        refine px_iload_n dX7_unlike_74 rfl ?_
        refine px_iload dX7_unlike_75 rfl ?_
        refine px_ifb_eq (tgt := 84) dX7_unlike_77 (by decide) (fun hc77 => ?_) (fun hc77 => ?_)
        · refine px_iconst (v := 0) dX7_unlike_84 (by decide) ?_
          refine px_iadd dX7_unlike_85 ?_
          refine px_istore1 rfl dX7_unlike_86 ?_
          refine px_iinc2 rfl (nI_inc t) dX7_unlike_87 ?_
          refine px_goto (tgt := 4) dX7_unlike_90 (by decide) ?_
          rw [show x + 0 = x from Int32.add_zero x]
          exact ih2
        · cases hc77
    refine px_iload_n dX7_unlike_4 rfl ?_
    refine px_bipush (v := 16) dX7_unlike_5 (by decide) ?_
    refine px_icmp_ge (tgt := 93) dX7_unlike_7 (by decide) (fun hc7 => ?_) (fun hc7 => ?_)
    · exact absurd hc7 (nI_ge (a := t) (b := 16) (by omega) (by omega))
    · refine px_aload_n dX7_unlike_10 rfl ?_
      refine mx_get fl_X7_48 dX7_unlike_11 rfl ?_
      refine px_sipush (v := 408) dX7_unlike_14 (by decide) ?_
      refine px_iload_n dX7_unlike_17 rfl ?_
      refine px_iadd dX7_unlike_18 ?_
      refine mx_iaload (j := 5) (m := 824) (q := 408 + t) dX7_unlike_19 (by decide) (by first | rfl | (simp (disch := omega) only [li0, li1, li2, li3, li5, li6, li8, li9, li10, li12, li13, li16, li20, li24, li25, li100, li408, li424, li824, nI_add, nI_mul, nI_sub]; first | done | rfl | (congr 1; omega))) (by omega) ?_
      refine px_istore3 rfl dX7_unlike_20 ?_
      refine px_iload_n dX7_unlike_21 rfl ?_
      refine px_if_lt (tgt := 29) dX7_unlike_22 (by decide) (fun hc22 => ?_) (fun hc22 => ?_)
      · refine px_iconst (v := 0) dX7_unlike_29 (by decide) ?_
        refine px_istore4 rfl dX7_unlike_30 ?_
        refine px_iconst (v := 0) dX7_unlike_32 (by decide) ?_
        refine px_istore5 rfl dX7_unlike_33 ?_
        first | exact ih false (by rw [decide_eq_true hc22]; rfl) | exact ih true (by rw [decide_eq_false hc22]; rfl)
      · refine px_iconst (v := 1) dX7_unlike_25 (by decide) ?_
        refine px_goto (tgt := 30) dX7_unlike_26 (by decide) ?_
        refine px_istore4 rfl dX7_unlike_30 ?_
        refine px_iconst (v := 0) dX7_unlike_32 (by decide) ?_
        refine px_istore5 rfl dX7_unlike_33 ?_
        first | exact ih false (by rw [decide_eq_true hc22]; rfl) | exact ih true (by rw [decide_eq_false hc22]; rfl)
theorem m_unlike (h : RP bk M C) : RQ B D n w r f 50 mX7_unlike [] bk M (.int (cntF (fun k => (aHas C.1.1.A k).isSome && !aSameBelow C.1.1.A k) 16 8 0)) C := by
  refine RQ.same h ?_
  refine CT.of [some (.ref r), none, none, none, none, none] rfl (Nat.le_of_ble_eq_true rfl) pl_X7 trivial ?_
  refine px_iconst (v := 0) dX7_unlike_0 (by decide) ?_
  refine px_istore1 rfl dX7_unlike_1 ?_
  refine px_iconst (v := 0) dX7_unlike_2 (by decide) ?_
  refine px_istore2 rfl dX7_unlike_3 ?_
  exact l_X7_unlike_4 h 16 0 0 none none none rfl
theorem l_X7_fresh_38 {d t : Nat} {x : Int32} (hd : 3 ≤ d) (ht : t < 16) {T : aAcc} (hT : C.1.1.A.tr (8 + t) = some T) : ∀ (U : aAcc) (k : Nat) (b : Bool) (M : MS) (bk : BK), T.drop k = U → k ≤ T.length → RP bk M C → ne bk ≤ 8900 → ∃ (M' : MS) (bk' : BK), (∀ rr h1, (∀ z : Option Value, EX B D d mX7_fresh 97 [some (.ref r), some (.int (x)), some (.int (nI t)), some (.int (nI (424 + 25 * t))), some (.int (bi (b && U.all (fun x => oSame (aHas C.1.1.A x.1) (some x.2))))), z] [] (n, w, mH r f M') rr h1) → EX B D d mX7_fresh 38 [some (.ref r), some (.int (x)), some (.int (nI t)), some (.int (nI (424 + 25 * t))), some (.int (bi b)), some (.int (nI k))] [] (n, w, mH r f M) rr h1) ∧ RP bk' M' C ∧ ne bk' ≤ ne bk
  | [], k, b, M, bk, hU, hk, h, hcap => by
    have hk2 : k = T.length := by have := List.drop_eq_nil_iff.mp hU; omega
    subst hk2
    have hTT := h.2.1.1.2.2.2 t ht rfl
    rw [hT] at hTT
    obtain ⟨t1, t2, t3⟩ := hTT
    refine ⟨M, bk, fun rr h1 hE => ?_, h, Nat.le_refl _⟩
    have hE := hE (some (.int (nI T.length)))
    rw [List.all_nil, Bool.and_true] at hE
    refine px_iload dX7_fresh_38 rfl ?_
    refine px_aload_n dX7_fresh_40 rfl ?_
    refine mx_get fl_X7_48 dX7_fresh_41 rfl ?_
    refine px_iload_n dX7_fresh_44 rfl ?_
    refine mx_iaload (j := 5) (m := 824) (q := 424 + 25 * t) dX7_fresh_45 (by decide) (by first | rfl | (simp (disch := omega) only [li0, li1, li2, li3, li5, li6, li8, li9, li10, li12, li13, li16, li20, li24, li25, li100, li408, li424, li824, nI_add, nI_mul, nI_sub]; first | done | rfl | (congr 1; omega))) (by omega) ?_
    rw [t2]
    refine px_icmp_ge (tgt := 97) dX7_fresh_46 (by decide) (fun hc46 => ?_) (fun hc46 => ?_)
    · exact hE
    · exact absurd (Int32.le_refl _) hc46
  | y :: U, k, b, M, bk, hU, hk, h, hcap => by
    have hx : T[k]? = some y := by have := congrArg List.head? hU; rwa [List.head?_drop] at this
    have hk2 : k < T.length := (List.getElem?_eq_some_iff.mp hx).1
    have hU2 : T.drop (k + 1) = U := by rw [← List.drop_drop, hU]; rfl
    have hTT := h.2.1.1.2.2.2 t ht rfl
    rw [hT] at hTT
    obtain ⟨t1, t2, t3⟩ := hTT
    obtain ⟨x1, x2, x3, x4⟩ := t3 k y hx
    cases b with
    | false =>
      obtain ⟨M', bk', g1, g2, g3⟩ := l_X7_fresh_38 (d := d) (x := x) hd ht hT U (k + 1) false M bk hU2 (by omega) h hcap
      refine ⟨M', bk', fun rr h1 hE => ?_, g2, g3⟩
      have g1 := g1 rr h1 (fun z => by
        have := hE z
        rw [Bool.false_and] at this ⊢
        exact this)
      refine px_iload dX7_fresh_38 rfl ?_
      refine px_aload_n dX7_fresh_40 rfl ?_
      refine mx_get fl_X7_48 dX7_fresh_41 rfl ?_
      refine px_iload_n dX7_fresh_44 rfl ?_
      refine mx_iaload (j := 5) (m := 824) (q := 424 + 25 * t) dX7_fresh_45 (by decide) (by first | rfl | (simp (disch := omega) only [li0, li1, li2, li3, li5, li6, li8, li9, li10, li12, li13, li16, li20, li24, li25, li100, li408, li424, li824, nI_add, nI_mul, nI_sub]; first | done | rfl | (congr 1; omega))) (by omega) ?_
      rw [t2]
      refine px_icmp_ge (tgt := 97) dX7_fresh_46 (by decide) (fun hc46 => ?_) (fun hc46 => ?_)
      · exact absurd hc46 (nI_ge hk2 (by omega))
      · refine px_iload dX7_fresh_49 rfl ?_
        refine px_ifb_eq (tgt := 88) dX7_fresh_51 (by decide) (fun hc51 => ?_) (fun hc51 => ?_)
        · refine px_iconst (v := 0) dX7_fresh_88 (by decide) ?_
          refine px_istore4 rfl dX7_fresh_89 ?_
          refine px_iinc5 rfl (nI_inc k) dX7_fresh_91 ?_
          refine px_goto (tgt := 38) dX7_fresh_94 (by decide) ?_
          exact g1
        · cases hc51
    | true =>
      obtain ⟨M1, bk1, z, c1, c2, c3⟩ := c_X7_has (B := B) (D := D) (n := n) (w := w) (r := r) (f := f) h.1 hcap h.2.1.1.1 h.2.1.1.2.2.1 x2
      have h2 := h.bs c2
      have hTT2 := h2.2.1.1.2.2.2 t ht rfl
      rw [hT] at hTT2
      obtain ⟨u1, u2, u3⟩ := hTT2
      obtain ⟨v1, v2, v3, v4⟩ := u3 k y hx
      have hsame := same_iff c2.1.2.2.1 c3 v3 v4
      have hle := c2.2.2.2
      obtain ⟨M', bk', g1, g2, g3⟩ := l_X7_fresh_38 (d := d) (x := x) hd ht hT U (k + 1) (oSame (aHas C.1.1.A y.1) (some y.2)) M1 bk1 hU2 (by omega) h2 (by omega)
      refine ⟨M', bk', fun rr h1 hE => ?_, g2, by omega⟩
      have g1 := g1 rr h1 (fun z => by
        have := hE z
        rw [List.all_cons, Bool.true_and] at this
        exact this)
      have z1 : z = M1.2.1 5 (424 + 25 * t + 13 + k) → (1 : Int32) = bi (oSame (aHas C.1.1.A y.1) (some y.2)) := fun e => by rw [hsame.mp e]; rfl
      have z0 : ¬ z = M1.2.1 5 (424 + 25 * t + 13 + k) → (0 : Int32) = bi (oSame (aHas C.1.1.A y.1) (some y.2)) := fun e => by
        cases hs : oSame (aHas C.1.1.A y.1) (some y.2) with
        | true => exact absurd (hsame.mpr hs) e
        | false => rfl
      refine px_iload dX7_fresh_38 rfl ?_
      refine px_aload_n dX7_fresh_40 rfl ?_
      refine mx_get fl_X7_48 dX7_fresh_41 rfl ?_
      refine px_iload_n dX7_fresh_44 rfl ?_
      refine mx_iaload (j := 5) (m := 824) (q := 424 + 25 * t) dX7_fresh_45 (by decide) (by first | rfl | (simp (disch := omega) only [li0, li1, li2, li3, li5, li6, li8, li9, li10, li12, li13, li16, li20, li24, li25, li100, li408, li424, li824, nI_add, nI_mul, nI_sub]; first | done | rfl | (congr 1; omega))) (by omega) ?_
      rw [t2]
      refine px_icmp_ge (tgt := 97) dX7_fresh_46 (by decide) (fun hc46 => ?_) (fun hc46 => ?_)
      · exact absurd hc46 (nI_ge hk2 (by omega))
      · refine px_iload dX7_fresh_49 rfl ?_
        refine px_ifb_eq (tgt := 88) dX7_fresh_51 (by decide) (fun hc51 => ?_) (fun hc51 => ?_)
        · cases hc51
        · refine px_aload_n dX7_fresh_54 rfl ?_
          refine px_aload_n dX7_fresh_55 rfl ?_
          refine mx_get fl_X7_48 dX7_fresh_56 rfl ?_
          refine px_iload_n dX7_fresh_59 rfl ?_
          refine px_iconst (v := 1) dX7_fresh_60 (by decide) ?_
          refine px_iadd dX7_fresh_61 ?_
          refine px_iload dX7_fresh_62 rfl ?_
          refine px_iadd dX7_fresh_64 ?_
          refine mx_iaload (j := 5) (m := 824) (q := 424 + 25 * t + 1 + k) dX7_fresh_65 (by decide) (by first | rfl | (simp (disch := omega) only [li0, li1, li2, li3, li5, li6, li8, li9, li10, li12, li13, li16, li20, li24, li25, li100, li408, li424, li824, nI_add, nI_mul, nI_sub]; first | done | rfl | (congr 1; omega))) (by omega) ?_
          rw [x1]
          refine px_callV1 (ν := mX7_has) (ci := 7) rfl rfl lk_X7_156 in_X7_has se_X7_has mok_X7_has dX7_fresh_66 (c1) (by exact mH_0) rfl rfl (by omega) (by simp) ?_
          refine px_aload_n dX7_fresh_69 rfl ?_
          refine mx_get fl_X7_48 dX7_fresh_70 rfl ?_
          refine px_iload_n dX7_fresh_73 rfl ?_
          refine px_bipush (v := 13) dX7_fresh_74 (by decide) ?_
          refine px_iadd dX7_fresh_76 ?_
          refine px_iload dX7_fresh_77 rfl ?_
          refine px_iadd dX7_fresh_79 ?_
          refine mx_iaload (j := 5) (m := 824) (q := 424 + 25 * t + 13 + k) dX7_fresh_80 (by decide) (by first | rfl | (simp (disch := omega) only [li0, li1, li2, li3, li5, li6, li8, li9, li10, li12, li13, li16, li20, li24, li25, li100, li408, li424, li824, nI_add, nI_mul, nI_sub]; first | done | rfl | (congr 1; omega))) (by omega) ?_
          refine px_icmp_ne (tgt := 88) dX7_fresh_81 (by decide) (fun hc81 => ?_) (fun hc81 => ?_)
          · refine px_iconst (v := 0) dX7_fresh_88 (by decide) ?_
            refine px_istore4 rfl dX7_fresh_89 ?_
            refine px_iinc5 rfl (nI_inc k) dX7_fresh_91 ?_
            refine px_goto (tgt := 38) dX7_fresh_94 (by decide) ?_
            first | (rw [← z1 hc81] at g1; exact g1) | (rw [← z0 hc81] at g1; exact g1)
          · refine px_iconst (v := 1) dX7_fresh_84 (by decide) ?_
            refine px_goto (tgt := 89) dX7_fresh_85 (by decide) ?_
            refine px_istore4 rfl dX7_fresh_89 ?_
            refine px_iinc5 rfl (nI_inc k) dX7_fresh_91 ?_
            refine px_goto (tgt := 38) dX7_fresh_94 (by decide) ?_
            first | (rw [← z1 hc81] at g1; exact g1) | (rw [← z0 hc81] at g1; exact g1)
theorem l_X7_fresh_4 {d : Nat} (hd : 3 ≤ d) : ∀ (q t : Nat) (x : Int32) (M : MS) (bk : BK), t + q = 16 → RP bk M C → ne bk ≤ 8900 → ∃ (M' : MS) (bk' : BK), (∀ z3 z4 z5 : Option Value, EX B D d mX7_fresh 4 [some (.ref r), some (.int (x)), some (.int (nI t)), z3, z4, z5] [] (n, w, mH r f M) (some (.int (bitsF (fun t => aFresh C.1.1.A (8 + t)) q t x))) (n, w, mH r f M')) ∧ RP bk' M' C ∧ ne bk' ≤ ne bk
  | 0, t, x, M, bk, ht, h, hcap => by
    have : t = 16 := by omega
    subst this
    refine ⟨M, bk, fun z3 z4 z5 => ?_, h, Nat.le_refl _⟩
    refine px_iload_n dX7_fresh_4 rfl ?_
    refine px_bipush (v := 16) dX7_fresh_5 (by decide) ?_
    refine px_icmp_ge (tgt := 118) dX7_fresh_7 (by decide) (fun hc7 => ?_) (fun hc7 => ?_)
    · refine px_iload_n dX7_fresh_118 rfl ?_
      exact px_reti dX7_fresh_119 (by rfl) (by rfl)
    · exact absurd (by decide) hc7
  | q + 1, t, x, M, bk, ht, h, hcap => by
    have ht2 : t < 16 := by omega
    have hTT := h.2.1.1.2.2.2 t ht2 rfl
    -- from pc 97 on
    have key : ∀ (M1 : MS) (bk1 : BK), RP bk1 M1 C → ne bk1 ≤ ne bk → ∃ (M' : MS) (bk' : BK), (∀ z : Option Value, EX B D d mX7_fresh 97 [some (.ref r), some (.int (x)), some (.int (nI t)), some (.int (nI (424 + 25 * t))), some (.int (bi (aFresh C.1.1.A (8 + t)))), z] [] (n, w, mH r f M1) (some (.int (bitsF (fun t => aFresh C.1.1.A (8 + t)) (q + 1) t x))) (n, w, mH r f M')) ∧ RP bk' M' C ∧ ne bk' ≤ ne bk := fun M1 bk1 h1 hle => by
      cases hp : aFresh C.1.1.A (8 + t) with
      | true =>
        obtain ⟨M', bk', g1, g2, g3⟩ := l_X7_fresh_4 (d := d) hd q (t + 1) (x ||| ((1 : Int32) <<< (nI t &&& 31))) M1 bk1 (by omega) h1 (by omega)
        refine ⟨M', bk', fun z => ?_, g2, by omega⟩
        rw [bitsF_t (p := fun t => aFresh C.1.1.A (8 + t)) hp]
        have g1 := g1 (some (.int (nI (424 + 25 * t)))) (some (.int (bi true))) z
        refine px_iload_n dX7_fresh_97 rfl ?_
        refine px_iload dX7_fresh_98 rfl ?_
        refine px_ifb_eq (tgt := 109) dX7_fresh_100 (by decide) (fun hc100 => ?_) (fun hc100 => ?_)
        · cases hc100
        · refine px_iconst (v := 1) dX7_fresh_103 (by decide) ?_
          refine px_iload_n dX7_fresh_104 rfl ?_
          refine px_ishl dX7_fresh_105 ?_
          refine px_goto (tgt := 110) dX7_fresh_106 (by decide) ?_
          refine px_ior dX7_fresh_110 ?_
          refine px_istore1 rfl dX7_fresh_111 ?_
          refine px_iinc2 rfl (nI_inc t) dX7_fresh_112 ?_
          refine px_goto (tgt := 4) dX7_fresh_115 (by decide) ?_
          exact g1
      | false =>
        obtain ⟨M', bk', g1, g2, g3⟩ := l_X7_fresh_4 (d := d) hd q (t + 1) x M1 bk1 (by omega) h1 (by omega)
        refine ⟨M', bk', fun z => ?_, g2, by omega⟩
        rw [bitsF_f (p := fun t => aFresh C.1.1.A (8 + t)) hp]
        have g1 := g1 (some (.int (nI (424 + 25 * t)))) (some (.int (bi false))) z
        refine px_iload_n dX7_fresh_97 rfl ?_
        refine px_iload dX7_fresh_98 rfl ?_
        refine px_ifb_eq (tgt := 109) dX7_fresh_100 (by decide) (fun hc100 => ?_) (fun hc100 => ?_)
        · refine px_iconst (v := 0) dX7_fresh_109 (by decide) ?_
          refine px_ior dX7_fresh_110 ?_
          refine px_istore1 rfl dX7_fresh_111 ?_
          refine px_iinc2 rfl (nI_inc t) dX7_fresh_112 ?_
          refine px_goto (tgt := 4) dX7_fresh_115 (by decide) ?_
          rw [or_zero]
          exact g1
        · cases hc100
    cases hr : C.1.1.A.tr (8 + t) with
    | none =>
      rw [hr] at hTT
      have hTT : M.2.1 5 (424 + 25 * t) = -1 := hTT
      have hp : aFresh C.1.1.A (8 + t) = false := by unfold aFresh; rw [hr]
      obtain ⟨M', bk', g1, g2, g3⟩ := key M bk h (Nat.le_refl _)
      rw [hp] at g1
      refine ⟨M', bk', fun z3 z4 z5 => ?_, g2, g3⟩
      have g1 := g1 (some (.int 0))
      refine px_iload_n dX7_fresh_4 rfl ?_
      refine px_bipush (v := 16) dX7_fresh_5 (by decide) ?_
      refine px_icmp_ge (tgt := 118) dX7_fresh_7 (by decide) (fun hc7 => ?_) (fun hc7 => ?_)
      · exact absurd hc7 (nI_ge (a := t) (b := 16) (by omega) (by omega))
      · refine px_sipush (v := 424) dX7_fresh_10 (by decide) ?_
        refine px_bipush (v := 25) dX7_fresh_13 (by decide) ?_
        refine px_iload_n dX7_fresh_15 rfl ?_
        refine px_imul dX7_fresh_16 ?_
        refine px_iadd dX7_fresh_17 ?_
        rw [show (424 : Int32) + 25 * nI t = nI (424 + 25 * t) by (simp (disch := omega) only [li0, li1, li2, li3, li5, li6, li8, li9, li10, li12, li13, li16, li20, li24, li25, li100, li408, li424, li824, nI_add, nI_mul, nI_sub]; first | done | rfl | (congr 1; omega))]
        refine px_istore3 rfl dX7_fresh_18 ?_
        refine px_aload_n dX7_fresh_19 rfl ?_
        refine mx_get fl_X7_48 dX7_fresh_20 rfl ?_
        refine px_iload_n dX7_fresh_23 rfl ?_
        refine mx_iaload (j := 5) (m := 824) (q := 424 + 25 * t) dX7_fresh_24 (by decide) (by first | rfl | (simp (disch := omega) only [li0, li1, li2, li3, li5, li6, li8, li9, li10, li12, li13, li16, li20, li24, li25, li100, li408, li424, li824, nI_add, nI_mul, nI_sub]; first | done | rfl | (congr 1; omega))) (by omega) ?_
        rw [hTT]
        refine px_if_lt (tgt := 32) dX7_fresh_25 (by decide) (fun hc25 => ?_) (fun hc25 => ?_)
        · refine px_iconst (v := 0) dX7_fresh_32 (by decide) ?_
          refine px_istore4 rfl dX7_fresh_33 ?_
          refine px_iconst (v := 0) dX7_fresh_35 (by decide) ?_
          refine px_istore5 rfl dX7_fresh_36 ?_
          refine px_iload dX7_fresh_38 rfl ?_
          refine px_aload_n dX7_fresh_40 rfl ?_
          refine mx_get fl_X7_48 dX7_fresh_41 rfl ?_
          refine px_iload_n dX7_fresh_44 rfl ?_
          refine mx_iaload (j := 5) (m := 824) (q := 424 + 25 * t) dX7_fresh_45 (by decide) (by first | rfl | (simp (disch := omega) only [li0, li1, li2, li3, li5, li6, li8, li9, li10, li12, li13, li16, li20, li24, li25, li100, li408, li424, li824, nI_add, nI_mul, nI_sub]; first | done | rfl | (congr 1; omega))) (by omega) ?_
          rw [hTT]
          refine px_icmp_ge (tgt := 97) dX7_fresh_46 (by decide) (fun hc46 => ?_) (fun hc46 => ?_)
          · exact g1
          · exact absurd (by decide) hc46
        · exact absurd (by decide) hc25
    | some T =>
      rw [hr] at hTT
      obtain ⟨t1, t2, t3⟩ := hTT
      have hp : aFresh C.1.1.A (8 + t) = T.all (fun x => oSame (aHas C.1.1.A x.1) (some x.2)) := by unfold aFresh; rw [hr]
      obtain ⟨M1, bk1, e1, e2, e3⟩ := l_X7_fresh_38 (B := B) (D := D) (n := n) (w := w) (r := r) (f := f) (d := d) (x := x) hd ht2 hr T 0 true M bk rfl (Nat.zero_le _) h hcap
      obtain ⟨M', bk', g1, g2, g3⟩ := key M1 bk1 e2 e3
      rw [hp] at g1
      refine ⟨M', bk', fun z3 z4 z5 => ?_, g2, g3⟩
      have e1 := e1 _ _ (fun z => by rw [Bool.true_and]; exact g1 z)
      refine px_iload_n dX7_fresh_4 rfl ?_
      refine px_bipush (v := 16) dX7_fresh_5 (by decide) ?_
      refine px_icmp_ge (tgt := 118) dX7_fresh_7 (by decide) (fun hc7 => ?_) (fun hc7 => ?_)
      · exact absurd hc7 (nI_ge (a := t) (b := 16) (by omega) (by omega))
      · refine px_sipush (v := 424) dX7_fresh_10 (by decide) ?_
        refine px_bipush (v := 25) dX7_fresh_13 (by decide) ?_
        refine px_iload_n dX7_fresh_15 rfl ?_
        refine px_imul dX7_fresh_16 ?_
        refine px_iadd dX7_fresh_17 ?_
        rw [show (424 : Int32) + 25 * nI t = nI (424 + 25 * t) by (simp (disch := omega) only [li0, li1, li2, li3, li5, li6, li8, li9, li10, li12, li13, li16, li20, li24, li25, li100, li408, li424, li824, nI_add, nI_mul, nI_sub]; first | done | rfl | (congr 1; omega))]
        refine px_istore3 rfl dX7_fresh_18 ?_
        refine px_aload_n dX7_fresh_19 rfl ?_
        refine mx_get fl_X7_48 dX7_fresh_20 rfl ?_
        refine px_iload_n dX7_fresh_23 rfl ?_
        refine mx_iaload (j := 5) (m := 824) (q := 424 + 25 * t) dX7_fresh_24 (by decide) (by first | rfl | (simp (disch := omega) only [li0, li1, li2, li3, li5, li6, li8, li9, li10, li12, li13, li16, li20, li24, li25, li100, li408, li424, li824, nI_add, nI_mul, nI_sub]; first | done | rfl | (congr 1; omega))) (by omega) ?_
        rw [t2]
        refine px_if_lt (tgt := 32) dX7_fresh_25 (by decide) (fun hc25 => ?_) (fun hc25 => ?_)
        · exact absurd hc25 (nI_pos (by omega))
        · refine px_iconst (v := 1) dX7_fresh_28 (by decide) ?_
          refine px_goto (tgt := 33) dX7_fresh_29 (by decide) ?_
          refine px_istore4 rfl dX7_fresh_33 ?_
          refine px_iconst (v := 0) dX7_fresh_35 (by decide) ?_
          refine px_istore5 rfl dX7_fresh_36 ?_
          exact e1
theorem m_fresh (h : RP bk M C) (hcap : ne bk + 16 ≤ 8900) : RQ B D n w r f 50 mX7_fresh [] bk M (.int (bitsF (fun t => aFresh C.1.1.A (8 + t)) 16 0 0)) C := by
  obtain ⟨M', bk', g1, g2, g3⟩ := l_X7_fresh_4 (B := B) (D := D) (n := n) (w := w) (r := r) (f := f) (d := 50) (by omega) 16 0 0 M bk rfl h (by omega)
  refine ⟨M', bk', ?_, g2, by omega⟩
  refine CT.of [some (.ref r), none, none, none, none, none] rfl (Nat.le_of_ble_eq_true rfl) pl_X7 trivial ?_
  refine px_iconst (v := 0) dX7_fresh_0 (by decide) ?_
  refine px_istore1 rfl dX7_fresh_1 ?_
  refine px_iconst (v := 0) dX7_fresh_2 (by decide) ?_
  refine px_istore2 rfl dX7_fresh_3 ?_
  exact g1 none none none
end M70
