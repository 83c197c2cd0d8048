/-! the reference: LISTS -/
theorem setl_self (M : MS) (j : Nat) (g : Nat → Int64) : (M.setl j g).2.2 j = g := by
  show va_up M.2.2 j g j = g
  rw [va_up_self]
theorem RP.rows {bk : BK} {M M' : MS} {C : CS} {R : Nat → aR} (h : RP bk M C) (h1 : M'.1 = M.1) (h2 : ∀ j, j ≠ 17 → M'.2.1 j = M.2.1 j) (hR : RLs M' R) : RP bk M' (C.1, (C.2.1, (C.2.2.1, R))) := by
  obtain ⟨a1, a2, a3, ⟨a4, a5, a6⟩, a7, a8⟩ := h
  refine ⟨a1.of (by rw [h1]) (fun j x y => h2 j (by omega)), ?_, ?_, ⟨⟨?_, ?_, ?_, ?_, ?_, ?_⟩, a5, ?_⟩, ⟨?_, a7.2.1, ?_⟩, hR⟩
  · rw [h2 5 (by omega)]; exact a2
  · rw [h2 6 (by omega), h1]; exact a3
  · rw [h1]; exact a4.1
  · rw [h2 11 (by omega)]; exact a4.2.1
  · rw [h1]; exact a4.2.2.1
  · rw [h1]; exact a4.2.2.2.1
  · rw [h1]; exact a4.2.2.2.2.1
  · rw [h1]; exact a4.2.2.2.2.2
  · rw [h1]; exact a6
  · rw [h1]; exact a7.1
  · rw [h2 8 (by omega)]; exact a7.2.2
theorem rhas_in {s : Nat} (hs : s ≤ 20) (i : Int32) : s_isInL i.toInt64 0 (nI s - 1).toInt64 = r_has (nI s) i := by
  rw [sin_n (by omega), Bool.eq_iff_iff]
  unfold r_has
  simp only [Bool.and_eq_true, Bool.not_eq_true', decide_eq_true_eq, decide_eq_false_iff_not]
  constructor
  · rintro ⟨h1, h2⟩
    obtain ⟨j, hj, rfl⟩ := nI_of h1
    rw [nI_clamp hj] at h2
    exact ⟨h1, nI_ge h2 (by omega)⟩
  · rintro ⟨h1, h2⟩
    obtain ⟨j, hj, rfl⟩ := nI_of h1
    rw [nI_clamp hj]
    refine ⟨h1, ?_⟩
    rcases Nat.lt_or_ge j s with h | h
    · exact h
    · exact absurd (nI_le h hj) h2
theorem rhas_add {s j t : Nat} (hs : s ≤ 20) (hj : j < 2 ^ 31) (ht : t < 16) : r_has (nI s) (nI j + nI t) = decide (j + t < s) := by
  rw [nI_add]
  rcases Nat.lt_or_ge (j + t) (2 ^ 31) with h | h
  · rw [← rhas_in hs, sin_n (by omega), nI_clamp h, decide_eq_false (nI_pos h)]
    rfl
  · rw [decide_eq_false (by omega)]
    have hneg : nI (j + t) < 0 := by
      rw [Int32.lt_iff_toInt_lt]
      show (Int32.ofNat (j + t)).toInt < _
      rw [Int32.toInt_ofNat', show (0 : Int32).toInt = 0 by decide, show Int32.size = 4294967296 from rfl, Int.bmod_def]
      split <;> omega
    unfold r_has
    rw [decide_eq_true hneg]
    rfl
section M72
variable {B : Nat} {D : va_G} {n w r : Nat} {f : Nat → Option va_E} {bk : BK} {M : MS} {C : CS}
theorem l_X7_list_34 {d t s : Nat} (ht : t < 4) : ∀ (q j : Nat) (M : MS), j + q = 20 → ∃ g : Nat → Int64, EX B D d mX7_list 34 [some (.ref r), some (.int (nI t)), some (.int (nI s)), some (.int (nI j))] [] (n, w, mH r f M) (some (.int 1)) (n, w, mH r f (M.setl 18 g)) ∧ (∀ p, j ≤ p → p < 20 → g (20 * t + p) = 0) ∧ ∀ p, p < 20 * t + j ∨ 20 * t + 20 ≤ p → g p = M.2.2 18 p
  | 0, j, M, hj => by
    have : j = 20 := by omega
    subst this
    refine ⟨M.2.2 18, ?_, fun p h1 h2 => by omega, fun p _ => rfl⟩
    have e : M.setl 18 (M.2.2 18) = M := by unfold MS.setl; rw [up_id]
    rw [e]
    refine px_iload_n dX7_list_34 rfl ?_
    refine px_bipush (v := 20) dX7_list_35 (by decide) ?_
    refine px_icmp_ge (tgt := 58) dX7_list_37 (by decide) (fun hc37 => ?_) (fun hc37 => ?_)
    · refine px_iconst (v := 1) dX7_list_58 (by decide) ?_
      exact px_reti dX7_list_59 (by rfl) (by rfl)
    · exact absurd (by decide) hc37
  | q + 1, j, M, hj => by
    obtain ⟨g, e1, e2, e3⟩ := l_X7_list_34 (d := d) (s := s) ht q (j + 1) (M.setl 18 (va_up (M.2.2 18) (20 * t + j) 0)) (by omega)
    have es : (M.setl 18 (va_up (M.2.2 18) (20 * t + j) 0)).setl 18 g = M.setl 18 g := by unfold MS.setl; simp only [bx_uu]
    rw [setl_self] at e3
    rw [es] at e1
    refine ⟨g, ?_, fun p h1 h2 => ?_, fun p hp => ?_⟩
    · refine px_iload_n dX7_list_34 rfl ?_
      refine px_bipush (v := 20) dX7_list_35 (by decide) ?_
      refine px_icmp_ge (tgt := 58) dX7_list_37 (by decide) (fun hc37 => ?_) (fun hc37 => ?_)
      · exact absurd hc37 (nI_ge (a := j) (b := 20) (by omega) (by omega))
      · refine px_aload_n dX7_list_40 rfl ?_
        refine mx_get fl_X7_91 dX7_list_41 rfl ?_
        refine px_bipush (v := 20) dX7_list_44 (by decide) ?_
        refine px_iload_n dX7_list_46 rfl ?_
        refine px_imul dX7_list_47 ?_
        refine px_iload_n dX7_list_48 rfl ?_
        refine px_iadd dX7_list_49 ?_
        refine px_lconst (v := 0) dX7_list_50 (by decide) ?_
        refine mx_lastore (j := 18) (m := 80) (q := 20 * t + j) dX7_list_51 (by decide) (by first | rfl | (simp (disch := omega) only [li0, li1, li2, li3, li5, li6, li8, li9, li10, li12, li13, li16, li20, li24, li25, li100, li408, li424, li824, nI_add, nI_mul, nI_sub]; first | done | rfl | (congr 1; omega))) (by omega) ?_
        refine px_iinc3 rfl (nI_inc j) dX7_list_52 ?_
        refine px_goto (tgt := 34) dX7_list_55 (by decide) ?_
        exact e1
    · by_cases e : p = j
      · subst e; rw [e3 _ (by omega), va_up_self]
      · exact e2 p (by omega) h2
    · rw [e3 p (by omega), va_up_ne _ _ (by omega)]
theorem m_list (h : RP bk M C) (k x : Int32) : RQ B D n w r f 50 mX7_list [.int k, .int x] bk M (.int (v_list C.2.2.2 k x).1) (C.1, (C.2.1, (C.2.2.1, (v_list C.2.2.2 k x).2))) := by
  by_cases hk : s_isRow k = true
  · obtain ⟨t, ht, rfl⟩ := inR.mp hk
    by_cases hx : 20 < x
    · have h0 : v_list C.2.2.2 (nI t) x = (-2, C.2.2.2) := by unfold v_list; rw [if_pos hk, if_pos hx]
      rw [h0]
      refine RQ.same h ?_
      refine CT.of [some (.ref r), some (.int (nI t)), some (.int x), none] rfl (Nat.le_of_ble_eq_true rfl) pl_X7 trivial ?_
      refine px_iload_n dX7_list_0 rfl ?_
      refine px_callS1 (ν := mX7_isList) lk_X7_236 st_X7_isList mok_X7_isList dX7_list_1 (cr_isList _) rfl rfl (by omega) (by simp) ?_
      refine px_ifb_ne (tgt := 9) dX7_list_4 (by decide) (fun hc4 => ?_) (fun hc4 => ?_)
      · refine px_iload_n dX7_list_9 rfl ?_
        refine px_bipush (v := 20) dX7_list_10 (by decide) ?_
        refine px_icmp_le (tgt := 18) dX7_list_12 (by decide) (fun hc12 => ?_) (fun hc12 => ?_)
        · exact absurd hx (Int32.not_lt.mpr hc12)
        · refine px_bipush (v := (-2)) dX7_list_15 (by decide) ?_
          exact px_reti dX7_list_17 (by rfl) (by rfl)
      · rw [hk] at hc4; cases hc4
    · by_cases hx0 : x < 0
      · have h0 : v_list C.2.2.2 (nI t) x = (-14, C.2.2.2) := by unfold v_list; rw [if_pos hk, if_neg hx, if_pos hx0]
        rw [h0]
        refine RQ.same h ?_
        refine CT.of [some (.ref r), some (.int (nI t)), some (.int x), none] rfl (Nat.le_of_ble_eq_true rfl) pl_X7 trivial ?_
        refine px_iload_n dX7_list_0 rfl ?_
        refine px_callS1 (ν := mX7_isList) lk_X7_236 st_X7_isList mok_X7_isList dX7_list_1 (cr_isList _) rfl rfl (by omega) (by simp) ?_
        refine px_ifb_ne (tgt := 9) dX7_list_4 (by decide) (fun hc4 => ?_) (fun hc4 => ?_)
        · refine px_iload_n dX7_list_9 rfl ?_
          refine px_bipush (v := 20) dX7_list_10 (by decide) ?_
          refine px_icmp_le (tgt := 18) dX7_list_12 (by decide) (fun hc12 => ?_) (fun hc12 => ?_)
          · refine px_iload_n dX7_list_18 rfl ?_
            refine px_if_ge (tgt := 25) dX7_list_19 (by decide) (fun hc19 => ?_) (fun hc19 => ?_)
            · exact absurd hx0 (Int32.not_lt.mpr hc19)
            · refine px_bipush (v := (-14)) dX7_list_22 (by decide) ?_
              exact px_reti dX7_list_24 (by rfl) (by rfl)
          · exact absurd (Int32.not_lt.mp hx) hc12
        · rw [hk] at hc4; cases hc4
      · obtain ⟨s, hs, rfl⟩ := nI_of2 (M := 20) (n := 20) (by decide) hx0 (Int32.not_lt.mp hx)
        have h0 : v_list C.2.2.2 (nI t) (nI s) = (1, va_up C.2.2.2 t (some s, fun _ => 0)) := by unfold v_list; rw [if_pos hk, if_neg hx, if_neg hx0, nI_clamp (by omega), nI_clamp (by omega)]
        rw [h0]
        obtain ⟨g, e1, e2, e3⟩ := l_X7_list_34 (B := B) (D := D) (n := n) (w := w) (r := r) (f := f) (d := 50) (s := s) ht 20 0 (M.sa 17 t (nI s)) (by omega)
        refine ⟨(M.sa 17 t (nI s)).setl 18 g, bk, ?_, h.rows rfl (fun j hj => va_up_ne _ _ hj) (fun i hi => ?_), by omega⟩
        · refine CT.of [some (.ref r), some (.int (nI t)), some (.int (nI s)), none] rfl (Nat.le_of_ble_eq_true rfl) pl_X7 trivial ?_
          refine px_iload_n dX7_list_0 rfl ?_
          refine px_callS1 (ν := mX7_isList) lk_X7_236 st_X7_isList mok_X7_isList dX7_list_1 (cr_isList _) rfl rfl (by omega) (by simp) ?_
          refine px_ifb_ne (tgt := 9) dX7_list_4 (by decide) (fun hc4 => ?_) (fun hc4 => ?_)
          · refine px_iload_n dX7_list_9 rfl ?_
            refine px_bipush (v := 20) dX7_list_10 (by decide) ?_
            refine px_icmp_le (tgt := 18) dX7_list_12 (by decide) (fun hc12 => ?_) (fun hc12 => ?_)
            · refine px_iload_n dX7_list_18 rfl ?_
              refine px_if_ge (tgt := 25) dX7_list_19 (by decide) (fun hc19 => ?_) (fun hc19 => ?_)
              · refine px_aload_n dX7_list_25 rfl ?_
                refine mx_get fl_X7_88 dX7_list_26 rfl ?_
                refine px_iload_n dX7_list_29 rfl ?_
                refine px_iload_n dX7_list_30 rfl ?_
                refine mx_iastore (j := 17) (m := 4) (q := t) dX7_list_31 (by decide) (by first | rfl | (simp (disch := omega) only [li0, li1, li2, li3, li5, li6, li8, li9, li10, li12, li13, li16, li20, li24, li25, li100, li408, li424, li824, nI_add, nI_mul, nI_sub]; first | done | rfl | (congr 1; omega))) (by omega) ?_
                refine px_iconst (v := 0) dX7_list_32 (by decide) ?_
                refine px_istore3 rfl dX7_list_33 ?_
                exact e1
              · exact absurd (Int32.not_lt.mp hx0) hc19
            · exact absurd (Int32.not_lt.mp hx) hc12
          · rw [hk] at hc4; cases hc4
        · have e17 : ((M.sa 17 t (nI s)).setl 18 g).2.1 17 = va_up (M.2.1 17) t (nI s) := by
            show va_up M.2.1 17 (va_up (M.2.1 17) t (nI s)) 17 = _
            rw [va_up_self]
          rw [e17, setl_self]
          dsimp only
          have hRi := h.2.2.2.2.2 i hi
          by_cases e : i = t
          · subst e
            rw [va_up_self, va_up_self]
            exact ⟨rfl, hs, fun j hj => e2 j (Nat.zero_le _) hj⟩
          · rw [va_up_ne _ _ e, va_up_ne _ _ e]
            refine ⟨hRi.1, hRi.2.1, fun j hj => ?_⟩
            rw [e3 _ (by omega)]
            exact hRi.2.2 j hj
  · have h0 : v_list C.2.2.2 k x = (-1, C.2.2.2) := by unfold v_list; rw [if_neg hk]
    rw [h0]
    refine RQ.same h ?_
    refine CT.of [some (.ref r), some (.int k), some (.int x), none] rfl (Nat.le_of_ble_eq_true rfl) pl_X7 trivial ?_
    refine px_iload_n dX7_list_0 rfl ?_
    refine px_callS1 (ν := mX7_isList) lk_X7_236 st_X7_isList mok_X7_isList dX7_list_1 (cr_isList _) rfl rfl (by omega) (by simp) ?_
    refine px_ifb_ne (tgt := 9) dX7_list_4 (by decide) (fun hc4 => ?_) (fun hc4 => ?_)
    · exact absurd hc4 hk
    · refine px_iconst (v := (-1)) dX7_list_7 (by decide) ?_
      exact px_reti dX7_list_8 (by rfl) (by rfl)
theorem m_put (h : RP bk M C) (k i : Int32) (v : Int64) : RQ B D n w r f 50 mX7_put [.int k, .int i, .long v] bk M (.int (v_put C.2.2.2 k i v).1) (C.1, (C.2.1, (C.2.2.1, (v_put C.2.2.2 k i v).2))) := by
  by_cases hk : s_isRow k = true
  · obtain ⟨t, ht, rfl⟩ := inR.mp hk
    obtain ⟨c1, c2, c3⟩ := h.2.2.2.2.2 t ht
    cases hr : (C.2.2.2 t).1 with
    | none =>
      rw [hr] at c1
      have c1 : M.2.1 17 t = -1 := c1
      have h0 : v_put C.2.2.2 (nI t) i v = (-11, C.2.2.2) := by unfold v_put; rw [if_pos hk, nI_clamp (by omega), if_neg (by rw [hr]; decide)]
      rw [h0]
      refine RQ.same h ?_
      refine CT.of [some (.ref r), some (.int (nI t)), some (.int i), some (.long v), none] rfl (Nat.le_of_ble_eq_true rfl) pl_X7 trivial ?_
      refine px_iload_n dX7_put_0 rfl ?_
      refine px_callS1 (ν := mX7_isList) lk_X7_236 st_X7_isList mok_X7_isList dX7_put_1 (cr_isList _) rfl rfl (by omega) (by simp) ?_
      refine px_ifb_ne (tgt := 9) dX7_put_4 (by decide) (fun hc4 => ?_) (fun hc4 => ?_)
      · refine px_aload_n dX7_put_9 rfl ?_
        refine mx_get fl_X7_88 dX7_put_10 rfl ?_
        refine px_iload_n dX7_put_13 rfl ?_
        refine mx_iaload (j := 17) (m := 4) (q := t) dX7_put_14 (by decide) (by first | rfl | (simp (disch := omega) only [li0, li1, li2, li3, li5, li6, li8, li9, li10, li12, li13, li16, li20, li24, li25, li100, li408, li424, li824, nI_add, nI_mul, nI_sub]; first | done | rfl | (congr 1; omega))) (by omega) ?_
        rw [c1]
        refine px_if_ge (tgt := 21) dX7_put_15 (by decide) (fun hc15 => ?_) (fun hc15 => ?_)
        · exact absurd hc15 (by decide)
        · refine px_bipush (v := (-11)) dX7_put_18 (by decide) ?_
          exact px_reti dX7_put_20 (by rfl) (by rfl)
      · rw [hk] at hc4; cases hc4
    | some s =>
      rw [hr] at c1 c2
      have c1 : M.2.1 17 t = nI s := c1
      have c2 : s ≤ 20 := c2
      have hin := rhas_in c2 i
      cases hh : r_has (nI s) i with
      | false =>
        rw [hh] at hin
        have h0 : v_put C.2.2.2 (nI t) i v = (-13, C.2.2.2) := by unfold v_put; rw [if_pos hk, nI_clamp (by omega), if_pos (by rw [hr]; rfl), hr, if_neg (by show ¬ r_has (nI s) i = true; rw [hh]; decide)]
        rw [h0]
        refine RQ.same h ?_
        refine CT.of [some (.ref r), some (.int (nI t)), some (.int i), some (.long v), none] rfl (Nat.le_of_ble_eq_true rfl) pl_X7 trivial ?_
        refine px_iload_n dX7_put_0 rfl ?_
        refine px_callS1 (ν := mX7_isList) lk_X7_236 st_X7_isList mok_X7_isList dX7_put_1 (cr_isList _) rfl rfl (by omega) (by simp) ?_
        refine px_ifb_ne (tgt := 9) dX7_put_4 (by decide) (fun hc4 => ?_) (fun hc4 => ?_)
        · refine px_aload_n dX7_put_9 rfl ?_
          refine mx_get fl_X7_88 dX7_put_10 rfl ?_
          refine px_iload_n dX7_put_13 rfl ?_
          refine mx_iaload (j := 17) (m := 4) (q := t) dX7_put_14 (by decide) (by first | rfl | (simp (disch := omega) only [li0, li1, li2, li3, li5, li6, li8, li9, li10, li12, li13, li16, li20, li24, li25, li100, li408, li424, li824, nI_add, nI_mul, nI_sub]; first | done | rfl | (congr 1; omega))) (by omega) ?_
          rw [c1]
          refine px_if_ge (tgt := 21) dX7_put_15 (by decide) (fun hc15 => ?_) (fun hc15 => ?_)
          · refine px_iload_n dX7_put_21 rfl ?_
            refine px_i2l dX7_put_22 ?_
            refine px_lconst (v := 0) dX7_put_23 (by decide) ?_
            refine px_aload_n dX7_put_24 rfl ?_
            refine mx_get fl_X7_88 dX7_put_25 rfl ?_
            refine px_iload_n dX7_put_28 rfl ?_
            refine mx_iaload (j := 17) (m := 4) (q := t) dX7_put_29 (by decide) (by first | rfl | (simp (disch := omega) only [li0, li1, li2, li3, li5, li6, li8, li9, li10, li12, li13, li16, li20, li24, li25, li100, li408, li424, li824, nI_add, nI_mul, nI_sub]; first | done | rfl | (congr 1; omega))) (by omega) ?_
            rw [c1]
            refine px_iconst (v := 1) dX7_put_30 (by decide) ?_
            refine px_isub dX7_put_31 ?_
            refine px_i2l dX7_put_32 ?_
            refine px_callS1 (ν := mX7_isIn) lk_X7_7 st_X7_isIn mok_X7_isIn dX7_put_33 (c_X7_isIn _ _ _) rfl rfl (by omega) (by simp) ?_
            refine px_ifb_ne (tgt := 42) dX7_put_36 (by decide) (fun hc36 => ?_) (fun hc36 => ?_)
            · rw [hin] at hc36; cases hc36
            · refine px_bipush (v := (-13)) dX7_put_39 (by decide) ?_
              exact px_reti dX7_put_41 (by rfl) (by rfl)
          · exact absurd (nI_pos' (by omega)) hc15
        · rw [hk] at hc4; cases hc4
      | true =>
        rw [hh] at hin
        obtain ⟨j, hj, rfl⟩ := (r_has_lt (by omega)).mp hh
        have h0 : v_put C.2.2.2 (nI t) (nI j) v = (1, va_up C.2.2.2 t (some s, va_up (C.2.2.2 t).2 j v)) := by unfold v_put; rw [if_pos hk, nI_clamp (by omega), if_pos (by rw [hr]; rfl), hr, if_pos (by show r_has (nI s) (nI j) = true; exact hh), nI_clamp (by omega)]
        rw [h0]
        refine ⟨M.setl 18 (va_up (M.2.2 18) (20 * t + j) v), bk, ?_, h.rows rfl (fun _ _ => rfl) (fun i hi => ?_), by omega⟩
        · refine CT.of [some (.ref r), some (.int (nI t)), some (.int (nI j)), some (.long v), none] rfl (Nat.le_of_ble_eq_true rfl) pl_X7 trivial ?_
          refine px_iload_n dX7_put_0 rfl ?_
          refine px_callS1 (ν := mX7_isList) lk_X7_236 st_X7_isList mok_X7_isList dX7_put_1 (cr_isList _) rfl rfl (by omega) (by simp) ?_
          refine px_ifb_ne (tgt := 9) dX7_put_4 (by decide) (fun hc4 => ?_) (fun hc4 => ?_)
          · refine px_aload_n dX7_put_9 rfl ?_
            refine mx_get fl_X7_88 dX7_put_10 rfl ?_
            refine px_iload_n dX7_put_13 rfl ?_
            refine mx_iaload (j := 17) (m := 4) (q := t) dX7_put_14 (by decide) (by first | rfl | (simp (disch := omega) only [li0, li1, li2, li3, li5, li6, li8, li9, li10, li12, li13, li16, li20, li24, li25, li100, li408, li424, li824, nI_add, nI_mul, nI_sub]; first | done | rfl | (congr 1; omega))) (by omega) ?_
            rw [c1]
            refine px_if_ge (tgt := 21) dX7_put_15 (by decide) (fun hc15 => ?_) (fun hc15 => ?_)
            · refine px_iload_n dX7_put_21 rfl ?_
              refine px_i2l dX7_put_22 ?_
              refine px_lconst (v := 0) dX7_put_23 (by decide) ?_
              refine px_aload_n dX7_put_24 rfl ?_
              refine mx_get fl_X7_88 dX7_put_25 rfl ?_
              refine px_iload_n dX7_put_28 rfl ?_
              refine mx_iaload (j := 17) (m := 4) (q := t) dX7_put_29 (by decide) (by first | rfl | (simp (disch := omega) only [li0, li1, li2, li3, li5, li6, li8, li9, li10, li12, li13, li16, li20, li24, li25, li100, li408, li424, li824, nI_add, nI_mul, nI_sub]; first | done | rfl | (congr 1; omega))) (by omega) ?_
              rw [c1]
              refine px_iconst (v := 1) dX7_put_30 (by decide) ?_
              refine px_isub dX7_put_31 ?_
              refine px_i2l dX7_put_32 ?_
              refine px_callS1 (ν := mX7_isIn) lk_X7_7 st_X7_isIn mok_X7_isIn dX7_put_33 (c_X7_isIn _ _ _) rfl rfl (by omega) (by simp) ?_
              refine px_ifb_ne (tgt := 42) dX7_put_36 (by decide) (fun hc36 => ?_) (fun hc36 => ?_)
              · refine px_aload_n dX7_put_42 rfl ?_
                refine mx_get fl_X7_91 dX7_put_43 rfl ?_
                refine px_bipush (v := 20) dX7_put_46 (by decide) ?_
                refine px_iload_n dX7_put_48 rfl ?_
                refine px_imul dX7_put_49 ?_
                refine px_iload_n dX7_put_50 rfl ?_
                refine px_iadd dX7_put_51 ?_
                refine px_lload_n dX7_put_52 rfl ?_
                refine mx_lastore (j := 18) (m := 80) (q := 20 * t + j) dX7_put_53 (by decide) (by first | rfl | (simp (disch := omega) only [li0, li1, li2, li3, li5, li6, li8, li9, li10, li12, li13, li16, li20, li24, li25, li100, li408, li424, li824, nI_add, nI_mul, nI_sub]; first | done | rfl | (congr 1; omega))) (by omega) ?_
                refine px_iconst (v := 1) dX7_put_54 (by decide) ?_
                exact px_reti dX7_put_55 (by rfl) (by rfl)
              · rw [hin] at hc36; cases hc36
            · exact absurd (nI_pos' (by omega)) hc15
          · rw [hk] at hc4; cases hc4
        · rw [setl_self]
          show M.2.1 17 i = _ ∧ _
          dsimp only
          have hRi := h.2.2.2.2.2 i hi
          by_cases e : i = t
          · subst e
            rw [va_up_self]
            refine ⟨c1, c2, fun q hq => ?_⟩
            show va_up (M.2.2 18) (20 * i + j) v (20 * i + q) = va_up (C.2.2.2 i).2 j v q
            by_cases e2 : q = j
            · subst e2; rw [va_up_self, va_up_self]
            · rw [va_up_ne _ _ (by omega), va_up_ne _ _ e2]; exact c3 q hq
          · rw [va_up_ne _ _ e]
            refine ⟨hRi.1, hRi.2.1, fun q hq => ?_⟩
            rw [va_up_ne _ _ (by omega)]
            exact hRi.2.2 q hq
  · have h0 : v_put C.2.2.2 k i v = (-1, C.2.2.2) := by unfold v_put; rw [if_neg hk]
    rw [h0]
    refine RQ.same h ?_
    refine CT.of [some (.ref r), some (.int k), some (.int i), some (.long v), none] rfl (Nat.le_of_ble_eq_true rfl) pl_X7 trivial ?_
    refine px_iload_n dX7_put_0 rfl ?_
    refine px_callS1 (ν := mX7_isList) lk_X7_236 st_X7_isList mok_X7_isList dX7_put_1 (cr_isList _) rfl rfl (by omega) (by simp) ?_
    refine px_ifb_ne (tgt := 9) dX7_put_4 (by decide) (fun hc4 => ?_) (fun hc4 => ?_)
    · exact absurd hc4 hk
    · refine px_iconst (v := (-1)) dX7_put_7 (by decide) ?_
      exact px_reti dX7_put_8 (by rfl) (by rfl)
theorem m_get (h : RP bk M C) (k i : Int32) : RQ B D n w r f 50 mX7_get [.int k, .int i] bk M (.long (v_get C.2.2.2 k i)) C := by
  refine RQ.same h ?_
  by_cases hk : s_isRow k = true
  · obtain ⟨t, ht, rfl⟩ := inR.mp hk
    obtain ⟨c1, c2, c3⟩ := h.2.2.2.2.2 t ht
    have hval : s_isInL i.toInt64 0 (M.2.1 17 t - 1).toInt64 = r_has (nI ((C.2.2.2 t).1.getD 0)) i := by
      cases hr : (C.2.2.2 t).1 with
      | none =>
        rw [hr] at c1
        have c1 : M.2.1 17 t = -1 := c1
        rw [c1]
        have e0 : r_has (nI 0) i = false := by rw [← rhas_in (s := 0) (by omega), sin_n (by omega)]; simp
        show _ = r_has (nI 0) i
        rw [e0, sin_lt (x := 0) (y := -2) (by decide) (by decide), Bool.eq_false_iff]
        intro e
        simp only [Bool.and_eq_true, decide_eq_true_eq] at e
        omega
      | some s =>
        rw [hr] at c1 c2
        have c1 : M.2.1 17 t = nI s := c1
        rw [c1]
        exact rhas_in c2 i
    cases hh : r_has (nI ((C.2.2.2 t).1.getD 0)) i with
    | false =>
      rw [hh] at hval
      have h0 : v_get C.2.2.2 (nI t) i = -9223372036854775808 := by unfold v_get; rw [nI_clamp (by omega), if_neg (fun e => by rw [hh] at e; cases e.2)]
      rw [h0]
      refine CT.of [some (.ref r), some (.int (nI t)), some (.int i)] rfl (Nat.le_of_ble_eq_true rfl) pl_X7 trivial ?_
      refine px_iload_n dX7_get_0 rfl ?_
      refine px_callS1 (ν := mX7_isList) lk_X7_236 st_X7_isList mok_X7_isList dX7_get_1 (cr_isList _) rfl rfl (by omega) (by simp) ?_
      refine px_ifb_eq (tgt := 39) dX7_get_4 (by decide) (fun hc4 => ?_) (fun hc4 => ?_)
      · rw [hk] at hc4; cases hc4
      · refine px_iload_n dX7_get_7 rfl ?_
        refine px_i2l dX7_get_8 ?_
        refine px_lconst (v := 0) dX7_get_9 (by decide) ?_
        refine px_aload_n dX7_get_10 rfl ?_
        refine mx_get fl_X7_88 dX7_get_11 rfl ?_
        refine px_iload_n dX7_get_14 rfl ?_
        refine mx_iaload (j := 17) (m := 4) (q := t) dX7_get_15 (by decide) (by first | rfl | (simp (disch := omega) only [li0, li1, li2, li3, li5, li6, li8, li9, li10, li12, li13, li16, li20, li24, li25, li100, li408, li424, li824, nI_add, nI_mul, nI_sub]; first | done | rfl | (congr 1; omega))) (by omega) ?_
        refine px_iconst (v := 1) dX7_get_16 (by decide) ?_
        refine px_isub dX7_get_17 ?_
        refine px_i2l dX7_get_18 ?_
        refine px_callS1 (ν := mX7_isIn) lk_X7_7 st_X7_isIn mok_X7_isIn dX7_get_19 (c_X7_isIn _ _ _) rfl rfl (by omega) (by simp) ?_
        refine px_ifb_eq (tgt := 39) dX7_get_22 (by decide) (fun hc22 => ?_) (fun hc22 => ?_)
        · refine px_ldc2 dX7_get_39 kc_X7_239 ?_
          exact px_retl dX7_get_42 (by rfl) (by rfl)
        · rw [hval] at hc22; cases hc22
    | true =>
      rw [hh] at hval
      obtain ⟨j, hj, rfl⟩ := (r_has_lt (by omega)).mp hh
      have h0 : v_get C.2.2.2 (nI t) (nI j) = (C.2.2.2 t).2 j := by unfold v_get; rw [nI_clamp (by omega), if_pos ⟨hk, hh⟩, nI_clamp (by omega)]
      rw [h0]
      have hv := c3 j (by omega)
      refine CT.of [some (.ref r), some (.int (nI t)), some (.int (nI j))] rfl (Nat.le_of_ble_eq_true rfl) pl_X7 trivial ?_
      refine px_iload_n dX7_get_0 rfl ?_
      refine px_callS1 (ν := mX7_isList) lk_X7_236 st_X7_isList mok_X7_isList dX7_get_1 (cr_isList _) rfl rfl (by omega) (by simp) ?_
      refine px_ifb_eq (tgt := 39) dX7_get_4 (by decide) (fun hc4 => ?_) (fun hc4 => ?_)
      · rw [hk] at hc4; cases hc4
      · refine px_iload_n dX7_get_7 rfl ?_
        refine px_i2l dX7_get_8 ?_
        refine px_lconst (v := 0) dX7_get_9 (by decide) ?_
        refine px_aload_n dX7_get_10 rfl ?_
        refine mx_get fl_X7_88 dX7_get_11 rfl ?_
        refine px_iload_n dX7_get_14 rfl ?_
        refine mx_iaload (j := 17) (m := 4) (q := t) dX7_get_15 (by decide) (by first | rfl | (simp (disch := omega) only [li0, li1, li2, li3, li5, li6, li8, li9, li10, li12, li13, li16, li20, li24, li25, li100, li408, li424, li824, nI_add, nI_mul, nI_sub]; first | done | rfl | (congr 1; omega))) (by omega) ?_
        refine px_iconst (v := 1) dX7_get_16 (by decide) ?_
        refine px_isub dX7_get_17 ?_
        refine px_i2l dX7_get_18 ?_
        refine px_callS1 (ν := mX7_isIn) lk_X7_7 st_X7_isIn mok_X7_isIn dX7_get_19 (c_X7_isIn _ _ _) rfl rfl (by omega) (by simp) ?_
        refine px_ifb_eq (tgt := 39) dX7_get_22 (by decide) (fun hc22 => ?_) (fun hc22 => ?_)
        · rw [hval] at hc22; cases hc22
        · refine px_aload_n dX7_get_25 rfl ?_
          refine mx_get fl_X7_91 dX7_get_26 rfl ?_
          refine px_bipush (v := 20) dX7_get_29 (by decide) ?_
          refine px_iload_n dX7_get_31 rfl ?_
          refine px_imul dX7_get_32 ?_
          refine px_iload_n dX7_get_33 rfl ?_
          refine px_iadd dX7_get_34 ?_
          refine mx_laload (j := 18) (m := 80) (q := 20 * t + j) dX7_get_35 (by decide) (by first | rfl | (simp (disch := omega) only [li0, li1, li2, li3, li5, li6, li8, li9, li10, li12, li13, li16, li20, li24, li25, li100, li408, li424, li824, nI_add, nI_mul, nI_sub]; first | done | rfl | (congr 1; omega))) (by omega) ?_
          refine px_goto (tgt := 42) dX7_get_36 (by decide) ?_
          exact px_retl dX7_get_42 (by rw [hv]) (by rfl)
  · have h0 : v_get C.2.2.2 k i = -9223372036854775808 := by unfold v_get; rw [if_neg (fun e => hk e.1)]
    rw [h0]
    refine CT.of [some (.ref r), some (.int k), some (.int i)] rfl (Nat.le_of_ble_eq_true rfl) pl_X7 trivial ?_
    refine px_iload_n dX7_get_0 rfl ?_
    refine px_callS1 (ν := mX7_isList) lk_X7_236 st_X7_isList mok_X7_isList dX7_get_1 (cr_isList _) rfl rfl (by omega) (by simp) ?_
    refine px_ifb_eq (tgt := 39) dX7_get_4 (by decide) (fun hc4 => ?_) (fun hc4 => ?_)
    · refine px_ldc2 dX7_get_39 kc_X7_239 ?_
      exact px_retl dX7_get_42 (by rfl) (by rfl)
    · exact absurd hc4 hk
end M72
