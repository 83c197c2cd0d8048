/-! the reference: calls that change the world or THE TAPE -/
theorem seta_sa (M : MS) (j q : Nat) (g : Nat → Int32) (y : Int32) : (M.seta j g).sa j q y = M.seta j (va_up g q y) := by
  unfold MS.sa MS.seta
  simp only [bx_uu, va_up_self]
theorem WI.give {A : AW} (h : WI A) (k : Nat) (c : Option Int32) : WI (A.give k c) := h
theorem WI.put {A : AW} (h : WI A) {t : Nat} {ru : List (Int32 × Nat)} {rs : Option (List Q4)} (hr : ∀ x, x ∈ ru → x.2 < 100 ∧ (s_asks x.1 = true → x.2 < 24)) : WI (A.put (8 + t) ru rs none) := by
  obtain ⟨h1, h2, rk, h3⟩ := h
  refine ⟨fun k x hx => ?_, fun u hu => ?_, rk, fun u T x hu hT hx h8 => ?_⟩
  · have hx : x ∈ va_up A.ru (8 + t) ru k := hx
    by_cases e : k = 8 + t
    · subst e; rw [va_up_self] at hx; exact hr x hx
    · rw [va_up_ne _ _ e] at hx; exact h1 k x hx
  · show (va_up A.tr (8 + t) none (8 + u) ≠ none → va_up A.rs (8 + t) rs (8 + u) ≠ none) ∧ (va_up A.ru (8 + t) ru (8 + u) = [] → va_up A.tr (8 + t) none (8 + u) = none) ∧ ∀ (T : aAcc) (x : Nat × List Q4), va_up A.tr (8 + t) none (8 + u) = some T → x ∈ T → x.1 < 24
    by_cases e : u = t
    · subst e
      rw [va_up_self A.tr]
      exact ⟨fun h => absurd rfl h, fun _ => rfl, fun T x hT => by cases hT⟩
    · rw [va_up_ne _ _ (by omega), va_up_ne _ _ (by omega), va_up_ne _ _ (by omega)]
      exact h2 u hu
  · have hT : va_up A.tr (8 + t) none (8 + u) = some T := hT
    by_cases e : u = t
    · subst e; rw [va_up_self] at hT; cases hT
    · rw [va_up_ne _ _ (by omega)] at hT
      exact h3 u T x hu hT hx h8
theorem NW.put {bk : BK} {g g' : Nat → Int32} {A : AW} {t : Nat} {ru : List (Int32 × Nat)} {rs : Option (List Q4)} (h : NW bk noX g A) (ht : t < 16) (he : ∀ q, q < 824 → (q < 8 + 25 * t ∨ 8 + 25 * t + 25 ≤ q) → q ≠ 408 + t → (q < 424 + 25 * t ∨ 424 + 25 * t + 25 ≤ q) → g' q = g q) (hl : ru.length ≤ 12) (h0 : g' (8 + 25 * t) = nI ru.length) (hr : ∀ (i : Nat) (x : Int32 × Nat), ru[i]? = some x → g' (8 + 25 * t + (1 + 2 * i)) = x.1 ∧ g' (8 + 25 * t + (2 + 2 * i)) = nI x.2) (hs : CdO bk rs (g' (408 + t))) (hT : g' (424 + 25 * t) = -1) : NW bk noX g' (A.put (8 + t) ru rs none) := by
  obtain ⟨a1, a2, a3, a4⟩ := h
  refine ⟨a1.ag (fun q hq => he q (by omega) (by omega) (by omega) (by omega)), fun u hu => ?_, fun u hu => ?_, fun u hu _ => ?_⟩
  · show (va_up A.ru (8 + t) ru (8 + u)).length ≤ 12 ∧ g' (8 + 25 * u) = nI (va_up A.ru (8 + t) ru (8 + u)).length ∧ ∀ (i : Nat) (x : Int32 × Nat), (va_up A.ru (8 + t) ru (8 + u))[i]? = some x → _
    by_cases e : u = t
    · subst e; rw [va_up_self]; exact ⟨hl, h0, hr⟩
    · rw [va_up_ne _ _ (by omega)]
      obtain ⟨b1, b2, b3⟩ := a2 u hu
      refine ⟨b1, by rw [he _ (by omega) (by omega) (by omega) (by omega)]; exact b2, fun i x hx => ?_⟩
      have hi := (List.getElem?_eq_some_iff.mp hx).1
      rw [he _ (by omega) (by omega) (by omega) (by omega), he _ (by omega) (by omega) (by omega) (by omega)]
      exact b3 i x hx
  · show CdO bk (va_up A.rs (8 + t) rs (8 + u)) _
    by_cases e : u = t
    · subst e; rw [va_up_self]; exact hs
    · rw [va_up_ne _ _ (by omega), he _ (by omega) (by omega) (by omega) (by omega)]
      exact a3 u hu
  · show TrO bk (va_up A.tr (8 + t) none (8 + u)) g' _
    by_cases e : u = t
    · subst e; rw [va_up_self]; exact hT
    · rw [va_up_ne _ _ (by omega)]
      exact (a4 u hu rfl).ag List.prefix_rfl (fun q h1 h2 => he q (by omega) (by omega) (by omega) (by omega))
theorem NW.give {bk : BK} {g : Nat → Int32} {A : AW} {i : Nat} {c : Option Int32} {y : Int32} (h : NW bk noX g A) (hi : i < 8) (hy : match c with | none => y = -1 | some c => s_isContent c.toInt64 = true ∧ y = (c + 1000000) * 2) : NW bk noX (va_up g i y) (A.give i c) := by
  refine ⟨fun j hj => ?_, h.2.1.ag (fun q _ _ => va_up_ne _ _ (by omega)), h.2.2.1.ag List.prefix_rfl (fun q _ _ => va_up_ne _ _ (by omega)), h.2.2.2.ag List.prefix_rfl (fun q _ _ => va_up_ne _ _ (by omega))⟩
  show match va_up A.inn i c j with | none => _ | some c => _
  by_cases e : j = i
  · subst e
    rw [va_up_self, va_up_self]
    exact hy
  · rw [va_up_ne _ _ e, va_up_ne _ _ e]
    exact h.1 j hj
section M67
variable {B : Nat} {D : va_G} {n w r : Nat} {f : Nat → Option va_E} {bk : BK} {M : MS} {C : CS}
theorem m_give (h : RP bk M C) (k v : Int32) : RQ B D n w r f 50 mX7_give [.int k, .int v] bk M (.int (v_give C.1.1.A k v).1) (((((v_give C.1.1.A k v).2, C.1.1.2), C.1.2), C.2)) := by
  by_cases hk : s_isInput k = true
  · obtain ⟨i, hi, rfl⟩ := inI.mp hk
    have hc : s_isInL v.toInt64 (-1000000) 1000000 = s_isContent v.toInt64 := rfl
    by_cases hv : s_isContent v.toInt64 = true
    · rw [hv] at hc
      have hold := h.2.1.1.1 i hi
      have hN := h.2.1.1.give hi (c := some v) (y := (v + 1000000) * 2) ⟨hv, rfl⟩
      have hRP := h.w hN (h.2.1.2.give i (some v))
      have e5 : (M.sa 5 i ((v + 1000000) * 2)).2.1 5 i = (v + 1000000) * 2 := by rw [sa5, va_up_self]
      have hiff : M.2.1 5 i = (v + 1000000) * 2 ↔ C.1.1.A.inn i = some v := by
        cases hin : C.1.1.A.inn i with
        | none =>
          rw [hin] at hold
          obtain ⟨j, j1, -, -, j2⟩ := cn_nI hv
          rw [hold, j2]
          exact ⟨fun e => absurd e.symm (nI_m1 (by omega)), fun e => by cases e⟩
        | some c =>
          rw [hin] at hold
          rw [hold.2]
          have := (Cd.num (bk := bk) hold.1).eq h.1.2.2.1 (Cd.num (bk := bk) hv)
          rw [this]
          unfold numR
          simp
      by_cases hs : C.1.1.A.inn i = some v
      · have h0 : v_give C.1.1.A (nI i) v = (0, C.1.1.A) := by unfold v_give; rw [if_pos hk, if_pos hv, nI_clamp (by omega), if_pos hs]
        have eg : C.1.1.A.give i (some v) = C.1.1.A := by unfold AW.give; rw [← hs, up_id]
        rw [h0]
        rw [eg] at hRP
        refine ⟨_, bk, ?_, hRP, by omega⟩
        refine CT.of [some (.ref r), some (.int (nI i)), some (.int v), none] rfl (Nat.le_of_ble_eq_true rfl) pl_X7 trivial ?_
        refine px_iload_n dX7_give_0 rfl ?_
        refine px_callS1 (ν := mX7_isInput) lk_X7_108 st_X7_isInput mok_X7_isInput dX7_give_1 (cr_isInput _) rfl rfl (by omega) (by simp) ?_
        refine px_ifb_ne (tgt := 9) dX7_give_4 (by decide) (fun hc4 => ?_) (fun hc4 => ?_)
        · refine px_iload_n dX7_give_9 rfl ?_
          refine px_i2l dX7_give_10 ?_
          refine px_ldc2 dX7_give_11 kc_X7_111 ?_
          refine px_ldc2 dX7_give_14 kc_X7_113 ?_
          refine px_callS1 (ν := mX7_isIn) lk_X7_7 st_X7_isIn mok_X7_isIn dX7_give_17 (c_X7_isIn _ _ _) rfl rfl (by omega) (by simp) ?_
          refine px_ifb_ne (tgt := 26) dX7_give_20 (by decide) (fun hc20 => ?_) (fun hc20 => ?_)
          · refine px_aload_n dX7_give_26 rfl ?_
            refine mx_get fl_X7_48 dX7_give_27 rfl ?_
            refine px_iload_n dX7_give_30 rfl ?_
            refine mx_iaload (j := 5) (m := 824) (q := i) dX7_give_31 (by decide) (by first | rfl | (simp (disch := omega) only [li0, li1, li2, li3, li5, li6, li8, li9, li10, li12, li13, li16, li20, li24, li25, li100, li408, li424, li824, nI_add, nI_mul, nI_sub]; first | done | rfl | (congr 1; omega))) (by omega) ?_
            refine px_istore3 rfl dX7_give_32 ?_
            refine px_aload_n dX7_give_33 rfl ?_
            refine mx_get fl_X7_48 dX7_give_34 rfl ?_
            refine px_iload_n dX7_give_37 rfl ?_
            refine px_iload_n dX7_give_38 rfl ?_
            refine px_callS1 (ν := mX7_numberResult) lk_X7_115 st_X7_numberResult mok_X7_numberResult dX7_give_39 (c_X7_numberResult _) rfl rfl (by omega) (by simp) ?_
            refine mx_iastore (j := 5) (m := 824) (q := i) dX7_give_42 (by decide) (by first | rfl | (simp (disch := omega) only [li0, li1, li2, li3, li5, li6, li8, li9, li10, li12, li13, li16, li20, li24, li25, li100, li408, li424, li824, nI_add, nI_mul, nI_sub]; first | done | rfl | (congr 1; omega))) (by omega) ?_
            refine px_iload_n dX7_give_43 rfl ?_
            refine px_aload_n dX7_give_44 rfl ?_
            refine mx_get fl_X7_48 dX7_give_45 rfl ?_
            refine px_iload_n dX7_give_48 rfl ?_
            refine mx_iaload (j := 5) (m := 824) (q := i) dX7_give_49 (by decide) (by first | rfl | (simp (disch := omega) only [li0, li1, li2, li3, li5, li6, li8, li9, li10, li12, li13, li16, li20, li24, li25, li100, li408, li424, li824, nI_add, nI_mul, nI_sub]; first | done | rfl | (congr 1; omega))) (by omega) ?_
            refine px_icmp_ne (tgt := 57) dX7_give_50 (by decide) (fun hc50 => ?_) (fun hc50 => ?_)
            · exact absurd ((hiff.mpr hs).trans e5.symm) hc50
            · refine px_iconst (v := 0) dX7_give_53 (by decide) ?_
              refine px_goto (tgt := 58) dX7_give_54 (by decide) ?_
              exact px_reti dX7_give_58 (by rfl) (by rfl)
          · rw [hc] at hc20; cases hc20
        · rw [hk] at hc4; cases hc4
      · have h0 : v_give C.1.1.A (nI i) v = (1, C.1.1.A.give i (some v)) := by unfold v_give; rw [if_pos hk, if_pos hv, nI_clamp (by omega), if_neg hs]
        rw [h0]
        refine ⟨_, bk, ?_, hRP, by omega⟩
        refine CT.of [some (.ref r), some (.int (nI i)), some (.int v), none] rfl (Nat.le_of_ble_eq_true rfl) pl_X7 trivial ?_
        refine px_iload_n dX7_give_0 rfl ?_
        refine px_callS1 (ν := mX7_isInput) lk_X7_108 st_X7_isInput mok_X7_isInput dX7_give_1 (cr_isInput _) rfl rfl (by omega) (by simp) ?_
        refine px_ifb_ne (tgt := 9) dX7_give_4 (by decide) (fun hc4 => ?_) (fun hc4 => ?_)
        · refine px_iload_n dX7_give_9 rfl ?_
          refine px_i2l dX7_give_10 ?_
          refine px_ldc2 dX7_give_11 kc_X7_111 ?_
          refine px_ldc2 dX7_give_14 kc_X7_113 ?_
          refine px_callS1 (ν := mX7_isIn) lk_X7_7 st_X7_isIn mok_X7_isIn dX7_give_17 (c_X7_isIn _ _ _) rfl rfl (by omega) (by simp) ?_
          refine px_ifb_ne (tgt := 26) dX7_give_20 (by decide) (fun hc20 => ?_) (fun hc20 => ?_)
          · refine px_aload_n dX7_give_26 rfl ?_
            refine mx_get fl_X7_48 dX7_give_27 rfl ?_
            refine px_iload_n dX7_give_30 rfl ?_
            refine mx_iaload (j := 5) (m := 824) (q := i) dX7_give_31 (by decide) (by first | rfl | (simp (disch := omega) only [li0, li1, li2, li3, li5, li6, li8, li9, li10, li12, li13, li16, li20, li24, li25, li100, li408, li424, li824, nI_add, nI_mul, nI_sub]; first | done | rfl | (congr 1; omega))) (by omega) ?_
            refine px_istore3 rfl dX7_give_32 ?_
            refine px_aload_n dX7_give_33 rfl ?_
            refine mx_get fl_X7_48 dX7_give_34 rfl ?_
            refine px_iload_n dX7_give_37 rfl ?_
            refine px_iload_n dX7_give_38 rfl ?_
            refine px_callS1 (ν := mX7_numberResult) lk_X7_115 st_X7_numberResult mok_X7_numberResult dX7_give_39 (c_X7_numberResult _) rfl rfl (by omega) (by simp) ?_
            refine mx_iastore (j := 5) (m := 824) (q := i) dX7_give_42 (by decide) (by first | rfl | (simp (disch := omega) only [li0, li1, li2, li3, li5, li6, li8, li9, li10, li12, li13, li16, li20, li24, li25, li100, li408, li424, li824, nI_add, nI_mul, nI_sub]; first | done | rfl | (congr 1; omega))) (by omega) ?_
            refine px_iload_n dX7_give_43 rfl ?_
            refine px_aload_n dX7_give_44 rfl ?_
            refine mx_get fl_X7_48 dX7_give_45 rfl ?_
            refine px_iload_n dX7_give_48 rfl ?_
            refine mx_iaload (j := 5) (m := 824) (q := i) dX7_give_49 (by decide) (by first | rfl | (simp (disch := omega) only [li0, li1, li2, li3, li5, li6, li8, li9, li10, li12, li13, li16, li20, li24, li25, li100, li408, li424, li824, nI_add, nI_mul, nI_sub]; first | done | rfl | (congr 1; omega))) (by omega) ?_
            refine px_icmp_ne (tgt := 57) dX7_give_50 (by decide) (fun hc50 => ?_) (fun hc50 => ?_)
            · refine px_iconst (v := 1) dX7_give_57 (by decide) ?_
              exact px_reti dX7_give_58 (by rfl) (by rfl)
            · exact absurd (hiff.mp (hc50.trans e5)) hs
          · rw [hc] at hc20; cases hc20
        · rw [hk] at hc4; cases hc4
    · have h0 : v_give C.1.1.A (nI i) v = (-2, C.1.1.A) := by unfold v_give; rw [if_pos hk, if_neg hv]
      rw [h0]
      have hv' : s_isContent v.toInt64 = false := by simpa using hv
      rw [hv'] at hc
      refine RQ.same h ?_
      refine CT.of [some (.ref r), some (.int (nI i)), some (.int v), none] rfl (Nat.le_of_ble_eq_true rfl) pl_X7 trivial ?_
      refine px_iload_n dX7_give_0 rfl ?_
      refine px_callS1 (ν := mX7_isInput) lk_X7_108 st_X7_isInput mok_X7_isInput dX7_give_1 (cr_isInput _) rfl rfl (by omega) (by simp) ?_
      refine px_ifb_ne (tgt := 9) dX7_give_4 (by decide) (fun hc4 => ?_) (fun hc4 => ?_)
      · refine px_iload_n dX7_give_9 rfl ?_
        refine px_i2l dX7_give_10 ?_
        refine px_ldc2 dX7_give_11 kc_X7_111 ?_
        refine px_ldc2 dX7_give_14 kc_X7_113 ?_
        refine px_callS1 (ν := mX7_isIn) lk_X7_7 st_X7_isIn mok_X7_isIn dX7_give_17 (c_X7_isIn _ _ _) rfl rfl (by omega) (by simp) ?_
        refine px_ifb_ne (tgt := 26) dX7_give_20 (by decide) (fun hc20 => ?_) (fun hc20 => ?_)
        · rw [hc] at hc20; cases hc20
        · refine px_bipush (v := (-2)) dX7_give_23 (by decide) ?_
          exact px_reti dX7_give_25 (by rfl) (by rfl)
      · rw [hk] at hc4; cases hc4
  · have h0 : v_give C.1.1.A k v = (-1, C.1.1.A) := by unfold v_give; rw [if_neg hk]
    rw [h0]
    refine RQ.same h ?_
    refine CT.of [some (.ref r), some (.int k), some (.int v), none] rfl (Nat.le_of_ble_eq_true rfl) pl_X7 trivial ?_
    refine px_iload_n dX7_give_0 rfl ?_
    refine px_callS1 (ν := mX7_isInput) lk_X7_108 st_X7_isInput mok_X7_isInput dX7_give_1 (cr_isInput _) rfl rfl (by omega) (by simp) ?_
    refine px_ifb_ne (tgt := 9) dX7_give_4 (by decide) (fun hc4 => ?_) (fun hc4 => ?_)
    · exact absurd hc4 hk
    · refine px_iconst (v := (-1)) dX7_give_7 (by decide) ?_
      exact px_reti dX7_give_8 (by rfl) (by rfl)
theorem m_take (h : RP bk M C) (k : Int32) : RQ B D n w r f 50 mX7_take [.int k] bk M (.int (v_take C.1.1.A k).1) (((((v_take C.1.1.A k).2, C.1.1.2), C.1.2), C.2)) := by
  by_cases hk : s_isInput k = true
  · obtain ⟨i, hi, rfl⟩ := inI.mp hk
    have hold := h.2.1.1.1 i hi
    cases hin : C.1.1.A.inn i with
    | none =>
      rw [hin] at hold
      have h0 : v_take C.1.1.A (nI i) = (-3, C.1.1.A) := by unfold v_take; rw [if_pos hk, nI_clamp (by omega), hin]
      rw [h0]
      have hneg : ¬ (0 : Int32) ≤ M.2.1 5 i := by rw [hold]; decide
      refine RQ.same h ?_
      refine CT.of [some (.ref r), some (.int (nI i)), none] rfl (Nat.le_of_ble_eq_true rfl) pl_X7 trivial ?_
      refine px_iload_n dX7_take_0 rfl ?_
      refine px_callS1 (ν := mX7_isInput) lk_X7_108 st_X7_isInput mok_X7_isInput dX7_take_1 (cr_isInput _) rfl rfl (by omega) (by simp) ?_
      refine px_ifb_ne (tgt := 9) dX7_take_4 (by decide) (fun hc4 => ?_) (fun hc4 => ?_)
      · refine px_aload_n dX7_take_9 rfl ?_
        refine mx_get fl_X7_48 dX7_take_10 rfl ?_
        refine px_iload_n dX7_take_13 rfl ?_
        refine mx_iaload (j := 5) (m := 824) (q := i) dX7_take_14 (by decide) (by first | rfl | (simp (disch := omega) only [li0, li1, li2, li3, li5, li6, li8, li9, li10, li12, li13, li16, li20, li24, li25, li100, li408, li424, li824, nI_add, nI_mul, nI_sub]; first | done | rfl | (congr 1; omega))) (by omega) ?_
        refine px_if_ge (tgt := 21) dX7_take_15 (by decide) (fun hc15 => ?_) (fun hc15 => ?_)
        · exact absurd hc15 hneg
        · refine px_bipush (v := (-3)) dX7_take_18 (by decide) ?_
          exact px_reti dX7_take_20 (by rfl) (by rfl)
      · rw [hk] at hc4; cases hc4
    | some c =>
      rw [hin] at hold
      have h0 : v_take C.1.1.A (nI i) = (c, C.1.1.A.give i none) := by unfold v_take; rw [if_pos hk, nI_clamp (by omega), hin]
      rw [h0]
      have hval := (Cd.num (bk := bk) hold.1).val (by simp [numR]) rfl
      have hv : M.2.1 5 i / 2 - 1000000 = c := by rw [hold.2]; exact hval.1
      have hpos : (0 : Int32) ≤ M.2.1 5 i := Int32.not_lt.mp (by rw [hold.2]; exact (Cd.num (bk := bk) hold.1).ne (by simp [numR]))
      refine ⟨_, bk, ?_, h.w (h.2.1.1.give hi (c := none) (y := -1) rfl) (h.2.1.2.give i none), by omega⟩
      refine CT.of [some (.ref r), some (.int (nI i)), none] rfl (Nat.le_of_ble_eq_true rfl) pl_X7 trivial ?_
      refine px_iload_n dX7_take_0 rfl ?_
      refine px_callS1 (ν := mX7_isInput) lk_X7_108 st_X7_isInput mok_X7_isInput dX7_take_1 (cr_isInput _) rfl rfl (by omega) (by simp) ?_
      refine px_ifb_ne (tgt := 9) dX7_take_4 (by decide) (fun hc4 => ?_) (fun hc4 => ?_)
      · refine px_aload_n dX7_take_9 rfl ?_
        refine mx_get fl_X7_48 dX7_take_10 rfl ?_
        refine px_iload_n dX7_take_13 rfl ?_
        refine mx_iaload (j := 5) (m := 824) (q := i) dX7_take_14 (by decide) (by first | rfl | (simp (disch := omega) only [li0, li1, li2, li3, li5, li6, li8, li9, li10, li12, li13, li16, li20, li24, li25, li100, li408, li424, li824, nI_add, nI_mul, nI_sub]; first | done | rfl | (congr 1; omega))) (by omega) ?_
        refine px_if_ge (tgt := 21) dX7_take_15 (by decide) (fun hc15 => ?_) (fun hc15 => ?_)
        · refine px_aload_n dX7_take_21 rfl ?_
          refine mx_get fl_X7_48 dX7_take_22 rfl ?_
          refine px_iload_n dX7_take_25 rfl ?_
          refine mx_iaload (j := 5) (m := 824) (q := i) dX7_take_26 (by decide) (by first | rfl | (simp (disch := omega) only [li0, li1, li2, li3, li5, li6, li8, li9, li10, li12, li13, li16, li20, li24, li25, li100, li408, li424, li824, nI_add, nI_mul, nI_sub]; first | done | rfl | (congr 1; omega))) (by omega) ?_
          refine px_callS1 (ν := mX7_numberOf) lk_X7_38 st_X7_numberOf mok_X7_numberOf dX7_take_27 (c_X7_numberOf _) rfl rfl (by omega) (by simp) ?_
          refine px_istore2 rfl dX7_take_30 ?_
          refine px_aload_n dX7_take_31 rfl ?_
          refine mx_get fl_X7_48 dX7_take_32 rfl ?_
          refine px_iload_n dX7_take_35 rfl ?_
          refine px_iconst (v := (-1)) dX7_take_36 (by decide) ?_
          refine mx_iastore (j := 5) (m := 824) (q := i) dX7_take_37 (by decide) (by first | rfl | (simp (disch := omega) only [li0, li1, li2, li3, li5, li6, li8, li9, li10, li12, li13, li16, li20, li24, li25, li100, li408, li424, li824, nI_add, nI_mul, nI_sub]; first | done | rfl | (congr 1; omega))) (by omega) ?_
          refine px_iload_n dX7_take_38 rfl ?_
          exact px_reti dX7_take_39 (by rw [hv]) (by rfl)
        · exact absurd hpos hc15
      · rw [hk] at hc4; cases hc4
  · have h0 : v_take C.1.1.A k = (-1, C.1.1.A) := by unfold v_take; rw [if_neg hk]
    rw [h0]
    refine RQ.same h ?_
    refine CT.of [some (.ref r), some (.int k), none] rfl (Nat.le_of_ble_eq_true rfl) pl_X7 trivial ?_
    refine px_iload_n dX7_take_0 rfl ?_
    refine px_callS1 (ν := mX7_isInput) lk_X7_108 st_X7_isInput mok_X7_isInput dX7_take_1 (cr_isInput _) rfl rfl (by omega) (by simp) ?_
    refine px_ifb_ne (tgt := 9) dX7_take_4 (by decide) (fun hc4 => ?_) (fun hc4 => ?_)
    · exact absurd hc4 hk
    · refine px_iconst (v := (-1)) dX7_take_7 (by decide) ?_
      exact px_reti dX7_take_8 (by rfl) (by rfl)
theorem m_drop (h : RP bk M C) (k : Int32) : RQ B D n w r f 50 mX7_drop [.int k] bk M (.int (v_drop C.1.1.A k).1) (((((v_drop C.1.1.A k).2, C.1.1.2), C.1.2), C.2)) := by
  by_cases hk : s_isTarget k = true
  · obtain ⟨t, ht, rfl⟩ := inT.mp hk
    obtain ⟨r1, r2, r3⟩ := h.2.1.1.2.1 t ht
    have r2' : M.2.1 5 (8 + 25 * t + 0) = nI (C.1.1.A.ru (8 + t)).length := r2
    by_cases hem : (C.1.1.A.ru (8 + t)).isEmpty = true
    · have h0 : v_drop C.1.1.A (nI (8 + t)) = (-3, C.1.1.A) := by unfold v_drop; rw [if_pos hk, nI_clamp (by omega), if_pos hem]
      rw [h0]
      have hz : nI (C.1.1.A.ru (8 + t)).length = 0 := by rw [List.isEmpty_iff.mp hem]; rfl
      refine RQ.same h ?_
      refine CT.of [some (.ref r), some (.int (nI (8 + t))), none] rfl (Nat.le_of_ble_eq_true rfl) pl_X7 trivial ?_
      refine px_iload_n dX7_drop_0 rfl ?_
      refine px_callS1 (ν := mX7_isTarget) lk_X7_101 st_X7_isTarget mok_X7_isTarget dX7_drop_1 (cr_isTarget _) rfl rfl (by omega) (by simp) ?_
      refine px_ifb_ne (tgt := 9) dX7_drop_4 (by decide) (fun hc4 => ?_) (fun hc4 => ?_)
      · refine px_aload_n dX7_drop_9 rfl ?_
        refine px_iload_n dX7_drop_10 rfl ?_
        refine px_iconst (v := 0) dX7_drop_11 (by decide) ?_
        refine px_callV1 (ν := mX7_ruled) (ci := 7) rfl rfl lk_X7_140 in_X7_ruled se_X7_ruled mok_X7_ruled dX7_drop_12 (c_X7_ruled ht (q := 0) rfl (by omega)) (by exact mH_0) rfl rfl (by omega) (by simp) ?_
        rw [r2']
        refine px_istore2 rfl dX7_drop_15 ?_
        refine px_iload_n dX7_drop_16 rfl ?_
        refine px_if_ne (tgt := 23) dX7_drop_17 (by decide) (fun hc17 => ?_) (fun hc17 => ?_)
        · exact absurd hz hc17
        · refine px_bipush (v := (-3)) dX7_drop_20 (by decide) ?_
          exact px_reti dX7_drop_22 (by rfl) (by rfl)
      · rw [hk] at hc4; cases hc4
    · have h0 : v_drop C.1.1.A (nI (8 + t)) = (nI (C.1.1.A.ru (8 + t)).length, C.1.1.A.put (8 + t) [] (C.1.1.A.rs (8 + t)) none) := by unfold v_drop; rw [if_pos hk, nI_clamp (by omega), if_neg hem]
      rw [h0]
      have hz : ¬ nI (C.1.1.A.ru (8 + t)).length = 0 := nI_ne0 (by cases hr : C.1.1.A.ru (8 + t) with | nil => rw [hr] at hem; exact absurd rfl hem | cons a l => simp) (by omega)
      have eM : (M.sa 5 (8 + 25 * t) 0).sa 5 (424 + 25 * t) (-1) = M.seta 5 (va_up (va_up (M.2.1 5) (8 + 25 * t) 0) (424 + 25 * t) (-1)) := seta_sa _ _ _ _ _
      have hN : NW bk noX (va_up (va_up (M.2.1 5) (8 + 25 * t) 0) (424 + 25 * t) (-1)) (C.1.1.A.put (8 + t) [] (C.1.1.A.rs (8 + t)) none) := h.2.1.1.put ht (fun q h1 h2 h3 h4 => by rw [va_up_ne _ _ (by omega), va_up_ne _ _ (by omega)]) (by simp) (by rw [va_up_ne _ _ (by omega), va_up_self]; rfl) (fun i x hx => by simp at hx) (by rw [va_up_ne _ _ (by omega), va_up_ne _ _ (by omega)]; exact h.2.1.1.2.2.1 t ht) (va_up_self _ _ _)
      refine ⟨(M.sa 5 (8 + 25 * t) 0).sa 5 (424 + 25 * t) (-1), bk, ?_, by rw [eM]; exact h.w hN (h.2.1.2.put (fun x hx => by cases hx)), by omega⟩
      refine CT.of [some (.ref r), some (.int (nI (8 + t))), none] rfl (Nat.le_of_ble_eq_true rfl) pl_X7 trivial ?_
      refine px_iload_n dX7_drop_0 rfl ?_
      refine px_callS1 (ν := mX7_isTarget) lk_X7_101 st_X7_isTarget mok_X7_isTarget dX7_drop_1 (cr_isTarget _) rfl rfl (by omega) (by simp) ?_
      refine px_ifb_ne (tgt := 9) dX7_drop_4 (by decide) (fun hc4 => ?_) (fun hc4 => ?_)
      · refine px_aload_n dX7_drop_9 rfl ?_
        refine px_iload_n dX7_drop_10 rfl ?_
        refine px_iconst (v := 0) dX7_drop_11 (by decide) ?_
        refine px_callV1 (ν := mX7_ruled) (ci := 7) rfl rfl lk_X7_140 in_X7_ruled se_X7_ruled mok_X7_ruled dX7_drop_12 (c_X7_ruled ht (q := 0) rfl (by omega)) (by exact mH_0) rfl rfl (by omega) (by simp) ?_
        rw [r2']
        refine px_istore2 rfl dX7_drop_15 ?_
        refine px_iload_n dX7_drop_16 rfl ?_
        refine px_if_ne (tgt := 23) dX7_drop_17 (by decide) (fun hc17 => ?_) (fun hc17 => ?_)
        · refine px_aload_n dX7_drop_23 rfl ?_
          refine mx_get fl_X7_48 dX7_drop_24 rfl ?_
          refine px_bipush (v := 8) dX7_drop_27 (by decide) ?_
          refine px_bipush (v := 25) dX7_drop_29 (by decide) ?_
          refine px_iload_n dX7_drop_31 rfl ?_
          refine px_bipush (v := 8) dX7_drop_32 (by decide) ?_
          refine px_isub dX7_drop_34 ?_
          refine px_imul dX7_drop_35 ?_
          refine px_iadd dX7_drop_36 ?_
          refine px_iconst (v := 0) dX7_drop_37 (by decide) ?_
          refine mx_iastore (j := 5) (m := 824) (q := 8 + 25 * t) dX7_drop_38 (by decide) (by first | rfl | (simp (disch := omega) only [li0, li1, li2, li3, li5, li6, li8, li9, li10, li12, li13, li16, li20, li24, li25, li100, li408, li424, li824, nI_add, nI_mul, nI_sub]; first | done | rfl | (congr 1; omega))) (by omega) ?_
          refine px_aload_n dX7_drop_39 rfl ?_
          refine mx_get fl_X7_48 dX7_drop_40 rfl ?_
          refine px_aload_n dX7_drop_43 rfl ?_
          refine px_iload_n dX7_drop_44 rfl ?_
          refine px_callV1 (ν := mX7_traceAt) (ci := 7) rfl rfl lk_X7_98 in_X7_traceAt se_X7_traceAt mok_X7_traceAt dX7_drop_45 (c_X7_traceAt ht) (by exact mH_0) rfl rfl (by omega) (by simp) ?_
          refine px_iconst (v := (-1)) dX7_drop_48 (by decide) ?_
          refine mx_iastore (j := 5) (m := 824) (q := 424 + 25 * t) dX7_drop_49 (by decide) (by first | rfl | (simp (disch := omega) only [li0, li1, li2, li3, li5, li6, li8, li9, li10, li12, li13, li16, li20, li24, li25, li100, li408, li424, li824, nI_add, nI_mul, nI_sub]; first | done | rfl | (congr 1; omega))) (by omega) ?_
          refine px_iload_n dX7_drop_50 rfl ?_
          exact px_reti dX7_drop_51 (by rfl) (by rfl)
        · exact absurd hc17 hz
      · rw [hk] at hc4; cases hc4
  · have h0 : v_drop C.1.1.A k = (-1, C.1.1.A) := by unfold v_drop; rw [if_neg hk]
    rw [h0]
    refine RQ.same h ?_
    refine CT.of [some (.ref r), some (.int k), none] rfl (Nat.le_of_ble_eq_true rfl) pl_X7 trivial ?_
    refine px_iload_n dX7_drop_0 rfl ?_
    refine px_callS1 (ν := mX7_isTarget) lk_X7_101 st_X7_isTarget mok_X7_isTarget dX7_drop_1 (cr_isTarget _) rfl rfl (by omega) (by simp) ?_
    refine px_ifb_ne (tgt := 9) dX7_drop_4 (by decide) (fun hc4 => ?_) (fun hc4 => ?_)
    · exact absurd hc4 hk
    · refine px_iconst (v := (-1)) dX7_drop_7 (by decide) ?_
      exact px_reti dX7_drop_8 (by rfl) (by rfl)
theorem m_forget (h : RP bk M C) (k : Int32) : RQ B D n w r f 50 mX7_forget [.int k] bk M (.int (v_forget C.1.1.A k).1) (((((v_forget C.1.1.A k).2, C.1.1.2), C.1.2), C.2)) := by
  by_cases hk : s_isTarget k = true
  · obtain ⟨t, ht, rfl⟩ := inT.mp hk
    have h0 : v_forget C.1.1.A (nI (8 + t)) = (bi ((C.1.1.A.rs (8 + t)).isSome || (C.1.1.A.tr (8 + t)).isSome), C.1.1.A.put (8 + t) (C.1.1.A.ru (8 + t)) none none) := by unfold v_forget; rw [if_pos hk, nI_clamp (by omega)]
    rw [h0]
    obtain ⟨r1, r2, r3⟩ := h.2.1.1.2.1 t ht
    have hs := h.2.1.1.2.2.1 t ht
    have hT := h.2.1.1.2.2.2 t ht rfl
    have s1 : (0 : Int32) ≤ M.2.1 5 (408 + t) ↔ (C.1.1.A.rs (8 + t)).isSome = true := by
      cases hr : C.1.1.A.rs (8 + t) with
      | none => rw [hr] at hs; have hs : M.2.1 5 (408 + t) = -1 := hs; rw [hs]; exact ⟨fun e => absurd e (by decide), fun e => by cases e⟩
      | some l => rw [hr] at hs; exact ⟨fun _ => rfl, fun _ => Int32.not_lt.mp (hs.2.ne hs.1)⟩
    have s2 : M.2.1 5 (424 + 25 * t) < 0 ↔ (C.1.1.A.tr (8 + t)).isSome = false := by
      cases hr : C.1.1.A.tr (8 + t) with
      | none => rw [hr] at hT; have hT : M.2.1 5 (424 + 25 * t) = -1 := hT; rw [hT]; exact ⟨fun _ => rfl, fun _ => by decide⟩
      | some l => rw [hr] at hT; have h12 := hT.1; rw [hT.2.1]; exact ⟨fun e => absurd e (nI_pos (by omega)), fun e => by cases e⟩
    have eM : (M.sa 5 (408 + t) (-1)).sa 5 (424 + 25 * t) (-1) = M.seta 5 (va_up (va_up (M.2.1 5) (408 + t) (-1)) (424 + 25 * t) (-1)) := seta_sa _ _ _ _ _
    have hN : NW bk noX (va_up (va_up (M.2.1 5) (408 + t) (-1)) (424 + 25 * t) (-1)) (C.1.1.A.put (8 + t) (C.1.1.A.ru (8 + t)) none none) := h.2.1.1.put ht (fun q h1 h2 h3 h4 => by rw [va_up_ne _ _ (by omega), va_up_ne _ _ (by omega)]) r1 (by rw [va_up_ne _ _ (by omega), va_up_ne _ _ (by omega)]; exact r2) (fun i x hx => by have := (List.getElem?_eq_some_iff.mp hx).1; rw [va_up_ne _ _ (by omega), va_up_ne _ _ (by omega), va_up_ne _ _ (by omega), va_up_ne _ _ (by omega)]; exact r3 i x hx) (by rw [va_up_ne _ _ (by omega), va_up_self]; rfl) (va_up_self _ _ _)
    refine ⟨(M.sa 5 (408 + t) (-1)).sa 5 (424 + 25 * t) (-1), bk, ?_, by rw [eM]; exact h.w hN (h.2.1.2.put (fun x hx => h.2.1.2.1 _ x hx)), by omega⟩
    have z1 : (0 : Int32) ≤ M.2.1 5 (408 + t) → ((C.1.1.A.rs (8 + t)).isSome || (C.1.1.A.tr (8 + t)).isSome) = true := fun e => by rw [s1.mp e]; rfl
    have z2 : ¬ M.2.1 5 (424 + 25 * t) < 0 → ((C.1.1.A.rs (8 + t)).isSome || (C.1.1.A.tr (8 + t)).isSome) = true := fun e => by
      cases ht : (C.1.1.A.tr (8 + t)).isSome with
      | true => simp
      | false => exact absurd (s2.mpr ht) e
    have z3 : ¬ (0 : Int32) ≤ M.2.1 5 (408 + t) → M.2.1 5 (424 + 25 * t) < 0 → ((C.1.1.A.rs (8 + t)).isSome || (C.1.1.A.tr (8 + t)).isSome) = false := fun e1 e2 => by
      cases hr : (C.1.1.A.rs (8 + t)).isSome with
      | true => exact absurd (s1.mpr hr) e1
      | false => rw [s2.mp e2]; rfl
    refine CT.of [some (.ref r), some (.int (nI (8 + t))), none] rfl (Nat.le_of_ble_eq_true rfl) pl_X7 trivial ?_
    refine px_iload_n dX7_forget_0 rfl ?_
    refine px_callS1 (ν := mX7_isTarget) lk_X7_101 st_X7_isTarget mok_X7_isTarget dX7_forget_1 (cr_isTarget _) rfl rfl (by omega) (by simp) ?_
    refine px_ifb_ne (tgt := 9) dX7_forget_4 (by decide) (fun hc4 => ?_) (fun hc4 => ?_)
    · refine px_aload_n dX7_forget_9 rfl ?_
      refine px_iload_n dX7_forget_10 rfl ?_
      refine px_callV1 (ν := mX7_has) (ci := 7) rfl rfl lk_X7_156 in_X7_has se_X7_has mok_X7_has dX7_forget_11 (c_X7_has_t ht) (by exact mH_0) rfl rfl (by omega) (by simp) ?_
      refine px_if_ge (tgt := 25) dX7_forget_14 (by decide) (fun hc14 => ?_) (fun hc14 => ?_)
      · refine px_iconst (v := 1) dX7_forget_25 (by decide) ?_
        refine px_goto (tgt := 30) dX7_forget_26 (by decide) ?_
        refine px_istore2 rfl dX7_forget_30 ?_
        refine px_aload_n dX7_forget_31 rfl ?_
        refine mx_get fl_X7_48 dX7_forget_32 rfl ?_
        refine px_sipush (v := 408) dX7_forget_35 (by decide) ?_
        refine px_iload_n dX7_forget_38 rfl ?_
        refine px_iadd dX7_forget_39 ?_
        refine px_bipush (v := 8) dX7_forget_40 (by decide) ?_
        refine px_isub dX7_forget_42 ?_
        refine px_iconst (v := (-1)) dX7_forget_43 (by decide) ?_
        refine mx_iastore (j := 5) (m := 824) (q := 408 + t) dX7_forget_44 (by decide) (by first | rfl | (simp (disch := omega) only [li0, li1, li2, li3, li5, li6, li8, li9, li10, li12, li13, li16, li20, li24, li25, li100, li408, li424, li824, nI_add, nI_mul, nI_sub]; first | done | rfl | (congr 1; omega))) (by omega) ?_
        refine px_aload_n dX7_forget_45 rfl ?_
        refine mx_get fl_X7_48 dX7_forget_46 rfl ?_
        refine px_aload_n dX7_forget_49 rfl ?_
        refine px_iload_n dX7_forget_50 rfl ?_
        refine px_callV1 (ν := mX7_traceAt) (ci := 7) rfl rfl lk_X7_98 in_X7_traceAt se_X7_traceAt mok_X7_traceAt dX7_forget_51 (c_X7_traceAt ht) (by exact mH_0) rfl rfl (by omega) (by simp) ?_
        refine px_iconst (v := (-1)) dX7_forget_54 (by decide) ?_
        refine mx_iastore (j := 5) (m := 824) (q := 424 + 25 * t) dX7_forget_55 (by decide) (by first | rfl | (simp (disch := omega) only [li0, li1, li2, li3, li5, li6, li8, li9, li10, li12, li13, li16, li20, li24, li25, li100, li408, li424, li824, nI_add, nI_mul, nI_sub]; first | done | rfl | (congr 1; omega))) (by omega) ?_
        refine px_iload_n dX7_forget_56 rfl ?_
        refine px_if_eq (tgt := 64) dX7_forget_57 (by decide) (fun hc57 => ?_) (fun hc57 => ?_)
        · refine px_iconst (v := 0) dX7_forget_64 (by decide) ?_
          exact px_reti dX7_forget_65 (by first | exact absurd rfl hc57 | exact absurd hc57 (by decide) | (rw [z1 hc14]; rfl) | (rw [z2 hc22]; rfl) | (rw [z3 hc14 hc22]; rfl)) (by rfl)
        · refine px_iconst (v := 1) dX7_forget_60 (by decide) ?_
          refine px_goto (tgt := 65) dX7_forget_61 (by decide) ?_
          exact px_reti dX7_forget_65 (by first | exact absurd rfl hc57 | exact absurd hc57 (by decide) | (rw [z1 hc14]; rfl) | (rw [z2 hc22]; rfl) | (rw [z3 hc14 hc22]; rfl)) (by rfl)
      · refine px_aload_n dX7_forget_17 rfl ?_
        refine px_iload_n dX7_forget_18 rfl ?_
        refine px_callV1 (ν := mX7_traced) (ci := 7) rfl rfl lk_X7_147 in_X7_traced se_X7_traced mok_X7_traced dX7_forget_19 (c_X7_traced ht) (by exact mH_0) rfl rfl (by omega) (by simp) ?_
        refine px_if_lt (tgt := 29) dX7_forget_22 (by decide) (fun hc22 => ?_) (fun hc22 => ?_)
        · refine px_iconst (v := 0) dX7_forget_29 (by decide) ?_
          refine px_istore2 rfl dX7_forget_30 ?_
          refine px_aload_n dX7_forget_31 rfl ?_
          refine mx_get fl_X7_48 dX7_forget_32 rfl ?_
          refine px_sipush (v := 408) dX7_forget_35 (by decide) ?_
          refine px_iload_n dX7_forget_38 rfl ?_
          refine px_iadd dX7_forget_39 ?_
          refine px_bipush (v := 8) dX7_forget_40 (by decide) ?_
          refine px_isub dX7_forget_42 ?_
          refine px_iconst (v := (-1)) dX7_forget_43 (by decide) ?_
          refine mx_iastore (j := 5) (m := 824) (q := 408 + t) dX7_forget_44 (by decide) (by first | rfl | (simp (disch := omega) only [li0, li1, li2, li3, li5, li6, li8, li9, li10, li12, li13, li16, li20, li24, li25, li100, li408, li424, li824, nI_add, nI_mul, nI_sub]; first | done | rfl | (congr 1; omega))) (by omega) ?_
          refine px_aload_n dX7_forget_45 rfl ?_
          refine mx_get fl_X7_48 dX7_forget_46 rfl ?_
          refine px_aload_n dX7_forget_49 rfl ?_
          refine px_iload_n dX7_forget_50 rfl ?_
          refine px_callV1 (ν := mX7_traceAt) (ci := 7) rfl rfl lk_X7_98 in_X7_traceAt se_X7_traceAt mok_X7_traceAt dX7_forget_51 (c_X7_traceAt ht) (by exact mH_0) rfl rfl (by omega) (by simp) ?_
          refine px_iconst (v := (-1)) dX7_forget_54 (by decide) ?_
          refine mx_iastore (j := 5) (m := 824) (q := 424 + 25 * t) dX7_forget_55 (by decide) (by first | rfl | (simp (disch := omega) only [li0, li1, li2, li3, li5, li6, li8, li9, li10, li12, li13, li16, li20, li24, li25, li100, li408, li424, li824, nI_add, nI_mul, nI_sub]; first | done | rfl | (congr 1; omega))) (by omega) ?_
          refine px_iload_n dX7_forget_56 rfl ?_
          refine px_if_eq (tgt := 64) dX7_forget_57 (by decide) (fun hc57 => ?_) (fun hc57 => ?_)
          · refine px_iconst (v := 0) dX7_forget_64 (by decide) ?_
            exact px_reti dX7_forget_65 (by first | exact absurd rfl hc57 | exact absurd hc57 (by decide) | (rw [z1 hc14]; rfl) | (rw [z2 hc22]; rfl) | (rw [z3 hc14 hc22]; rfl)) (by rfl)
          · refine px_iconst (v := 1) dX7_forget_60 (by decide) ?_
            refine px_goto (tgt := 65) dX7_forget_61 (by decide) ?_
            exact px_reti dX7_forget_65 (by first | exact absurd rfl hc57 | exact absurd hc57 (by decide) | (rw [z1 hc14]; rfl) | (rw [z2 hc22]; rfl) | (rw [z3 hc14 hc22]; rfl)) (by rfl)
        · refine px_iconst (v := 1) dX7_forget_25 (by decide) ?_
          refine px_goto (tgt := 30) dX7_forget_26 (by decide) ?_
          refine px_istore2 rfl dX7_forget_30 ?_
          refine px_aload_n dX7_forget_31 rfl ?_
          refine mx_get fl_X7_48 dX7_forget_32 rfl ?_
          refine px_sipush (v := 408) dX7_forget_35 (by decide) ?_
          refine px_iload_n dX7_forget_38 rfl ?_
          refine px_iadd dX7_forget_39 ?_
          refine px_bipush (v := 8) dX7_forget_40 (by decide) ?_
          refine px_isub dX7_forget_42 ?_
          refine px_iconst (v := (-1)) dX7_forget_43 (by decide) ?_
          refine mx_iastore (j := 5) (m := 824) (q := 408 + t) dX7_forget_44 (by decide) (by first | rfl | (simp (disch := omega) only [li0, li1, li2, li3, li5, li6, li8, li9, li10, li12, li13, li16, li20, li24, li25, li100, li408, li424, li824, nI_add, nI_mul, nI_sub]; first | done | rfl | (congr 1; omega))) (by omega) ?_
          refine px_aload_n dX7_forget_45 rfl ?_
          refine mx_get fl_X7_48 dX7_forget_46 rfl ?_
          refine px_aload_n dX7_forget_49 rfl ?_
          refine px_iload_n dX7_forget_50 rfl ?_
          refine px_callV1 (ν := mX7_traceAt) (ci := 7) rfl rfl lk_X7_98 in_X7_traceAt se_X7_traceAt mok_X7_traceAt dX7_forget_51 (c_X7_traceAt ht) (by exact mH_0) rfl rfl (by omega) (by simp) ?_
          refine px_iconst (v := (-1)) dX7_forget_54 (by decide) ?_
          refine mx_iastore (j := 5) (m := 824) (q := 424 + 25 * t) dX7_forget_55 (by decide) (by first | rfl | (simp (disch := omega) only [li0, li1, li2, li3, li5, li6, li8, li9, li10, li12, li13, li16, li20, li24, li25, li100, li408, li424, li824, nI_add, nI_mul, nI_sub]; first | done | rfl | (congr 1; omega))) (by omega) ?_
          refine px_iload_n dX7_forget_56 rfl ?_
          refine px_if_eq (tgt := 64) dX7_forget_57 (by decide) (fun hc57 => ?_) (fun hc57 => ?_)
          · refine px_iconst (v := 0) dX7_forget_64 (by decide) ?_
            exact px_reti dX7_forget_65 (by first | exact absurd rfl hc57 | exact absurd hc57 (by decide) | (rw [z1 hc14]; rfl) | (rw [z2 hc22]; rfl) | (rw [z3 hc14 hc22]; rfl)) (by rfl)
          · refine px_iconst (v := 1) dX7_forget_60 (by decide) ?_
            refine px_goto (tgt := 65) dX7_forget_61 (by decide) ?_
            exact px_reti dX7_forget_65 (by first | exact absurd rfl hc57 | exact absurd hc57 (by decide) | (rw [z1 hc14]; rfl) | (rw [z2 hc22]; rfl) | (rw [z3 hc14 hc22]; rfl)) (by rfl)
    · rw [hk] at hc4; cases hc4
  · have h0 : v_forget C.1.1.A k = (-1, C.1.1.A) := by unfold v_forget; rw [if_neg hk]
    rw [h0]
    refine RQ.same h ?_
    refine CT.of [some (.ref r), some (.int k), none] rfl (Nat.le_of_ble_eq_true rfl) pl_X7 trivial ?_
    refine px_iload_n dX7_forget_0 rfl ?_
    refine px_callS1 (ν := mX7_isTarget) lk_X7_101 st_X7_isTarget mok_X7_isTarget dX7_forget_1 (cr_isTarget _) rfl rfl (by omega) (by simp) ?_
    refine px_ifb_ne (tgt := 9) dX7_forget_4 (by decide) (fun hc4 => ?_) (fun hc4 => ?_)
    · exact absurd hc4 hk
    · refine px_iconst (v := (-1)) dX7_forget_7 (by decide) ?_
      exact px_reti dX7_forget_8 (by rfl) (by rfl)
theorem sin_f (k : Int32) : s_isInL k.toInt64 1 127 = !decide (k < 1 ∨ 127 < k) := by
  rw [sin_lt (x := 1) (y := 127) (by decide) (by decide), Bool.eq_iff_iff]
  simp only [Bool.and_eq_true, Bool.not_eq_true', decide_eq_true_eq, decide_eq_false_iff_not, Int32.lt_iff_toInt_lt]
  rw [show (1 : Int32).toInt = 1 by decide, show (127 : Int32).toInt = 127 by decide]
  omega
theorem m_feed (h : RP bk M C) (x : Int32) : RQ B D n w r f 50 mX7_feed [.int x] bk M (.int (v_feed C.2.2.1 x).1) (C.1, (C.2.1, ((v_feed C.2.2.1 x).2, C.2.2.2))) := by
  have hf := sin_f x
  have h10 := h.2.2.2.2.1.1
  have hl := h.2.2.2.2.1.2.1
  by_cases hx : x < 1 ∨ 127 < x
  · have h0 : v_feed C.2.2.1 x = (-2, C.2.2.1) := by unfold v_feed; rw [if_pos hx]
    rw [h0]
    rw [decide_eq_true hx] at hf
    refine RQ.same h ?_
    refine CT.of [some (.ref r), some (.int x)] rfl (Nat.le_of_ble_eq_true rfl) pl_X7 trivial ?_
    refine px_iload_n dX7_feed_0 rfl ?_
    refine px_i2l dX7_feed_1 ?_
    refine px_lconst (v := 1) dX7_feed_2 (by decide) ?_
    refine px_ldc2 dX7_feed_3 kc_X7_118 ?_
    refine px_callS1 (ν := mX7_isIn) lk_X7_7 st_X7_isIn mok_X7_isIn dX7_feed_6 (c_X7_isIn _ _ _) rfl rfl (by omega) (by simp) ?_
    refine px_ifb_ne (tgt := 15) dX7_feed_9 (by decide) (fun hc9 => ?_) (fun hc9 => ?_)
    · rw [hf] at hc9; cases hc9
    · refine px_bipush (v := (-2)) dX7_feed_12 (by decide) ?_
      exact px_reti dX7_feed_14 (by rfl) (by rfl)
  · rw [decide_eq_false hx] at hf
    by_cases h50 : C.2.2.1.1 < 50
    · have h0 : v_feed C.2.2.1 x = (nI (C.2.2.1.1 + 1), (C.2.2.1.1 + 1, va_up C.2.2.1.2 C.2.2.1.1 x)) := by unfold v_feed; rw [if_neg hx, if_pos h50]
      rw [h0]
      have hn50 : ¬ M.1 10 = 50 := by rw [h10]; exact fun e => by have := nI_inj (a := C.2.2.1.1) (b := 50) (by omega) (by omega) e; omega
      have ev : M.1 10 + 1 = nI (C.2.2.1.1 + 1) := by rw [h10, nI_1]
      have hb := h.1
      obtain ⟨h1, h2, h3, h4, h7, h8⟩ := h
      refine ⟨(M.sa 8 C.2.2.1.1 x).sets 10 (M.1 10 + 1), bk, ?_, ⟨h1.of rfl (fun j a b => va_up_ne _ _ (by omega)), h2, h3, h4, ⟨ev, by show C.2.2.1.1 + 1 ≤ 50; omega, fun i hi => ?_⟩, h8⟩, by omega⟩
      · refine CT.of [some (.ref r), some (.int x)] rfl (Nat.le_of_ble_eq_true rfl) pl_X7 trivial ?_
        refine px_iload_n dX7_feed_0 rfl ?_
        refine px_i2l dX7_feed_1 ?_
        refine px_lconst (v := 1) dX7_feed_2 (by decide) ?_
        refine px_ldc2 dX7_feed_3 kc_X7_118 ?_
        refine px_callS1 (ν := mX7_isIn) lk_X7_7 st_X7_isIn mok_X7_isIn dX7_feed_6 (c_X7_isIn _ _ _) rfl rfl (by omega) (by simp) ?_
        refine px_ifb_ne (tgt := 15) dX7_feed_9 (by decide) (fun hc9 => ?_) (fun hc9 => ?_)
        · refine px_aload_n dX7_feed_15 rfl ?_
          refine mx_get fl_X7_120 dX7_feed_16 rfl ?_
          refine px_bipush (v := 50) dX7_feed_19 (by decide) ?_
          refine px_icmp_ne (tgt := 27) dX7_feed_21 (by decide) (fun hc21 => ?_) (fun hc21 => ?_)
          · refine px_aload_n dX7_feed_27 rfl ?_
            refine mx_get fl_X7_57 dX7_feed_28 rfl ?_
            refine px_aload_n dX7_feed_31 rfl ?_
            refine mx_get fl_X7_120 dX7_feed_32 rfl ?_
            refine px_iload_n dX7_feed_35 rfl ?_
            refine mx_iastore (j := 8) (m := 50) (q := C.2.2.1.1) dX7_feed_36 (by decide) (by exact h10) (by omega) ?_
            refine px_aload_n dX7_feed_37 rfl ?_
            refine px_dup dX7_feed_38 rfl ?_
            refine mx_get fl_X7_120 dX7_feed_39 rfl ?_
            refine px_iconst (v := 1) dX7_feed_42 (by decide) ?_
            refine px_iadd dX7_feed_43 ?_
            refine mx_put fp_X7_120 dX7_feed_44 rfl rfl (by decide) rfl ?_
            refine px_aload_n dX7_feed_47 rfl ?_
            refine mx_get fl_X7_120 dX7_feed_48 rfl ?_
            exact px_reti dX7_feed_51 (by rw [← ev]; rfl) (by rfl)
          · exact absurd hc21 hn50
        · rw [hf] at hc9; cases hc9
      · show va_up (M.2.1 8) C.2.2.1.1 x i = va_up C.2.2.1.2 C.2.2.1.1 x i
        have hi : i < C.2.2.1.1 + 1 := hi
        by_cases e : i = C.2.2.1.1
        · subst e; rw [va_up_self, va_up_self]
        · rw [va_up_ne _ _ e, va_up_ne _ _ e]; exact h7.2.2 i (by omega)
    · have h0 : v_feed C.2.2.1 x = (-4, C.2.2.1) := by unfold v_feed; rw [if_neg hx, if_neg h50]
      rw [h0]
      have hn50 : M.1 10 = 50 := by rw [h10, show C.2.2.1.1 = 50 by omega]; rfl
      refine RQ.same h ?_
      refine CT.of [some (.ref r), some (.int x)] rfl (Nat.le_of_ble_eq_true rfl) pl_X7 trivial ?_
      refine px_iload_n dX7_feed_0 rfl ?_
      refine px_i2l dX7_feed_1 ?_
      refine px_lconst (v := 1) dX7_feed_2 (by decide) ?_
      refine px_ldc2 dX7_feed_3 kc_X7_118 ?_
      refine px_callS1 (ν := mX7_isIn) lk_X7_7 st_X7_isIn mok_X7_isIn dX7_feed_6 (c_X7_isIn _ _ _) rfl rfl (by omega) (by simp) ?_
      refine px_ifb_ne (tgt := 15) dX7_feed_9 (by decide) (fun hc9 => ?_) (fun hc9 => ?_)
      · refine px_aload_n dX7_feed_15 rfl ?_
        refine mx_get fl_X7_120 dX7_feed_16 rfl ?_
        refine px_bipush (v := 50) dX7_feed_19 (by decide) ?_
        refine px_icmp_ne (tgt := 27) dX7_feed_21 (by decide) (fun hc21 => ?_) (fun hc21 => ?_)
        · exact absurd hn50 hc21
        · refine px_bipush (v := (-4)) dX7_feed_24 (by decide) ?_
          exact px_reti dX7_feed_26 (by rfl) (by rfl)
      · rw [hf] at hc9; cases hc9
theorem m_clear (h : RP bk M C) : RQ B D n w r f 50 mX7_clear [] bk M (.int (nI C.2.2.1.1)) (C.1, (C.2.1, ((0, C.2.2.1.2), C.2.2.2))) := by
  have h10 := h.2.2.2.2.1.1
  obtain ⟨h1, h2, h3, h4, h7, h8⟩ := h
  refine ⟨M.sets 10 0, bk, ?_, ⟨h1.of rfl (fun _ _ _ => rfl), h2, h3, h4, ⟨rfl, Nat.zero_le _, fun i hi => absurd hi (Nat.not_lt_zero _)⟩, h8⟩, by omega⟩
  refine CT.of [some (.ref r), none] rfl (Nat.le_of_ble_eq_true rfl) pl_X7 trivial ?_
  refine px_aload_n dX7_clear_0 rfl ?_
  refine mx_get fl_X7_120 dX7_clear_1 rfl ?_
  refine px_istore1 rfl dX7_clear_4 ?_
  refine px_aload_n dX7_clear_5 rfl ?_
  refine px_iconst (v := 0) dX7_clear_6 (by decide) ?_
  refine mx_put fp_X7_120 dX7_clear_7 rfl rfl (by decide) rfl ?_
  refine px_iload_n dX7_clear_10 rfl ?_
  exact px_reti dX7_clear_11 (by rw [h10]) (by rfl)
theorem l_X7_copy_30 {d t u : Nat} (hd : 1 ≤ d) (ht : t < 16) (hu : u < 16) : ∀ (k j : Nat) (M : MS), j + k = 25 → ∃ g : Nat → Int32, (∀ rr h1, EX B D d mX7_copy 65 [some (.ref r), some (.int (nI (8 + t))), some (.int (nI (8 + u))), some (.int (nI 25))] [] (n, w, mH r f (M.seta 5 g)) rr h1 → EX B D d mX7_copy 30 [some (.ref r), some (.int (nI (8 + t))), some (.int (nI (8 + u))), some (.int (nI j))] [] (n, w, mH r f M) rr h1) ∧ (∀ q, j ≤ q → q < 25 → g (8 + 25 * u + q) = M.2.1 5 (8 + 25 * t + q)) ∧ ∀ p, p < 8 + 25 * u + j ∨ 8 + 25 * u + 25 ≤ p → g p = M.2.1 5 p
  | 0, j, M, hj => by
    have : j = 25 := by omega
    subst this
    refine ⟨M.2.1 5, fun rr h1 hk => ?_, fun q h1 h2 => by omega, fun p _ => rfl⟩
    have e : M.seta 5 (M.2.1 5) = M := by unfold MS.seta; rw [up_id]
    rw [e] at hk
    refine px_iload_n dX7_copy_30 rfl ?_
    refine px_bipush (v := 25) dX7_copy_31 (by decide) ?_
    refine px_icmp_ge (tgt := 65) dX7_copy_33 (by decide) (fun hc33 => ?_) (fun hc33 => ?_)
    · exact hk
    · exact absurd (by decide) hc33
  | k + 1, j, M, hj => by
    obtain ⟨g, e1, e2, e3⟩ := l_X7_copy_30 (d := d) hd ht hu k (j + 1) (M.sa 5 (8 + 25 * u + j) (M.2.1 5 (8 + 25 * t + j))) (by omega)
    rw [sa5] at e2 e3
    have es : (M.sa 5 (8 + 25 * u + j) (M.2.1 5 (8 + 25 * t + j))).seta 5 g = M.seta 5 g := by unfold MS.sa MS.seta; simp only [bx_uu]
    rw [es] at e1
    refine ⟨g, fun rr h1 hk => ?_, fun q h1 h2 => ?_, fun p hp => ?_⟩
    · have e1 := e1 rr h1 hk
      refine px_iload_n dX7_copy_30 rfl ?_
      refine px_bipush (v := 25) dX7_copy_31 (by decide) ?_
      refine px_icmp_ge (tgt := 65) dX7_copy_33 (by decide) (fun hc33 => ?_) (fun hc33 => ?_)
      · exact absurd hc33 (nI_ge (a := j) (b := 25) (by omega) (by omega))
      · refine px_aload_n dX7_copy_36 rfl ?_
        refine mx_get fl_X7_48 dX7_copy_37 rfl ?_
        refine px_bipush (v := 8) dX7_copy_40 (by decide) ?_
        refine px_bipush (v := 25) dX7_copy_42 (by decide) ?_
        refine px_iload_n dX7_copy_44 rfl ?_
        refine px_bipush (v := 8) dX7_copy_45 (by decide) ?_
        refine px_isub dX7_copy_47 ?_
        refine px_imul dX7_copy_48 ?_
        refine px_iadd dX7_copy_49 ?_
        refine px_iload_n dX7_copy_50 rfl ?_
        refine px_iadd dX7_copy_51 ?_
        refine px_aload_n dX7_copy_52 rfl ?_
        refine px_iload_n dX7_copy_53 rfl ?_
        refine px_iload_n dX7_copy_54 rfl ?_
        refine px_callV1 (ν := mX7_ruled) (ci := 7) rfl rfl lk_X7_140 in_X7_ruled se_X7_ruled mok_X7_ruled dX7_copy_55 (c_X7_ruled ht (q := j) rfl (by omega)) (by exact mH_0) rfl rfl (by omega) (by simp) ?_
        refine mx_iastore (j := 5) (m := 824) (q := 8 + 25 * u + j) dX7_copy_58 (by decide) (by first | rfl | (simp (disch := omega) only [li0, li1, li2, li3, li5, li6, li8, li9, li10, li12, li13, li16, li20, li24, li25, li100, li408, li424, li824, nI_add, nI_mul, nI_sub]; first | done | rfl | (congr 1; omega))) (by omega) ?_
        refine px_iinc3 rfl (nI_inc j) dX7_copy_59 ?_
        refine px_goto (tgt := 30) dX7_copy_62 (by decide) ?_
        exact e1
    · by_cases e : q = j
      · subst e
        rw [e3 _ (by omega), va_up_self]
      · rw [e2 q (by omega) h2, va_up_ne _ _ (by omega)]
    · rw [e3 p (by omega), va_up_ne _ _ (by omega)]
theorem m_copy (h : RP bk M C) (k j : Int32) : RQ B D n w r f 50 mX7_copy [.int k, .int j] bk M (.int (v_copy C.1.1.A k j).1) (((((v_copy C.1.1.A k j).2, C.1.1.2), C.1.2), C.2)) := by
  by_cases hkj : s_isTarget k = true ∧ s_isTarget j = true
  · obtain ⟨hk, hj⟩ := hkj
    obtain ⟨t, ht, rfl⟩ := inT.mp hk
    obtain ⟨u, hu, rfl⟩ := inT.mp hj
    obtain ⟨r1, r2, r3⟩ := h.2.1.1.2.1 t ht
    have r2' : M.2.1 5 (8 + 25 * t + 0) = nI (C.1.1.A.ru (8 + t)).length := r2
    by_cases hem : (C.1.1.A.ru (8 + t)).isEmpty = true
    · have h0 : v_copy C.1.1.A (nI (8 + t)) (nI (8 + u)) = (-3, C.1.1.A) := by unfold v_copy; rw [if_pos ⟨hk, hj⟩, nI_clamp (by omega), if_pos hem]
      rw [h0]
      have hz : nI (C.1.1.A.ru (8 + t)).length = 0 := by rw [List.isEmpty_iff.mp hem]; rfl
      refine RQ.same h ?_
      refine CT.of [some (.ref r), some (.int (nI (8 + t))), some (.int (nI (8 + u))), none] rfl (Nat.le_of_ble_eq_true rfl) pl_X7 trivial ?_
      refine px_iload_n dX7_copy_0 rfl ?_
      refine px_callS1 (ν := mX7_isTarget) lk_X7_101 st_X7_isTarget mok_X7_isTarget dX7_copy_1 (cr_isTarget _) rfl rfl (by omega) (by simp) ?_
      refine px_ifb_eq (tgt := 14) dX7_copy_4 (by decide) (fun hc4 => ?_) (fun hc4 => ?_)
      · rw [hk] at hc4; cases hc4
      · refine px_iload_n dX7_copy_7 rfl ?_
        refine px_callS1 (ν := mX7_isTarget) lk_X7_101 st_X7_isTarget mok_X7_isTarget dX7_copy_8 (cr_isTarget _) rfl rfl (by omega) (by simp) ?_
        refine px_ifb_ne (tgt := 16) dX7_copy_11 (by decide) (fun hc11 => ?_) (fun hc11 => ?_)
        · refine px_aload_n dX7_copy_16 rfl ?_
          refine px_iload_n dX7_copy_17 rfl ?_
          refine px_iconst (v := 0) dX7_copy_18 (by decide) ?_
          refine px_callV1 (ν := mX7_ruled) (ci := 7) rfl rfl lk_X7_140 in_X7_ruled se_X7_ruled mok_X7_ruled dX7_copy_19 (c_X7_ruled ht (q := 0) rfl (by omega)) (by exact mH_0) rfl rfl (by omega) (by simp) ?_
          rw [r2']
          refine px_if_ne (tgt := 28) dX7_copy_22 (by decide) (fun hc22 => ?_) (fun hc22 => ?_)
          · exact absurd hz hc22
          · refine px_bipush (v := (-3)) dX7_copy_25 (by decide) ?_
            exact px_reti dX7_copy_27 (by rfl) (by rfl)
        · rw [hj] at hc11; cases hc11
    · have h0 : v_copy C.1.1.A (nI (8 + t)) (nI (8 + u)) = (nI (C.1.1.A.ru (8 + t)).length, C.1.1.A.put (8 + u) (C.1.1.A.ru (8 + t)) (C.1.1.A.rs (8 + u)) none) := by unfold v_copy; rw [if_pos ⟨hk, hj⟩, nI_clamp (by omega), if_neg hem, nI_clamp (by omega)]
      rw [h0]
      have hz : ¬ nI (C.1.1.A.ru (8 + t)).length = 0 := nI_ne0 (by cases hr : C.1.1.A.ru (8 + t) with | nil => rw [hr] at hem; exact absurd rfl hem | cons a l => simp) (by omega)
      obtain ⟨g, e1, e2, e3⟩ := l_X7_copy_30 (B := B) (D := D) (n := n) (w := w) (r := r) (f := f) (d := 50) (by omega) ht hu 25 0 M (by omega)
      have eM : (M.seta 5 g).sa 5 (424 + 25 * u) (-1) = M.seta 5 (va_up g (424 + 25 * u) (-1)) := seta_sa _ _ _ _ _
      have hN : NW bk noX (va_up g (424 + 25 * u) (-1)) (C.1.1.A.put (8 + u) (C.1.1.A.ru (8 + t)) (C.1.1.A.rs (8 + u)) none) := h.2.1.1.put hu (fun q h1 h2 h3 h4 => by rw [va_up_ne _ _ (by omega)]; exact e3 q (by omega)) r1 (by rw [va_up_ne _ _ (by omega)]; exact (e2 0 (by omega) (by omega)).trans r2) (fun i x hx => by
        have hi := (List.getElem?_eq_some_iff.mp hx).1
        rw [va_up_ne _ _ (by omega), va_up_ne _ _ (by omega), e2 _ (by omega) (by omega), e2 _ (by omega) (by omega)]; exact r3 i x hx) (by rw [va_up_ne _ _ (by omega), e3 _ (by omega)]; exact h.2.1.1.2.2.1 u hu) (va_up_self _ _ _)
      have hlast : ((M.seta 5 g).sa 5 (424 + 25 * u) (-1)).2.1 5 (8 + 25 * t + 0) = nI (C.1.1.A.ru (8 + t)).length := by
        rw [eM]
        show va_up M.2.1 5 (va_up g (424 + 25 * u) (-1)) 5 _ = _
        rw [va_up_self, va_up_ne _ _ (by omega)]
        by_cases e : t = u
        · subst e; rw [e2 0 (by omega) (by omega)]; exact r2
        · rw [e3 _ (by omega)]; exact r2
      refine ⟨(M.seta 5 g).sa 5 (424 + 25 * u) (-1), bk, ?_, by rw [eM]; exact h.w hN (h.2.1.2.put (fun x hx => h.2.1.2.1 _ x hx)), by omega⟩
      refine CT.of [some (.ref r), some (.int (nI (8 + t))), some (.int (nI (8 + u))), none] rfl (Nat.le_of_ble_eq_true rfl) pl_X7 trivial ?_
      refine px_iload_n dX7_copy_0 rfl ?_
      refine px_callS1 (ν := mX7_isTarget) lk_X7_101 st_X7_isTarget mok_X7_isTarget dX7_copy_1 (cr_isTarget _) rfl rfl (by omega) (by simp) ?_
      refine px_ifb_eq (tgt := 14) dX7_copy_4 (by decide) (fun hc4 => ?_) (fun hc4 => ?_)
      · rw [hk] at hc4; cases hc4
      · refine px_iload_n dX7_copy_7 rfl ?_
        refine px_callS1 (ν := mX7_isTarget) lk_X7_101 st_X7_isTarget mok_X7_isTarget dX7_copy_8 (cr_isTarget _) rfl rfl (by omega) (by simp) ?_
        refine px_ifb_ne (tgt := 16) dX7_copy_11 (by decide) (fun hc11 => ?_) (fun hc11 => ?_)
        · refine px_aload_n dX7_copy_16 rfl ?_
          refine px_iload_n dX7_copy_17 rfl ?_
          refine px_iconst (v := 0) dX7_copy_18 (by decide) ?_
          refine px_callV1 (ν := mX7_ruled) (ci := 7) rfl rfl lk_X7_140 in_X7_ruled se_X7_ruled mok_X7_ruled dX7_copy_19 (c_X7_ruled ht (q := 0) rfl (by omega)) (by exact mH_0) rfl rfl (by omega) (by simp) ?_
          rw [r2']
          refine px_if_ne (tgt := 28) dX7_copy_22 (by decide) (fun hc22 => ?_) (fun hc22 => ?_)
          · refine px_iconst (v := 0) dX7_copy_28 (by decide) ?_
            refine px_istore3 rfl dX7_copy_29 ?_
            refine e1 _ _ ?_
            refine px_aload_n dX7_copy_65 rfl ?_
            refine mx_get fl_X7_48 dX7_copy_66 rfl ?_
            refine px_aload_n dX7_copy_69 rfl ?_
            refine px_iload_n dX7_copy_70 rfl ?_
            refine px_callV1 (ν := mX7_traceAt) (ci := 7) rfl rfl lk_X7_98 in_X7_traceAt se_X7_traceAt mok_X7_traceAt dX7_copy_71 (c_X7_traceAt hu) (by exact mH_0) rfl rfl (by omega) (by simp) ?_
            refine px_iconst (v := (-1)) dX7_copy_74 (by decide) ?_
            refine mx_iastore (j := 5) (m := 824) (q := 424 + 25 * u) dX7_copy_75 (by decide) (by first | rfl | (simp (disch := omega) only [li0, li1, li2, li3, li5, li6, li8, li9, li10, li12, li13, li16, li20, li24, li25, li100, li408, li424, li824, nI_add, nI_mul, nI_sub]; first | done | rfl | (congr 1; omega))) (by omega) ?_
            refine px_aload_n dX7_copy_76 rfl ?_
            refine px_iload_n dX7_copy_77 rfl ?_
            refine px_iconst (v := 0) dX7_copy_78 (by decide) ?_
            refine px_callV1 (ν := mX7_ruled) (ci := 7) rfl rfl lk_X7_140 in_X7_ruled se_X7_ruled mok_X7_ruled dX7_copy_79 (c_X7_ruled ht (q := 0) rfl (by omega)) (by exact mH_0) rfl rfl (by omega) (by simp) ?_
            rw [hlast]
            exact px_reti dX7_copy_82 (by rfl) (by rfl)
          · exact absurd hc22 hz
        · rw [hj] at hc11; cases hc11
  · have h0 : v_copy C.1.1.A k j = (-1, C.1.1.A) := by unfold v_copy; rw [if_neg hkj]
    rw [h0]
    refine RQ.same h ?_
    refine CT.of [some (.ref r), some (.int k), some (.int j), none] rfl (Nat.le_of_ble_eq_true rfl) pl_X7 trivial ?_
    refine px_iload_n dX7_copy_0 rfl ?_
    refine px_callS1 (ν := mX7_isTarget) lk_X7_101 st_X7_isTarget mok_X7_isTarget dX7_copy_1 (cr_isTarget _) rfl rfl (by omega) (by simp) ?_
    refine px_ifb_eq (tgt := 14) dX7_copy_4 (by decide) (fun hc4 => ?_) (fun hc4 => ?_)
    · refine px_iconst (v := (-1)) dX7_copy_14 (by decide) ?_
      exact px_reti dX7_copy_15 (by rfl) (by rfl)
    · refine px_iload_n dX7_copy_7 rfl ?_
      refine px_callS1 (ν := mX7_isTarget) lk_X7_101 st_X7_isTarget mok_X7_isTarget dX7_copy_8 (cr_isTarget _) rfl rfl (by omega) (by simp) ?_
      refine px_ifb_ne (tgt := 16) dX7_copy_11 (by decide) (fun hc11 => ?_) (fun hc11 => ?_)
      · exact absurd ⟨hc4, hc11⟩ hkj
      · refine px_iconst (v := (-1)) dX7_copy_14 (by decide) ?_
        exact px_reti dX7_copy_15 (by rfl) (by rfl)
end M67
