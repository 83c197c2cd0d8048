/-! the reference: RULES and TRACES looked at -/
theorem sin_n {i : Int32} {L : Nat} (hL : L < 1000) : s_isInL i.toInt64 0 (nI L - 1).toInt64 = (!decide (i < 0) && decide (i.toNatClampNeg < L)) := by
  have h1 : (nI L - 1).toInt = (L : Int) - 1 := by
    rw [Int32.toInt_sub, nI_toInt (by omega), show (1 : Int32).toInt = 1 by decide, Int.bmod_eq_of_le (by omega) (by omega)]
  rw [sin_lt (x := 0) (y := (L : Int) - 1) (by decide) (by rw [Int32.toInt_toInt64]; exact h1), Bool.eq_iff_iff]
  simp only [Bool.and_eq_true, Bool.not_eq_true', decide_eq_true_eq, decide_eq_false_iff_not, Int32.lt_iff_toInt_lt]
  rw [show (0 : Int32).toInt = 0 by decide]
  have h2 : i.toNatClampNeg = i.toInt.toNat := rfl
  rw [h2]
  omega
section M69
variable {B : Nat} {D : va_G} {n w r : Nat} {f : Nat → Option va_E} {bk : BK} {M : MS} {C : CS}
theorem m_step (h : RP bk M C) (k i : Int32) : RQ B D n w r f 50 mX7_step [.int k, .int i] bk M (.int (v_step C.1.1.A k i)) C := by
  refine RQ.same h ?_
  by_cases hk : s_isTarget k = true
  · obtain ⟨t, ht, rfl⟩ := inT.mp hk
    obtain ⟨r1, r2, r3⟩ := h.2.1.1.2.1 t ht
    have r2' : M.2.1 5 (8 + 25 * t + 0) = nI (C.1.1.A.ru (8 + t)).length := r2
    by_cases hem : (C.1.1.A.ru (8 + t)).isEmpty = true
    · have hz : nI (C.1.1.A.ru (8 + t)).length = 0 := by rw [List.isEmpty_iff.mp hem]; rfl
      have h0 : v_step C.1.1.A (nI (8 + t)) i = if i < -1 then -1 else -3 := by
        unfold v_step
        rw [nI_clamp (by omega)]
        by_cases hi : i < -1
        · rw [if_neg (fun e => e.2 hi), if_pos hi]
        · rw [if_pos ⟨hk, hi⟩, if_pos hem, if_neg hi]
      rw [h0]
      refine CT.of [some (.ref r), some (.int (nI (8 + t))), some (.int i), none] rfl (Nat.le_of_ble_eq_true rfl) pl_X7 trivial ?_
      refine px_iload_n dX7_step_0 rfl ?_
      refine px_callS1 (ν := mX7_isTarget) lk_X7_101 st_X7_isTarget mok_X7_isTarget dX7_step_1 (cr_isTarget _) rfl rfl (by omega) (by simp) ?_
      refine px_ifb_ne (tgt := 9) dX7_step_4 (by decide) (fun hc4 => ?_) (fun hc4 => ?_)
      · refine px_aload_n dX7_step_9 rfl ?_
        refine px_iload_n dX7_step_10 rfl ?_
        refine px_iconst (v := 0) dX7_step_11 (by decide) ?_
        refine px_callV1 (ν := mX7_ruled) (ci := 7) rfl rfl lk_X7_140 in_X7_ruled se_X7_ruled mok_X7_ruled dX7_step_12 (c_X7_ruled ht (q := 0) rfl (by omega)) (by exact mH_0) rfl rfl (by omega) (by simp) ?_
        rw [r2']
        refine px_istore3 rfl dX7_step_15 ?_
        refine px_iload_n dX7_step_16 rfl ?_
        refine px_if_ne (tgt := 32) dX7_step_17 (by decide) (fun hc17 => ?_) (fun hc17 => ?_)
        · exact absurd hz hc17
        · refine px_iload_n dX7_step_20 rfl ?_
          refine px_iconst (v := (-1)) dX7_step_21 (by decide) ?_
          refine px_icmp_ge (tgt := 29) dX7_step_22 (by decide) (fun hc22 => ?_) (fun hc22 => ?_)
          · refine px_bipush (v := (-3)) dX7_step_29 (by decide) ?_
            exact px_reti dX7_step_31 (by first | rw [if_neg (Int32.not_lt.mpr hc22)] | rw [if_pos (Int32.not_le.mp hc22)]) (by rfl)
          · refine px_iconst (v := (-1)) dX7_step_25 (by decide) ?_
            refine px_goto (tgt := 31) dX7_step_26 (by decide) ?_
            exact px_reti dX7_step_31 (by first | rw [if_neg (Int32.not_lt.mpr hc22)] | rw [if_pos (Int32.not_le.mp hc22)]) (by rfl)
      · rw [hk] at hc4; cases hc4
    · have hz : ¬ nI (C.1.1.A.ru (8 + t)).length = 0 := nI_ne0 (by cases hr : C.1.1.A.ru (8 + t) with | nil => rw [hr] at hem; exact absurd rfl hem | cons a l => simp) (by omega)
      have hin := sin_n (i := i) (L := (C.1.1.A.ru (8 + t)).length) (by omega)
      by_cases hm1 : i = -1
      · subst hm1
        have h0 : v_step C.1.1.A (nI (8 + t)) (-1) = nI (C.1.1.A.ru (8 + t)).length := by
          unfold v_step
          rw [nI_clamp (by omega), if_pos ⟨hk, by decide⟩, if_neg hem, if_pos rfl]
        rw [h0]
        refine CT.of [some (.ref r), some (.int (nI (8 + t))), some (.int (-1)), none] rfl (Nat.le_of_ble_eq_true rfl) pl_X7 trivial ?_
        refine px_iload_n dX7_step_0 rfl ?_
        refine px_callS1 (ν := mX7_isTarget) lk_X7_101 st_X7_isTarget mok_X7_isTarget dX7_step_1 (cr_isTarget _) rfl rfl (by omega) (by simp) ?_
        refine px_ifb_ne (tgt := 9) dX7_step_4 (by decide) (fun hc4 => ?_) (fun hc4 => ?_)
        · refine px_aload_n dX7_step_9 rfl ?_
          refine px_iload_n dX7_step_10 rfl ?_
          refine px_iconst (v := 0) dX7_step_11 (by decide) ?_
          refine px_callV1 (ν := mX7_ruled) (ci := 7) rfl rfl lk_X7_140 in_X7_ruled se_X7_ruled mok_X7_ruled dX7_step_12 (c_X7_ruled ht (q := 0) rfl (by omega)) (by exact mH_0) rfl rfl (by omega) (by simp) ?_
          rw [r2']
          refine px_istore3 rfl dX7_step_15 ?_
          refine px_iload_n dX7_step_16 rfl ?_
          refine px_if_ne (tgt := 32) dX7_step_17 (by decide) (fun hc17 => ?_) (fun hc17 => ?_)
          · refine px_iload_n dX7_step_32 rfl ?_
            refine px_iconst (v := (-1)) dX7_step_33 (by decide) ?_
            refine px_icmp_ne (tgt := 41) dX7_step_34 (by decide) (fun hc34 => ?_) (fun hc34 => ?_)
            · exact absurd rfl hc34
            · refine px_iload_n dX7_step_37 rfl ?_
              refine px_goto (tgt := 82) dX7_step_38 (by decide) ?_
              exact px_reti dX7_step_82 (by rfl) (by rfl)
          · exact absurd hc17 hz
        · rw [hk] at hc4; cases hc4
      · by_cases hi : i < 0
        · have hv : v_step C.1.1.A (nI (8 + t)) i = -1 := by
            have hlt : i < -1 := by
              simp only [Int32.lt_iff_toInt_lt, ← Int32.toInt_inj] at hi hm1 ⊢
              rw [show (0 : Int32).toInt = 0 by decide] at hi
              rw [show (-1 : Int32).toInt = -1 by decide] at hm1 ⊢
              omega
            unfold v_step
            rw [if_neg (fun e => e.2 hlt)]
          rw [hv]
          rw [decide_eq_true hi] at hin
          refine CT.of [some (.ref r), some (.int (nI (8 + t))), some (.int i), none] rfl (Nat.le_of_ble_eq_true rfl) pl_X7 trivial ?_
          refine px_iload_n dX7_step_0 rfl ?_
          refine px_callS1 (ν := mX7_isTarget) lk_X7_101 st_X7_isTarget mok_X7_isTarget dX7_step_1 (cr_isTarget _) rfl rfl (by omega) (by simp) ?_
          refine px_ifb_ne (tgt := 9) dX7_step_4 (by decide) (fun hc4 => ?_) (fun hc4 => ?_)
          · refine px_aload_n dX7_step_9 rfl ?_
            refine px_iload_n dX7_step_10 rfl ?_
            refine px_iconst (v := 0) dX7_step_11 (by decide) ?_
            refine px_callV1 (ν := mX7_ruled) (ci := 7) rfl rfl lk_X7_140 in_X7_ruled se_X7_ruled mok_X7_ruled dX7_step_12 (c_X7_ruled ht (q := 0) rfl (by omega)) (by exact mH_0) rfl rfl (by omega) (by simp) ?_
            rw [r2']
            refine px_istore3 rfl dX7_step_15 ?_
            refine px_iload_n dX7_step_16 rfl ?_
            refine px_if_ne (tgt := 32) dX7_step_17 (by decide) (fun hc17 => ?_) (fun hc17 => ?_)
            · refine px_iload_n dX7_step_32 rfl ?_
              refine px_iconst (v := (-1)) dX7_step_33 (by decide) ?_
              refine px_icmp_ne (tgt := 41) dX7_step_34 (by decide) (fun hc34 => ?_) (fun hc34 => ?_)
              · refine px_iload_n dX7_step_41 rfl ?_
                refine px_i2l dX7_step_42 ?_
                refine px_lconst (v := 0) dX7_step_43 (by decide) ?_
                refine px_iload_n dX7_step_44 rfl ?_
                refine px_iconst (v := 1) dX7_step_45 (by decide) ?_
                refine px_isub dX7_step_46 ?_
                refine px_i2l dX7_step_47 ?_
                refine px_callS1 (ν := mX7_isIn) lk_X7_7 st_X7_isIn mok_X7_isIn dX7_step_48 (c_X7_isIn _ _ _) rfl rfl (by omega) (by simp) ?_
                refine px_ifb_eq (tgt := 81) dX7_step_51 (by decide) (fun hc51 => ?_) (fun hc51 => ?_)
                · refine px_iconst (v := (-1)) dX7_step_81 (by decide) ?_
                  exact px_reti dX7_step_82 (by rfl) (by rfl)
                · rw [hin] at hc51; cases hc51
              · exact absurd hc34 hm1
            · exact absurd hc17 hz
          · rw [hk] at hc4; cases hc4
        · obtain ⟨q, hq, rfl⟩ := nI_of hi
          rw [decide_eq_false hi, nI_clamp hq] at hin
          have hgt : ¬ nI q < -1 := fun e => by
            rw [Int32.lt_iff_toInt_lt, nI_toInt hq, show (-1 : Int32).toInt = -1 by decide] at e
            omega
          cases hx : (C.1.1.A.ru (8 + t))[q]? with
          | none =>
            have hv : v_step C.1.1.A (nI (8 + t)) (nI q) = -1 := by
              unfold v_step
              rw [nI_clamp (by omega), if_pos ⟨hk, hgt⟩, if_neg hem, if_neg hm1, nI_clamp hq, hx]
            rw [hv]
            have hql := List.getElem?_eq_none_iff.mp hx
            rw [decide_eq_false (by omega)] at hin
            refine CT.of [some (.ref r), some (.int (nI (8 + t))), some (.int (nI q)), none] rfl (Nat.le_of_ble_eq_true rfl) pl_X7 trivial ?_
            refine px_iload_n dX7_step_0 rfl ?_
            refine px_callS1 (ν := mX7_isTarget) lk_X7_101 st_X7_isTarget mok_X7_isTarget dX7_step_1 (cr_isTarget _) rfl rfl (by omega) (by simp) ?_
            refine px_ifb_ne (tgt := 9) dX7_step_4 (by decide) (fun hc4 => ?_) (fun hc4 => ?_)
            · refine px_aload_n dX7_step_9 rfl ?_
              refine px_iload_n dX7_step_10 rfl ?_
              refine px_iconst (v := 0) dX7_step_11 (by decide) ?_
              refine px_callV1 (ν := mX7_ruled) (ci := 7) rfl rfl lk_X7_140 in_X7_ruled se_X7_ruled mok_X7_ruled dX7_step_12 (c_X7_ruled ht (q := 0) rfl (by omega)) (by exact mH_0) rfl rfl (by omega) (by simp) ?_
              rw [r2']
              refine px_istore3 rfl dX7_step_15 ?_
              refine px_iload_n dX7_step_16 rfl ?_
              refine px_if_ne (tgt := 32) dX7_step_17 (by decide) (fun hc17 => ?_) (fun hc17 => ?_)
              · refine px_iload_n dX7_step_32 rfl ?_
                refine px_iconst (v := (-1)) dX7_step_33 (by decide) ?_
                refine px_icmp_ne (tgt := 41) dX7_step_34 (by decide) (fun hc34 => ?_) (fun hc34 => ?_)
                · refine px_iload_n dX7_step_41 rfl ?_
                  refine px_i2l dX7_step_42 ?_
                  refine px_lconst (v := 0) dX7_step_43 (by decide) ?_
                  refine px_iload_n dX7_step_44 rfl ?_
                  refine px_iconst (v := 1) dX7_step_45 (by decide) ?_
                  refine px_isub dX7_step_46 ?_
                  refine px_i2l dX7_step_47 ?_
                  refine px_callS1 (ν := mX7_isIn) lk_X7_7 st_X7_isIn mok_X7_isIn dX7_step_48 (c_X7_isIn _ _ _) rfl rfl (by omega) (by simp) ?_
                  refine px_ifb_eq (tgt := 81) dX7_step_51 (by decide) (fun hc51 => ?_) (fun hc51 => ?_)
                  · refine px_iconst (v := (-1)) dX7_step_81 (by decide) ?_
                    exact px_reti dX7_step_82 (by rfl) (by rfl)
                  · rw [hin] at hc51; cases hc51
                · exact absurd hc34 hm1
              · exact absurd hc17 hz
            · rw [hk] at hc4; cases hc4
          | some x =>
            have hv : v_step C.1.1.A (nI (8 + t)) (nI q) = 100 * x.1 + nI x.2 := by
              unfold v_step
              rw [nI_clamp (by omega), if_pos ⟨hk, hgt⟩, if_neg hem, if_neg hm1, nI_clamp hq, hx]
            rw [hv]
            have hql := (List.getElem?_eq_some_iff.mp hx).1
            rw [decide_eq_true hql] at hin
            obtain ⟨p1, p2⟩ := r3 q x hx
            refine CT.of [some (.ref r), some (.int (nI (8 + t))), some (.int (nI q)), none] rfl (Nat.le_of_ble_eq_true rfl) pl_X7 trivial ?_
            refine px_iload_n dX7_step_0 rfl ?_
            refine px_callS1 (ν := mX7_isTarget) lk_X7_101 st_X7_isTarget mok_X7_isTarget dX7_step_1 (cr_isTarget _) rfl rfl (by omega) (by simp) ?_
            refine px_ifb_ne (tgt := 9) dX7_step_4 (by decide) (fun hc4 => ?_) (fun hc4 => ?_)
            · refine px_aload_n dX7_step_9 rfl ?_
              refine px_iload_n dX7_step_10 rfl ?_
              refine px_iconst (v := 0) dX7_step_11 (by decide) ?_
              refine px_callV1 (ν := mX7_ruled) (ci := 7) rfl rfl lk_X7_140 in_X7_ruled se_X7_ruled mok_X7_ruled dX7_step_12 (c_X7_ruled ht (q := 0) rfl (by omega)) (by exact mH_0) rfl rfl (by omega) (by simp) ?_
              rw [r2']
              refine px_istore3 rfl dX7_step_15 ?_
              refine px_iload_n dX7_step_16 rfl ?_
              refine px_if_ne (tgt := 32) dX7_step_17 (by decide) (fun hc17 => ?_) (fun hc17 => ?_)
              · refine px_iload_n dX7_step_32 rfl ?_
                refine px_iconst (v := (-1)) dX7_step_33 (by decide) ?_
                refine px_icmp_ne (tgt := 41) dX7_step_34 (by decide) (fun hc34 => ?_) (fun hc34 => ?_)
                · refine px_iload_n dX7_step_41 rfl ?_
                  refine px_i2l dX7_step_42 ?_
                  refine px_lconst (v := 0) dX7_step_43 (by decide) ?_
                  refine px_iload_n dX7_step_44 rfl ?_
                  refine px_iconst (v := 1) dX7_step_45 (by decide) ?_
                  refine px_isub dX7_step_46 ?_
                  refine px_i2l dX7_step_47 ?_
                  refine px_callS1 (ν := mX7_isIn) lk_X7_7 st_X7_isIn mok_X7_isIn dX7_step_48 (c_X7_isIn _ _ _) rfl rfl (by omega) (by simp) ?_
                  refine px_ifb_eq (tgt := 81) dX7_step_51 (by decide) (fun hc51 => ?_) (fun hc51 => ?_)
                  · rw [hin] at hc51; cases hc51
                  · refine px_bipush (v := 100) dX7_step_54 (by decide) ?_
                    refine px_aload_n dX7_step_56 rfl ?_
                    refine px_iload_n dX7_step_57 rfl ?_
                    refine px_iconst (v := 1) dX7_step_58 (by decide) ?_
                    refine px_iconst (v := 2) dX7_step_59 (by decide) ?_
                    refine px_iload_n dX7_step_60 rfl ?_
                    refine px_imul dX7_step_61 ?_
                    refine px_iadd dX7_step_62 ?_
                    refine px_callV1 (ν := mX7_ruled) (ci := 7) rfl rfl lk_X7_140 in_X7_ruled se_X7_ruled mok_X7_ruled dX7_step_63 (c_X7_ruled ht (q := 1 + 2 * q) (by first | rfl | (simp (disch := omega) only [li0, li1, li2, li3, li5, li6, li8, li9, li10, li12, li13, li16, li20, li24, li25, li100, li408, li424, li824, nI_add, nI_mul, nI_sub]; first | done | rfl | (congr 1; omega))) (by omega)) (by exact mH_0) rfl rfl (by omega) (by simp) ?_
                    rw [p1]
                    refine px_imul dX7_step_66 ?_
                    refine px_aload_n dX7_step_67 rfl ?_
                    refine px_iload_n dX7_step_68 rfl ?_
                    refine px_iconst (v := 2) dX7_step_69 (by decide) ?_
                    refine px_iconst (v := 2) dX7_step_70 (by decide) ?_
                    refine px_iload_n dX7_step_71 rfl ?_
                    refine px_imul dX7_step_72 ?_
                    refine px_iadd dX7_step_73 ?_
                    refine px_callV1 (ν := mX7_ruled) (ci := 7) rfl rfl lk_X7_140 in_X7_ruled se_X7_ruled mok_X7_ruled dX7_step_74 (c_X7_ruled ht (q := 2 + 2 * q) (by first | rfl | (simp (disch := omega) only [li0, li1, li2, li3, li5, li6, li8, li9, li10, li12, li13, li16, li20, li24, li25, li100, li408, li424, li824, nI_add, nI_mul, nI_sub]; first | done | rfl | (congr 1; omega))) (by omega)) (by exact mH_0) rfl rfl (by omega) (by simp) ?_
                    rw [p2]
                    refine px_iadd dX7_step_77 ?_
                    refine px_goto (tgt := 82) dX7_step_78 (by decide) ?_
                    exact px_reti dX7_step_82 (by rfl) (by rfl)
                · exact absurd hc34 hm1
              · exact absurd hc17 hz
            · rw [hk] at hc4; cases hc4
  · have h0 : v_step C.1.1.A k i = -1 := by unfold v_step; rw [if_neg (fun e => hk e.1)]
    rw [h0]
    refine CT.of [some (.ref r), some (.int k), some (.int i), none] rfl (Nat.le_of_ble_eq_true rfl) pl_X7 trivial ?_
    refine px_iload_n dX7_step_0 rfl ?_
    refine px_callS1 (ν := mX7_isTarget) lk_X7_101 st_X7_isTarget mok_X7_isTarget dX7_step_1 (cr_isTarget _) rfl rfl (by omega) (by simp) ?_
    refine px_ifb_ne (tgt := 9) dX7_step_4 (by decide) (fun hc4 => ?_) (fun hc4 => ?_)
    · exact absurd hc4 hk
    · refine px_iconst (v := (-1)) dX7_step_7 (by decide) ?_
      exact px_reti dX7_step_8 (by rfl) (by rfl)
def t_am (A : AW) (k i : Int32) : Int32 := if s_isTarget k = true then (if i < 0 then -1 else match A.tr k.toNatClampNeg with | none => -3 | some T => if i.toNatClampNeg < T.length then 0 else -1) else -1
theorem c_X7_amiss (h : RP bk M C) (k i : Int32) : CT B D 4 mX7_amiss [.ref r, .int k, .int i] (n, w, mH r f M) (some (.int (t_am C.1.1.A k i))) (n, w, mH r f M) := by
  by_cases hk : s_isTarget k = true
  · obtain ⟨t, ht, rfl⟩ := inT.mp hk
    have hT := h.2.1.1.2.2.2 t ht rfl
    unfold t_am
    rw [if_pos hk, nI_clamp (by omega)]
    by_cases hi : i < 0
    · rw [if_pos hi]
      refine CT.of [some (.ref r), some (.int (nI (8 + t))), some (.int i)] rfl (Nat.le_of_ble_eq_true rfl) pl_X7 trivial ?_
      refine px_iload_n dX7_amiss_0 rfl ?_
      refine px_callS1 (ν := mX7_isTarget) lk_X7_101 st_X7_isTarget mok_X7_isTarget dX7_amiss_1 (cr_isTarget _) rfl rfl (by omega) (by simp) ?_
      refine px_ifb_ne (tgt := 9) dX7_amiss_4 (by decide) (fun hc4 => ?_) (fun hc4 => ?_)
      · refine px_iload_n dX7_amiss_9 rfl ?_
        refine px_if_ge (tgt := 17) dX7_amiss_10 (by decide) (fun hc10 => ?_) (fun hc10 => ?_)
        · exact absurd hi (Int32.not_lt.mpr hc10)
        · refine px_iconst (v := (-1)) dX7_amiss_13 (by decide) ?_
          refine px_goto (tgt := 52) dX7_amiss_14 (by decide) ?_
          exact px_reti dX7_amiss_52 (by rfl) (by rfl)
      · rw [hk] at hc4; cases hc4
    · rw [if_neg hi]
      have hi0 : (0 : Int32) ≤ i := Int32.not_lt.mp hi
      cases hr : C.1.1.A.tr (8 + t) with
      | none =>
        rw [hr] at hT
        have hT : M.2.1 5 (424 + 25 * t) = -1 := hT
        show CT B D 4 mX7_amiss _ _ (some (.int (-3))) _
        refine CT.of [some (.ref r), some (.int (nI (8 + t))), some (.int i)] rfl (Nat.le_of_ble_eq_true rfl) pl_X7 trivial ?_
        refine px_iload_n dX7_amiss_0 rfl ?_
        refine px_callS1 (ν := mX7_isTarget) lk_X7_101 st_X7_isTarget mok_X7_isTarget dX7_amiss_1 (cr_isTarget _) rfl rfl (by omega) (by simp) ?_
        refine px_ifb_ne (tgt := 9) dX7_amiss_4 (by decide) (fun hc4 => ?_) (fun hc4 => ?_)
        · refine px_iload_n dX7_amiss_9 rfl ?_
          refine px_if_ge (tgt := 17) dX7_amiss_10 (by decide) (fun hc10 => ?_) (fun hc10 => ?_)
          · refine px_aload_n dX7_amiss_17 rfl ?_
            refine px_iload_n dX7_amiss_18 rfl ?_
            refine px_callV1 (ν := mX7_traced) (ci := 7) rfl rfl lk_X7_147 in_X7_traced se_X7_traced mok_X7_traced dX7_amiss_19 (c_X7_traced ht) (by exact mH_0) rfl rfl (by omega) (by simp) ?_
            rw [hT]
            refine px_if_ge (tgt := 30) dX7_amiss_22 (by decide) (fun hc22 => ?_) (fun hc22 => ?_)
            · exact absurd hc22 (by decide)
            · refine px_bipush (v := (-3)) dX7_amiss_25 (by decide) ?_
              refine px_goto (tgt := 52) dX7_amiss_27 (by decide) ?_
              exact px_reti dX7_amiss_52 (by rfl) (by rfl)
          · exact absurd hi0 hc10
        · rw [hk] at hc4; cases hc4
      | some T =>
        rw [hr] at hT
        obtain ⟨t1, t2, t3⟩ := hT
        have hin := sin_n (i := i) (L := T.length) (by omega)
        rw [decide_eq_false hi] at hin
        show CT B D 4 mX7_amiss _ _ (some (.int (if i.toNatClampNeg < T.length then 0 else -1))) _
        have z1 : s_isInL i.toInt64 0 (nI T.length - 1).toInt64 = true → (if i.toNatClampNeg < T.length then (0 : Int32) else -1) = 0 := fun e => by
          rw [hin] at e
          rw [if_pos (by simpa using e)]
        have z0 : s_isInL i.toInt64 0 (nI T.length - 1).toInt64 = false → (if i.toNatClampNeg < T.length then (0 : Int32) else -1) = -1 := fun e => by
          rw [hin] at e
          rw [if_neg (by simpa using e)]
        refine CT.of [some (.ref r), some (.int (nI (8 + t))), some (.int i)] rfl (Nat.le_of_ble_eq_true rfl) pl_X7 trivial ?_
        refine px_iload_n dX7_amiss_0 rfl ?_
        refine px_callS1 (ν := mX7_isTarget) lk_X7_101 st_X7_isTarget mok_X7_isTarget dX7_amiss_1 (cr_isTarget _) rfl rfl (by omega) (by simp) ?_
        refine px_ifb_ne (tgt := 9) dX7_amiss_4 (by decide) (fun hc4 => ?_) (fun hc4 => ?_)
        · refine px_iload_n dX7_amiss_9 rfl ?_
          refine px_if_ge (tgt := 17) dX7_amiss_10 (by decide) (fun hc10 => ?_) (fun hc10 => ?_)
          · refine px_aload_n dX7_amiss_17 rfl ?_
            refine px_iload_n dX7_amiss_18 rfl ?_
            refine px_callV1 (ν := mX7_traced) (ci := 7) rfl rfl lk_X7_147 in_X7_traced se_X7_traced mok_X7_traced dX7_amiss_19 (c_X7_traced ht) (by exact mH_0) rfl rfl (by omega) (by simp) ?_
            rw [t2]
            refine px_if_ge (tgt := 30) dX7_amiss_22 (by decide) (fun hc22 => ?_) (fun hc22 => ?_)
            · refine px_iload_n dX7_amiss_30 rfl ?_
              refine px_i2l dX7_amiss_31 ?_
              refine px_lconst (v := 0) dX7_amiss_32 (by decide) ?_
              refine px_aload_n dX7_amiss_33 rfl ?_
              refine px_iload_n dX7_amiss_34 rfl ?_
              refine px_callV1 (ν := mX7_traced) (ci := 7) rfl rfl lk_X7_147 in_X7_traced se_X7_traced mok_X7_traced dX7_amiss_35 (c_X7_traced ht) (by exact mH_0) rfl rfl (by omega) (by simp) ?_
              rw [t2]
              refine px_iconst (v := 1) dX7_amiss_38 (by decide) ?_
              refine px_isub dX7_amiss_39 ?_
              refine px_i2l dX7_amiss_40 ?_
              refine px_callS1 (ν := mX7_isIn) lk_X7_7 st_X7_isIn mok_X7_isIn dX7_amiss_41 (c_X7_isIn _ _ _) rfl rfl (by omega) (by simp) ?_
              refine px_ifb_eq (tgt := 51) dX7_amiss_44 (by decide) (fun hc44 => ?_) (fun hc44 => ?_)
              · refine px_iconst (v := (-1)) dX7_amiss_51 (by decide) ?_
                exact px_reti dX7_amiss_52 (by first | (rw [z1 hc44]; done) | (rw [z0 hc44]; done)) (by rfl)
              · refine px_iconst (v := 0) dX7_amiss_47 (by decide) ?_
                refine px_goto (tgt := 52) dX7_amiss_48 (by decide) ?_
                exact px_reti dX7_amiss_52 (by first | (rw [z1 hc44]; done) | (rw [z0 hc44]; done)) (by rfl)
            · exact absurd (nI_pos' (by omega)) hc22
          · exact absurd hi0 hc10
        · rw [hk] at hc4; cases hc4
  · have h0 : t_am C.1.1.A k i = -1 := by unfold t_am; rw [if_neg hk]
    rw [h0]
    refine CT.of [some (.ref r), some (.int k), some (.int i)] rfl (Nat.le_of_ble_eq_true rfl) pl_X7 trivial ?_
    refine px_iload_n dX7_amiss_0 rfl ?_
    refine px_callS1 (ν := mX7_isTarget) lk_X7_101 st_X7_isTarget mok_X7_isTarget dX7_amiss_1 (cr_isTarget _) rfl rfl (by omega) (by simp) ?_
    refine px_ifb_ne (tgt := 9) dX7_amiss_4 (by decide) (fun hc4 => ?_) (fun hc4 => ?_)
    · exact absurd hc4 hk
    · refine px_iconst (v := (-1)) dX7_amiss_7 (by decide) ?_
      exact px_reti dX7_amiss_8 (by rfl) (by rfl)
theorem m_trace (h : RP bk M C) (k i : Int32) : RQ B D n w r f 50 mX7_trace [.int k, .int i] bk M (.int (v_trace C.1.1.A k i)) C := by
  refine RQ.same h ?_
  have ham := c_X7_amiss (B := B) (D := D) (n := n) (w := w) (r := r) (f := f) h k i
  by_cases hk : s_isTarget k = true
  · obtain ⟨t, ht, rfl⟩ := inT.mp hk
    have hT := h.2.1.1.2.2.2 t ht rfl
    by_cases hm1 : i = -1
    · subst hm1
      have ha : t_am C.1.1.A (nI (8 + t)) (-1) = -1 := by unfold t_am; rw [if_pos hk, if_pos (by decide)]
      rw [ha] at ham
      cases hr : C.1.1.A.tr (8 + t) with
      | none =>
        rw [hr] at hT
        have hT : M.2.1 5 (424 + 25 * t) = -1 := hT
        have h0 : v_trace C.1.1.A (nI (8 + t)) (-1) = -3 := by unfold v_trace; rw [if_pos ⟨hk, by decide⟩, nI_clamp (by omega), hr]
        rw [h0]
        refine CT.of [some (.ref r), some (.int (nI (8 + t))), some (.int (-1)), none] rfl (Nat.le_of_ble_eq_true rfl) pl_X7 trivial ?_
        refine px_aload_n dX7_trace_0 rfl ?_
        refine px_iload_n dX7_trace_1 rfl ?_
        refine px_iload_n dX7_trace_2 rfl ?_
        refine px_callV1 (ν := mX7_amiss) (ci := 7) rfl rfl lk_X7_219 in_X7_amiss se_X7_amiss mok_X7_amiss dX7_trace_3 (ham) (by exact mH_0) rfl rfl (by omega) (by simp) ?_
        refine px_istore3 rfl dX7_trace_6 ?_
        refine px_iload_n dX7_trace_7 rfl ?_
        refine px_iconst (v := (-1)) dX7_trace_8 (by decide) ?_
        refine px_icmp_ne (tgt := 43) dX7_trace_9 (by decide) (fun hc9 => ?_) (fun hc9 => ?_)
        · exact absurd rfl hc9
        · refine px_iload_n dX7_trace_12 rfl ?_
          refine px_iconst (v := (-1)) dX7_trace_13 (by decide) ?_
          refine px_icmp_ne (tgt := 43) dX7_trace_14 (by decide) (fun hc14 => ?_) (fun hc14 => ?_)
          · exact absurd rfl hc14
          · refine px_iload_n dX7_trace_17 rfl ?_
            refine px_callS1 (ν := mX7_isTarget) lk_X7_101 st_X7_isTarget mok_X7_isTarget dX7_trace_18 (cr_isTarget _) rfl rfl (by omega) (by simp) ?_
            refine px_ifb_eq (tgt := 43) dX7_trace_21 (by decide) (fun hc21 => ?_) (fun hc21 => ?_)
            · rw [hk] at hc21; cases hc21
            · refine px_aload_n dX7_trace_24 rfl ?_
              refine px_iload_n dX7_trace_25 rfl ?_
              refine px_callV1 (ν := mX7_traced) (ci := 7) rfl rfl lk_X7_147 in_X7_traced se_X7_traced mok_X7_traced dX7_trace_26 (c_X7_traced ht) (by exact mH_0) rfl rfl (by omega) (by simp) ?_
              rw [hT]
              refine px_if_ge (tgt := 37) dX7_trace_29 (by decide) (fun hc29 => ?_) (fun hc29 => ?_)
              · exact absurd hc29 (by decide)
              · refine px_bipush (v := (-3)) dX7_trace_32 (by decide) ?_
                refine px_goto (tgt := 42) dX7_trace_34 (by decide) ?_
                exact px_reti dX7_trace_42 (by rfl) (by rfl)
      | some T =>
        rw [hr] at hT
        obtain ⟨t1, t2, t3⟩ := hT
        have h0 : v_trace C.1.1.A (nI (8 + t)) (-1) = nI T.length := by unfold v_trace; rw [if_pos ⟨hk, by decide⟩, nI_clamp (by omega), hr]; exact if_pos rfl
        rw [h0]
        refine CT.of [some (.ref r), some (.int (nI (8 + t))), some (.int (-1)), none] rfl (Nat.le_of_ble_eq_true rfl) pl_X7 trivial ?_
        refine px_aload_n dX7_trace_0 rfl ?_
        refine px_iload_n dX7_trace_1 rfl ?_
        refine px_iload_n dX7_trace_2 rfl ?_
        refine px_callV1 (ν := mX7_amiss) (ci := 7) rfl rfl lk_X7_219 in_X7_amiss se_X7_amiss mok_X7_amiss dX7_trace_3 (ham) (by exact mH_0) rfl rfl (by omega) (by simp) ?_
        refine px_istore3 rfl dX7_trace_6 ?_
        refine px_iload_n dX7_trace_7 rfl ?_
        refine px_iconst (v := (-1)) dX7_trace_8 (by decide) ?_
        refine px_icmp_ne (tgt := 43) dX7_trace_9 (by decide) (fun hc9 => ?_) (fun hc9 => ?_)
        · exact absurd rfl hc9
        · refine px_iload_n dX7_trace_12 rfl ?_
          refine px_iconst (v := (-1)) dX7_trace_13 (by decide) ?_
          refine px_icmp_ne (tgt := 43) dX7_trace_14 (by decide) (fun hc14 => ?_) (fun hc14 => ?_)
          · exact absurd rfl hc14
          · refine px_iload_n dX7_trace_17 rfl ?_
            refine px_callS1 (ν := mX7_isTarget) lk_X7_101 st_X7_isTarget mok_X7_isTarget dX7_trace_18 (cr_isTarget _) rfl rfl (by omega) (by simp) ?_
            refine px_ifb_eq (tgt := 43) dX7_trace_21 (by decide) (fun hc21 => ?_) (fun hc21 => ?_)
            · rw [hk] at hc21; cases hc21
            · refine px_aload_n dX7_trace_24 rfl ?_
              refine px_iload_n dX7_trace_25 rfl ?_
              refine px_callV1 (ν := mX7_traced) (ci := 7) rfl rfl lk_X7_147 in_X7_traced se_X7_traced mok_X7_traced dX7_trace_26 (c_X7_traced ht) (by exact mH_0) rfl rfl (by omega) (by simp) ?_
              rw [t2]
              refine px_if_ge (tgt := 37) dX7_trace_29 (by decide) (fun hc29 => ?_) (fun hc29 => ?_)
              · refine px_aload_n dX7_trace_37 rfl ?_
                refine px_iload_n dX7_trace_38 rfl ?_
                refine px_callV1 (ν := mX7_traced) (ci := 7) rfl rfl lk_X7_147 in_X7_traced se_X7_traced mok_X7_traced dX7_trace_39 (c_X7_traced ht) (by exact mH_0) rfl rfl (by omega) (by simp) ?_
                rw [t2]
                exact px_reti dX7_trace_42 (by rfl) (by rfl)
              · exact absurd (nI_pos' (by omega)) hc29
    · by_cases hok : t_am C.1.1.A (nI (8 + t)) i = 0
      · rw [hok] at ham
        have hi : ¬ i < 0 := fun e => by
          unfold t_am at hok
          rw [if_pos hk, if_pos e] at hok
          exact absurd hok (by decide)
        obtain ⟨q, hq, rfl⟩ := nI_of hi
        unfold t_am at hok
        rw [if_pos hk, if_neg hi, nI_clamp (by omega)] at hok
        cases hr : C.1.1.A.tr (8 + t) with
        | none => rw [hr] at hok; have hok : (-3 : Int32) = 0 := hok; exact absurd hok (by decide)
        | some T =>
          rw [hr] at hok hT
          obtain ⟨t1, t2, t3⟩ := hT
          have hok : (if (nI q).toNatClampNeg < T.length then (0 : Int32) else -1) = 0 := hok
          rw [nI_clamp hq] at hok
          by_cases hql : q < T.length
          · obtain ⟨x1, x2, x3, x4⟩ := t3 q _ (List.getElem?_eq_getElem hql)
            have hgt : ¬ nI q < -1 := fun e => by
              rw [Int32.lt_iff_toInt_lt, nI_toInt hq, show (-1 : Int32).toInt = -1 by decide] at e
              omega
            have h0 : v_trace C.1.1.A (nI (8 + t)) (nI q) = nI (T[q]).1 := by
              unfold v_trace
              rw [if_pos ⟨hk, hgt⟩, nI_clamp (by omega), hr]
              show (if nI q = -1 then _ else match T[(nI q).toNatClampNeg]? with | some x => nI x.1 | none => -1) = _
              rw [if_neg hm1, nI_clamp hq, List.getElem?_eq_getElem hql]
            rw [h0]
            refine CT.of [some (.ref r), some (.int (nI (8 + t))), some (.int (nI q)), none] rfl (Nat.le_of_ble_eq_true rfl) pl_X7 trivial ?_
            refine px_aload_n dX7_trace_0 rfl ?_
            refine px_iload_n dX7_trace_1 rfl ?_
            refine px_iload_n dX7_trace_2 rfl ?_
            refine px_callV1 (ν := mX7_amiss) (ci := 7) rfl rfl lk_X7_219 in_X7_amiss se_X7_amiss mok_X7_amiss dX7_trace_3 (ham) (by exact mH_0) rfl rfl (by omega) (by simp) ?_
            refine px_istore3 rfl dX7_trace_6 ?_
            refine px_iload_n dX7_trace_7 rfl ?_
            refine px_iconst (v := (-1)) dX7_trace_8 (by decide) ?_
            refine px_icmp_ne (tgt := 43) dX7_trace_9 (by decide) (fun hc9 => ?_) (fun hc9 => ?_)
            · refine px_iload_n dX7_trace_43 rfl ?_
              refine px_if_eq (tgt := 51) dX7_trace_44 (by decide) (fun hc44 => ?_) (fun hc44 => ?_)
              · refine px_aload_n dX7_trace_51 rfl ?_
                refine mx_get fl_X7_48 dX7_trace_52 rfl ?_
                refine px_aload_n dX7_trace_55 rfl ?_
                refine px_iload_n dX7_trace_56 rfl ?_
                refine px_callV1 (ν := mX7_traceAt) (ci := 7) rfl rfl lk_X7_98 in_X7_traceAt se_X7_traceAt mok_X7_traceAt dX7_trace_57 (c_X7_traceAt ht) (by exact mH_0) rfl rfl (by omega) (by simp) ?_
                refine px_iconst (v := 1) dX7_trace_60 (by decide) ?_
                refine px_iadd dX7_trace_61 ?_
                refine px_iload_n dX7_trace_62 rfl ?_
                refine px_iadd dX7_trace_63 ?_
                refine mx_iaload (j := 5) (m := 824) (q := 424 + 25 * t + 1 + q) dX7_trace_64 (by decide) (by first | rfl | (simp (disch := omega) only [li0, li1, li2, li3, li5, li6, li8, li9, li10, li12, li13, li16, li20, li24, li25, li100, li408, li424, li824, nI_add, nI_mul, nI_sub]; first | done | rfl | (congr 1; omega))) (by omega) ?_
                exact px_reti dX7_trace_65 (by rw [x1]) (by rfl)
              · exact absurd rfl hc44
            · exact absurd hc9 (by decide)
          · rw [if_neg hql] at hok; exact absurd hok (by decide)
      · have h0 : v_trace C.1.1.A (nI (8 + t)) i = t_am C.1.1.A (nI (8 + t)) i := by
          unfold v_trace
          unfold t_am at hok ⊢
          rw [if_pos hk] at hok ⊢
          by_cases hi : i < 0
          · have hlt : i < -1 := by
              simp only [Int32.lt_iff_toInt_lt, ← Int32.toInt_inj] at hi hm1 ⊢
              rw [show (0 : Int32).toInt = 0 by decide] at hi
              rw [show (-1 : Int32).toInt = -1 by decide] at hm1 ⊢
              omega
            rw [if_pos hi, if_neg (fun e => e.2 hlt)]
          · have hgt : ¬ i < -1 := fun e => hi (Int32.lt_trans e (by decide))
            rw [if_neg hi] at hok ⊢
            rw [if_pos ⟨hk, hgt⟩]
            cases hr : C.1.1.A.tr (nI (8 + t)).toNatClampNeg with
            | none => rfl
            | some T =>
              rw [hr] at hok
              have hok : ¬ (if i.toNatClampNeg < T.length then (0 : Int32) else -1) = 0 := hok
              show (if i = -1 then _ else match T[i.toNatClampNeg]? with | some x => nI x.1 | none => -1) = (if i.toNatClampNeg < T.length then (0 : Int32) else -1)
              rw [if_neg hm1]
              by_cases hql : i.toNatClampNeg < T.length
              · rw [if_pos hql] at hok; exact absurd rfl hok
              · rw [if_neg hql, List.getElem?_eq_none_iff.mpr (by omega)]
        rw [h0]
        refine CT.of [some (.ref r), some (.int (nI (8 + t))), some (.int i), none] rfl (Nat.le_of_ble_eq_true rfl) pl_X7 trivial ?_
        refine px_aload_n dX7_trace_0 rfl ?_
        refine px_iload_n dX7_trace_1 rfl ?_
        refine px_iload_n dX7_trace_2 rfl ?_
        refine px_callV1 (ν := mX7_amiss) (ci := 7) rfl rfl lk_X7_219 in_X7_amiss se_X7_amiss mok_X7_amiss dX7_trace_3 (ham) (by exact mH_0) rfl rfl (by omega) (by simp) ?_
        refine px_istore3 rfl dX7_trace_6 ?_
        refine px_iload_n dX7_trace_7 rfl ?_
        refine px_iconst (v := (-1)) dX7_trace_8 (by decide) ?_
        refine px_icmp_ne (tgt := 43) dX7_trace_9 (by decide) (fun hc9 => ?_) (fun hc9 => ?_)
        · refine px_iload_n dX7_trace_43 rfl ?_
          refine px_if_eq (tgt := 51) dX7_trace_44 (by decide) (fun hc44 => ?_) (fun hc44 => ?_)
          · exact absurd hc44 hok
          · refine px_iload_n dX7_trace_47 rfl ?_
            refine px_goto (tgt := 65) dX7_trace_48 (by decide) ?_
            exact px_reti dX7_trace_65 (by rfl) (by rfl)
        · refine px_iload_n dX7_trace_12 rfl ?_
          refine px_iconst (v := (-1)) dX7_trace_13 (by decide) ?_
          refine px_icmp_ne (tgt := 43) dX7_trace_14 (by decide) (fun hc14 => ?_) (fun hc14 => ?_)
          · refine px_iload_n dX7_trace_43 rfl ?_
            refine px_if_eq (tgt := 51) dX7_trace_44 (by decide) (fun hc44 => ?_) (fun hc44 => ?_)
            · exact absurd hc44 hok
            · refine px_iload_n dX7_trace_47 rfl ?_
              refine px_goto (tgt := 65) dX7_trace_48 (by decide) ?_
              exact px_reti dX7_trace_65 (by rfl) (by rfl)
          · exact absurd hc14 hm1
  · have h0 : v_trace C.1.1.A k i = -1 := by unfold v_trace; rw [if_neg (fun e => hk e.1)]
    have ha : t_am C.1.1.A k i = -1 := by unfold t_am; rw [if_neg hk]
    rw [ha] at ham
    rw [h0]
    refine CT.of [some (.ref r), some (.int k), some (.int i), none] rfl (Nat.le_of_ble_eq_true rfl) pl_X7 trivial ?_
    refine px_aload_n dX7_trace_0 rfl ?_
    refine px_iload_n dX7_trace_1 rfl ?_
    refine px_iload_n dX7_trace_2 rfl ?_
    refine px_callV1 (ν := mX7_amiss) (ci := 7) rfl rfl lk_X7_219 in_X7_amiss se_X7_amiss mok_X7_amiss dX7_trace_3 (ham) (by exact mH_0) rfl rfl (by omega) (by simp) ?_
    refine px_istore3 rfl dX7_trace_6 ?_
    refine px_iload_n dX7_trace_7 rfl ?_
    refine px_iconst (v := (-1)) dX7_trace_8 (by decide) ?_
    refine px_icmp_ne (tgt := 43) dX7_trace_9 (by decide) (fun hc9 => ?_) (fun hc9 => ?_)
    · exact absurd rfl hc9
    · refine px_iload_n dX7_trace_12 rfl ?_
      refine px_iconst (v := (-1)) dX7_trace_13 (by decide) ?_
      refine px_icmp_ne (tgt := 43) dX7_trace_14 (by decide) (fun hc14 => ?_) (fun hc14 => ?_)
      · refine px_iload_n dX7_trace_43 rfl ?_
        refine px_if_eq (tgt := 51) dX7_trace_44 (by decide) (fun hc44 => ?_) (fun hc44 => ?_)
        · exact absurd hc44 (by decide)
        · refine px_iload_n dX7_trace_47 rfl ?_
          refine px_goto (tgt := 65) dX7_trace_48 (by decide) ?_
          exact px_reti dX7_trace_65 (by rfl) (by rfl)
      · refine px_iload_n dX7_trace_17 rfl ?_
        refine px_callS1 (ν := mX7_isTarget) lk_X7_101 st_X7_isTarget mok_X7_isTarget dX7_trace_18 (cr_isTarget _) rfl rfl (by omega) (by simp) ?_
        refine px_ifb_eq (tgt := 43) dX7_trace_21 (by decide) (fun hc21 => ?_) (fun hc21 => ?_)
        · refine px_iload_n dX7_trace_43 rfl ?_
          refine px_if_eq (tgt := 51) dX7_trace_44 (by decide) (fun hc44 => ?_) (fun hc44 => ?_)
          · exact absurd hc44 (by decide)
          · refine px_iload_n dX7_trace_47 rfl ?_
            refine px_goto (tgt := 65) dX7_trace_48 (by decide) ?_
            exact px_reti dX7_trace_65 (by rfl) (by rfl)
        · exact absurd hc21 hk
theorem m_seen (h : RP bk M C) (k i : Int32) : RQ B D n w r f 50 mX7_seen [.int k, .int i] bk M (.int (v_seen C.1.1.A k i)) C := by
  refine RQ.same h ?_
  have ham := c_X7_amiss (B := B) (D := D) (n := n) (w := w) (r := r) (f := f) h k i
  by_cases hok : t_am C.1.1.A k i = 0
  · rw [hok] at ham
    have hk : s_isTarget k = true := by
      cases hk : s_isTarget k with
      | true => rfl
      | false =>
        unfold t_am at hok
        rw [if_neg (by rw [hk]; decide)] at hok
        exact absurd hok (by decide)
    obtain ⟨t, ht, rfl⟩ := inT.mp hk
    have hT := h.2.1.1.2.2.2 t ht rfl
    have hi : ¬ i < 0 := fun e => by
      unfold t_am at hok
      rw [if_pos hk, if_pos e] at hok
      exact absurd hok (by decide)
    obtain ⟨q, hq, rfl⟩ := nI_of hi
    unfold t_am at hok
    rw [if_pos hk, if_neg hi, nI_clamp (by omega)] at hok
    cases hr : C.1.1.A.tr (8 + t) with
    | none => rw [hr] at hok; have hok : (-3 : Int32) = 0 := hok; exact absurd hok (by decide)
    | some T =>
      rw [hr] at hok hT
      obtain ⟨t1, t2, t3⟩ := hT
      have hok : (if (nI q).toNatClampNeg < T.length then (0 : Int32) else -1) = 0 := hok
      rw [nI_clamp hq] at hok
      by_cases hql : q < T.length
      · obtain ⟨x1, x2, x3, x4⟩ := t3 q _ (List.getElem?_eq_getElem hql)
        have h0 : v_seen C.1.1.A (nI (8 + t)) (nI q) = toldL (T[q]).2 := by
          unfold v_seen
          rw [if_pos ⟨hk, hi⟩, nI_clamp (by omega), hr]
          show (match T[(nI q).toNatClampNeg]? with | some x => toldL x.2 | none => -1) = _
          rw [nI_clamp hq, List.getElem?_eq_getElem hql]
        rw [h0]
        refine CT.of [some (.ref r), some (.int (nI (8 + t))), some (.int (nI q)), none] rfl (Nat.le_of_ble_eq_true rfl) pl_X7 trivial ?_
        refine px_aload_n dX7_seen_0 rfl ?_
        refine px_iload_n dX7_seen_1 rfl ?_
        refine px_iload_n dX7_seen_2 rfl ?_
        refine px_callV1 (ν := mX7_amiss) (ci := 7) rfl rfl lk_X7_219 in_X7_amiss se_X7_amiss mok_X7_amiss dX7_seen_3 (ham) (by exact mH_0) rfl rfl (by omega) (by simp) ?_
        refine px_istore3 rfl dX7_seen_6 ?_
        refine px_iload_n dX7_seen_7 rfl ?_
        refine px_if_eq (tgt := 15) dX7_seen_8 (by decide) (fun hc8 => ?_) (fun hc8 => ?_)
        · refine px_aload_n dX7_seen_15 rfl ?_
          refine px_aload_n dX7_seen_16 rfl ?_
          refine mx_get fl_X7_48 dX7_seen_17 rfl ?_
          refine px_aload_n dX7_seen_20 rfl ?_
          refine px_iload_n dX7_seen_21 rfl ?_
          refine px_callV1 (ν := mX7_traceAt) (ci := 7) rfl rfl lk_X7_98 in_X7_traceAt se_X7_traceAt mok_X7_traceAt dX7_seen_22 (c_X7_traceAt ht) (by exact mH_0) rfl rfl (by omega) (by simp) ?_
          refine px_bipush (v := 13) dX7_seen_25 (by decide) ?_
          refine px_iadd dX7_seen_27 ?_
          refine px_iload_n dX7_seen_28 rfl ?_
          refine px_iadd dX7_seen_29 ?_
          refine mx_iaload (j := 5) (m := 824) (q := 424 + 25 * t + 13 + q) dX7_seen_30 (by decide) (by first | rfl | (simp (disch := omega) only [li0, li1, li2, li3, li5, li6, li8, li9, li10, li12, li13, li16, li20, li24, li25, li100, li408, li424, li824, nI_add, nI_mul, nI_sub]; first | done | rfl | (congr 1; omega))) (by omega) ?_
          refine px_callV1 (ν := mX7_toldOf) (ci := 7) rfl rfl lk_X7_211 in_X7_toldOf se_X7_toldOf mok_X7_toldOf dX7_seen_31 (c_X7_toldOf (o := some (T[q]).2) h.1 ⟨x3, x4⟩) (by exact mH_0) rfl rfl (by omega) (by simp) ?_
          exact px_reti dX7_seen_34 (by rfl) (by rfl)
        · exact absurd rfl hc8
      · rw [if_neg hql] at hok; exact absurd hok (by decide)
  · have h0 : v_seen C.1.1.A k i = t_am C.1.1.A k i := by
      unfold v_seen
      unfold t_am at hok ⊢
      by_cases hk : s_isTarget k = true
      · rw [if_pos hk] at hok ⊢
        by_cases hi : i < 0
        · rw [if_pos hi, if_neg (fun e => e.2 hi)]
        · rw [if_neg hi] at hok ⊢
          rw [if_pos ⟨hk, hi⟩]
          cases hr : C.1.1.A.tr k.toNatClampNeg with
          | none => rfl
          | some T =>
            rw [hr] at hok
            have hok : ¬ (if i.toNatClampNeg < T.length then (0 : Int32) else -1) = 0 := hok
            show (match T[i.toNatClampNeg]? with | some x => toldL x.2 | none => -1) = (if i.toNatClampNeg < T.length then (0 : Int32) else -1)
            by_cases hql : i.toNatClampNeg < T.length
            · rw [if_pos hql] at hok; exact absurd rfl hok
            · rw [if_neg hql, List.getElem?_eq_none_iff.mpr (by omega)]
      · rw [if_neg hk, if_neg (fun e => hk e.1)]
    rw [h0]
    refine CT.of [some (.ref r), some (.int k), some (.int i), none] rfl (Nat.le_of_ble_eq_true rfl) pl_X7 trivial ?_
    refine px_aload_n dX7_seen_0 rfl ?_
    refine px_iload_n dX7_seen_1 rfl ?_
    refine px_iload_n dX7_seen_2 rfl ?_
    refine px_callV1 (ν := mX7_amiss) (ci := 7) rfl rfl lk_X7_219 in_X7_amiss se_X7_amiss mok_X7_amiss dX7_seen_3 (ham) (by exact mH_0) rfl rfl (by omega) (by simp) ?_
    refine px_istore3 rfl dX7_seen_6 ?_
    refine px_iload_n dX7_seen_7 rfl ?_
    refine px_if_eq (tgt := 15) dX7_seen_8 (by decide) (fun hc8 => ?_) (fun hc8 => ?_)
    · exact absurd hc8 hok
    · refine px_iload_n dX7_seen_11 rfl ?_
      refine px_goto (tgt := 34) dX7_seen_12 (by decide) ?_
      exact px_reti dX7_seen_34 (by rfl) (by rfl)
theorem l_X7_isTraced_5 {d t : Nat} {key : Int32} (hd : 2 ≤ d) (ht : t < 16) {T : aAcc} (hT : T.length ≤ 12 ∧ M.2.1 5 (424 + 25 * t) = nI T.length ∧ ∀ (i : Nat) (x : Nat × List Q4), T[i]? = some x → M.2.1 5 (424 + 25 * t + 1 + i) = nI x.1) : ∀ (U : aAcc) (k : Nat) (b : Bool), T.drop k = U → k ≤ T.length → EX B D d mX7_isTraced 5 [some (.ref r), some (.int (nI (8 + t))), some (.int key), some (.int (bi b)), some (.int (nI k))] [] (n, w, mH r f M) (some (.int (bi (b || U.any (fun x => decide (nI x.1 = key)))))) (n, w, mH r f M)
  | [], k, b, hU, hk => by
    have hk2 : k = T.length := by have := List.drop_eq_nil_iff.mp hU; omega
    subst hk2
    rw [List.any_nil, Bool.or_false]
    refine px_iload dX7_isTraced_5 rfl ?_
    refine px_aload_n dX7_isTraced_7 rfl ?_
    refine px_iload_n dX7_isTraced_8 rfl ?_
    refine px_callV1 (ν := mX7_traced) (ci := 7) rfl rfl lk_X7_147 in_X7_traced se_X7_traced mok_X7_traced dX7_isTraced_9 (c_X7_traced ht) (by exact mH_0) rfl rfl (by omega) (by simp) ?_
    rw [hT.2.1]
    refine px_icmp_ge (tgt := 50) dX7_isTraced_12 (by decide) (fun hc12 => ?_) (fun hc12 => ?_)
    · refine px_iload_n dX7_isTraced_50 rfl ?_
      exact px_reti dX7_isTraced_51 (by rfl) (by rfl)
    · exact absurd (Int32.le_refl _) hc12
  | x :: U, k, b, hU, hk => by
    have hx : T[k]? = some x := by have := congrArg List.head? hU; rwa [List.head?_drop] at this
    have hk2 : k < T.length := (List.getElem?_eq_some_iff.mp hx).1
    have h12 := hT.1
    have hxx := hT.2.2 k x hx
    have hU2 : T.drop (k + 1) = U := by rw [← List.drop_drop, hU]; rfl
    have ih : ∀ z : Int32, z = bi (b || decide (nI x.1 = key)) → EX B D d mX7_isTraced 5 [some (.ref r), some (.int (nI (8 + t))), some (.int key), some (.int z), some (.int (nI (k + 1)))] [] (n, w, mH r f M) (some (.int (bi (b || (x :: U).any (fun x => decide (nI x.1 = key)))))) (n, w, mH r f M) := fun z hz => by
      subst hz
      have := l_X7_isTraced_5 (d := d) (key := key) hd ht hT U (k + 1) (b || decide (nI x.1 = key)) hU2 (by omega)
      rw [Bool.or_assoc] at this
      rw [List.any_cons]
      exact this
    have q0 : b = true → (1 : Int32) = bi (b || decide (nI x.1 = key)) := fun e => by rw [e]; rfl
    have q1 : M.2.1 5 (424 + 25 * t + 1 + k) = key → (1 : Int32) = bi (b || decide (nI x.1 = key)) := fun e => by rw [decide_eq_true (hxx.symm.trans e)]; cases b <;> rfl
    have q2 : ¬ M.2.1 5 (424 + 25 * t + 1 + k) = key → b = false → (0 : Int32) = bi (b || decide (nI x.1 = key)) := fun e eb => by rw [decide_eq_false (fun e2 => e (hxx.trans e2)), eb]; rfl
    refine px_iload dX7_isTraced_5 rfl ?_
    refine px_aload_n dX7_isTraced_7 rfl ?_
    refine px_iload_n dX7_isTraced_8 rfl ?_
    refine px_callV1 (ν := mX7_traced) (ci := 7) rfl rfl lk_X7_147 in_X7_traced se_X7_traced mok_X7_traced dX7_isTraced_9 (c_X7_traced ht) (by exact mH_0) rfl rfl (by omega) (by simp) ?_
    rw [hT.2.1]
    refine px_icmp_ge (tgt := 50) dX7_isTraced_12 (by decide) (fun hc12 => ?_) (fun hc12 => ?_)
    · exact absurd hc12 (nI_ge hk2 (by omega))
    · refine px_iload_n dX7_isTraced_15 rfl ?_
      refine px_ifb_ne (tgt := 38) dX7_isTraced_16 (by decide) (fun hc16 => ?_) (fun hc16 => ?_)
      · refine px_iconst (v := 1) dX7_isTraced_38 (by decide) ?_
        refine px_goto (tgt := 43) dX7_isTraced_39 (by decide) ?_
        refine px_istore3 rfl dX7_isTraced_43 ?_
        refine px_iinc4 rfl (nI_inc k) dX7_isTraced_44 ?_
        refine px_goto (tgt := 5) dX7_isTraced_47 (by decide) ?_
        exact ih _ (by first | exact q0 hc16 | exact q1 hc35 | exact q2 hc35 hc16)
      · refine px_aload_n dX7_isTraced_19 rfl ?_
        refine mx_get fl_X7_48 dX7_isTraced_20 rfl ?_
        refine px_aload_n dX7_isTraced_23 rfl ?_
        refine px_iload_n dX7_isTraced_24 rfl ?_
        refine px_callV1 (ν := mX7_traceAt) (ci := 7) rfl rfl lk_X7_98 in_X7_traceAt se_X7_traceAt mok_X7_traceAt dX7_isTraced_25 (c_X7_traceAt ht) (by exact mH_0) rfl rfl (by omega) (by simp) ?_
        refine px_iconst (v := 1) dX7_isTraced_28 (by decide) ?_
        refine px_iadd dX7_isTraced_29 ?_
        refine px_iload dX7_isTraced_30 rfl ?_
        refine px_iadd dX7_isTraced_32 ?_
        refine mx_iaload (j := 5) (m := 824) (q := 424 + 25 * t + 1 + k) dX7_isTraced_33 (by decide) (by first | rfl | (simp (disch := omega) only [li0, li1, li2, li3, li5, li6, li8, li9, li10, li12, li13, li16, li20, li24, li25, li100, li408, li424, li824, nI_add, nI_mul, nI_sub]; first | done | rfl | (congr 1; omega))) (by omega) ?_
        refine px_iload_n dX7_isTraced_34 rfl ?_
        refine px_icmp_ne (tgt := 42) dX7_isTraced_35 (by decide) (fun hc35 => ?_) (fun hc35 => ?_)
        · refine px_iconst (v := 0) dX7_isTraced_42 (by decide) ?_
          refine px_istore3 rfl dX7_isTraced_43 ?_
          refine px_iinc4 rfl (nI_inc k) dX7_isTraced_44 ?_
          refine px_goto (tgt := 5) dX7_isTraced_47 (by decide) ?_
          exact ih _ (by first | exact q0 hc16 | exact q1 hc35 | exact q2 hc35 hc16)
        · refine px_iconst (v := 1) dX7_isTraced_38 (by decide) ?_
          refine px_goto (tgt := 43) dX7_isTraced_39 (by decide) ?_
          refine px_istore3 rfl dX7_isTraced_43 ?_
          refine px_iinc4 rfl (nI_inc k) dX7_isTraced_44 ?_
          refine px_goto (tgt := 5) dX7_isTraced_47 (by decide) ?_
          exact ih _ (by first | exact q0 hc16 | exact q1 hc35 | exact q2 hc35 hc16)
theorem c_X7_isTraced (h : RP bk M C) {t : Nat} {key : Int32} (ht : t < 16) : CT B D 2 mX7_isTraced [.ref r, .int (nI (8 + t)), .int key] (n, w, mH r f M) (some (.int (bi (aTraces C.1.1.A key (8 + t))))) (n, w, mH r f M) := by
  have hT := h.2.1.1.2.2.2 t ht rfl
  unfold aTraces
  cases hr : C.1.1.A.tr (8 + t) with
  | none =>
    rw [hr] at hT
    have hT : M.2.1 5 (424 + 25 * t) = -1 := hT
    refine CT.of [some (.ref r), some (.int (nI (8 + t))), some (.int key), none, none] rfl (Nat.le_of_ble_eq_true rfl) pl_X7 (bi_01 _) ?_
    refine px_iconst (v := 0) dX7_isTraced_0 (by decide) ?_
    refine px_istore3 rfl dX7_isTraced_1 ?_
    refine px_iconst (v := 0) dX7_isTraced_2 (by decide) ?_
    refine px_istore4 rfl dX7_isTraced_3 ?_
    refine px_iload dX7_isTraced_5 rfl ?_
    refine px_aload_n dX7_isTraced_7 rfl ?_
    refine px_iload_n dX7_isTraced_8 rfl ?_
    refine px_callV1 (ν := mX7_traced) (ci := 7) rfl rfl lk_X7_147 in_X7_traced se_X7_traced mok_X7_traced dX7_isTraced_9 (c_X7_traced ht) (by exact mH_0) rfl rfl (by omega) (by simp) ?_
    rw [hT]
    refine px_icmp_ge (tgt := 50) dX7_isTraced_12 (by decide) (fun hc12 => ?_) (fun hc12 => ?_)
    · refine px_iload_n dX7_isTraced_50 rfl ?_
      exact px_reti dX7_isTraced_51 (by rfl) (by rfl)
    · exact absurd (by decide) hc12
  | some T =>
    rw [hr] at hT
    obtain ⟨t1, t2, t3⟩ := hT
    have ih := l_X7_isTraced_5 (B := B) (D := D) (n := n) (w := w) (r := r) (f := f) (M := M) (d := 2) (key := key) (Nat.le_refl _) ht (T := T) ⟨t1, t2, fun i x hx => (t3 i x hx).1⟩ T 0 false rfl (Nat.zero_le _)
    refine CT.of [some (.ref r), some (.int (nI (8 + t))), some (.int key), none, none] rfl (Nat.le_of_ble_eq_true rfl) pl_X7 (bi_01 _) ?_
    refine px_iconst (v := 0) dX7_isTraced_0 (by decide) ?_
    refine px_istore3 rfl dX7_isTraced_1 ?_
    refine px_iconst (v := 0) dX7_isTraced_2 (by decide) ?_
    refine px_istore4 rfl dX7_isTraced_3 ?_
    exact ih
theorem l_X7_users_13 {d : Nat} {k : Int32} (hd : 3 ≤ d) (h : RP bk M C) : ∀ (q t : Nat) (x : Int32), t + q = 16 → EX B D d mX7_users 13 [some (.ref r), some (.int k), some (.int (x)), some (.int (nI t))] [] (n, w, mH r f M) (some (.int (bitsF (fun t => aTraces C.1.1.A k (8 + t)) q t x))) (n, w, mH r f M)
  | 0, t, x, ht => by
    have : t = 16 := by omega
    subst this
    refine px_iload_n dX7_users_13 rfl ?_
    refine px_bipush (v := 16) dX7_users_14 (by decide) ?_
    refine px_icmp_ge (tgt := 47) dX7_users_16 (by decide) (fun hc16 => ?_) (fun hc16 => ?_)
    · refine px_iload_n dX7_users_47 rfl ?_
      exact px_reti dX7_users_48 (by rfl) (by rfl)
    · exact absurd (by decide) hc16
  | q + 1, t, x, ht => by
    have ht2 : t < 16 := by omega
    have ih : ∀ y : Int32, y = (if aTraces C.1.1.A k (8 + t) = true then x ||| ((1 : Int32) <<< (nI t &&& 31)) else x) → EX B D d mX7_users 13 [some (.ref r), some (.int k), some (.int (y)), some (.int (nI (t + 1)))] [] (n, w, mH r f M) (some (.int (bitsF (fun t => aTraces C.1.1.A k (8 + t)) (q + 1) t x))) (n, w, mH r f M) := fun y hy => by
      subst hy
      exact l_X7_users_13 (d := d) (k := k) hd h q (t + 1) _ (by omega)
    have z1 : aTraces C.1.1.A k (8 + t) = true → x ||| ((1 : Int32) <<< (nI t &&& 31)) = (if aTraces C.1.1.A k (8 + t) = true then x ||| ((1 : Int32) <<< (nI t &&& 31)) else x) := fun e => by rw [if_pos e]
    have z0 : aTraces C.1.1.A k (8 + t) = false → x ||| 0 = (if aTraces C.1.1.A k (8 + t) = true then x ||| ((1 : Int32) <<< (nI t &&& 31)) else x) := fun e => by rw [if_neg (by rw [e]; decide), or_zero]
    refine px_iload_n dX7_users_13 rfl ?_
    refine px_bipush (v := 16) dX7_users_14 (by decide) ?_
    refine px_icmp_ge (tgt := 47) dX7_users_16 (by decide) (fun hc16 => ?_) (fun hc16 => ?_)
    · exact absurd hc16 (nI_ge (a := t) (b := 16) (by omega) (by omega))
    · refine px_iload_n dX7_users_19 rfl ?_
      refine px_aload_n dX7_users_20 rfl ?_
      refine px_bipush (v := 8) dX7_users_21 (by decide) ?_
      refine px_iload_n dX7_users_23 rfl ?_
      refine px_iadd dX7_users_24 ?_
      rw [show (8 : Int32) + nI t = nI (8 + t) from nI_add 8 t]
      refine px_iload_n dX7_users_25 rfl ?_
      refine px_callV1 (ν := mX7_isTraced) (ci := 7) rfl rfl lk_X7_222 in_X7_isTraced se_X7_isTraced mok_X7_isTraced dX7_users_26 (c_X7_isTraced h ht2) (by exact mH_0) rfl rfl (by omega) (by simp) ?_
      refine px_ifb_eq (tgt := 38) dX7_users_29 (by decide) (fun hc29 => ?_) (fun hc29 => ?_)
      · refine px_iconst (v := 0) dX7_users_38 (by decide) ?_
        refine px_ior dX7_users_39 ?_
        refine px_istore2 rfl dX7_users_40 ?_
        refine px_iinc3 rfl (nI_inc t) dX7_users_41 ?_
        refine px_goto (tgt := 13) dX7_users_44 (by decide) ?_
        exact ih _ (by first | exact z1 hc29 | exact z0 hc29)
      · refine px_iconst (v := 1) dX7_users_32 (by decide) ?_
        refine px_iload_n dX7_users_33 rfl ?_
        refine px_ishl dX7_users_34 ?_
        refine px_goto (tgt := 39) dX7_users_35 (by decide) ?_
        refine px_ior dX7_users_39 ?_
        refine px_istore2 rfl dX7_users_40 ?_
        refine px_iinc3 rfl (nI_inc t) dX7_users_41 ?_
        refine px_goto (tgt := 13) dX7_users_44 (by decide) ?_
        exact ih _ (by first | exact z1 hc29 | exact z0 hc29)
theorem m_users (h : RP bk M C) (k : Int32) : RQ B D n w r f 50 mX7_users [.int k] bk M (.int (v_users C.1.1.A k)) C := by
  refine RQ.same h ?_
  by_cases hk : s_isKey k = true
  · have h0 : v_users C.1.1.A k = bitsF (fun t => aTraces C.1.1.A k (8 + t)) 16 0 0 := by unfold v_users; rw [if_pos hk]
    rw [h0]
    refine CT.of [some (.ref r), some (.int k), none, none] rfl (Nat.le_of_ble_eq_true rfl) pl_X7 trivial ?_
    refine px_iload_n dX7_users_0 rfl ?_
    refine px_callS1 (ν := mX7_isKey) lk_X7_208 st_X7_isKey mok_X7_isKey dX7_users_1 (cr_isKey _) rfl rfl (by omega) (by simp) ?_
    refine px_ifb_ne (tgt := 9) dX7_users_4 (by decide) (fun hc4 => ?_) (fun hc4 => ?_)
    · refine px_iconst (v := 0) dX7_users_9 (by decide) ?_
      refine px_istore2 rfl dX7_users_10 ?_
      refine px_iconst (v := 0) dX7_users_11 (by decide) ?_
      refine px_istore3 rfl dX7_users_12 ?_
      exact l_X7_users_13 (by omega) h 16 0 0 rfl
    · rw [hk] at hc4; cases hc4
  · have h0 : v_users C.1.1.A k = -1 := by unfold v_users; rw [if_neg hk]
    rw [h0]
    refine CT.of [some (.ref r), some (.int k), none, none] rfl (Nat.le_of_ble_eq_true rfl) pl_X7 trivial ?_
    refine px_iload_n dX7_users_0 rfl ?_
    refine px_callS1 (ν := mX7_isKey) lk_X7_208 st_X7_isKey mok_X7_isKey dX7_users_1 (cr_isKey _) rfl rfl (by omega) (by simp) ?_
    refine px_ifb_ne (tgt := 9) dX7_users_4 (by decide) (fun hc4 => ?_) (fun hc4 => ?_)
    · exact absurd hc4 hk
    · refine px_iconst (v := (-1)) dX7_users_7 (by decide) ?_
      exact px_reti dX7_users_8 (by rfl) (by rfl)
end M69
