/-! more calls that only look -/
section M33
variable {B : Nat} {D : va_G} {n w : Nat} {f : Nat → Option va_E} {e : Nat} {im : Bool} {A : AW}
theorem c_X6_step (he : f e = some (ecell e im)) (hW : IsW f (e + 1 + 1) A) (k i : Int32) : CT B D 5 mX6_step [.ref e, .int k, .int i] (n, w, f) (some (.int (v_step A k i))) (n, w, f) := by
  by_cases hk : s_isTarget k = true ∧ ¬ i < -1
  · obtain ⟨hk1, hk2⟩ := id hk
    have hk3 : (-1 : Int32) ≤ i := by rw [Int32.le_iff_toInt_le]; rw [Int32.lt_iff_toInt_lt] at hk2; omega
    obtain ⟨t, ht, rfl⟩ := inT.mp hk1
    obtain ⟨c, q, l, sg, fg, tk, tp, h1, h2, h3, h4, h5, h6⟩ := hW.2.2.2.2.2 t ht
    subst h3
    have hz : (nI (A.ru (8 + t)).length = 0) = ((A.ru (8 + t)).isEmpty = true) := propext ((nI_eq (a := (A.ru (8 + t)).length) (b := 0) (by omega) (by omega)).trans (by rw [List.isEmpty_iff_length_eq_zero]))
    by_cases hem : (A.ru (8 + t)).isEmpty = true
    · have hv2 : v_step A (nI (8 + t)) i = -3 := by unfold v_step; rw [if_pos hk, clamp_lt _ (by omega), if_pos hem]
      rw [hv2]
      refine CT.of [some (.ref e), some (.int (nI (8 + t))), some (.int i), none] rfl (Nat.le_of_ble_eq_true rfl) pl_X6 trivial ?_
      refine px_aload_n dX6_step_0 rfl ?_
      refine px_getfield fl_X6_25 dX6_step_1 (by first | exact he | exact hW.1 | exact h1.1) (by rfl) ?_
      refine px_iload_n dX6_step_4 rfl ?_
      refine px_callV1 (ν := mX5_targetOf) (ci := 5) rfl rfl lk_X6_82 in_X5_targetOf se_X5_targetOf mok_X5_targetOf dX6_step_5 (c_X5_targetOf hW ht) (by first | exact he | exact hW.1 | exact h1.1) rfl rfl (by omega) (by simp) ?_
      refine px_astore3 rfl dX6_step_8 ?_
      refine px_aload_n dX6_step_9 rfl ?_
      refine px_ifnull_f dX6_step_10 ?_
      refine px_iload_n dX6_step_13 rfl ?_
      refine px_iconst (v := (-1)) dX6_step_14 (by decide) ?_
      refine px_icmp_ge (tgt := 20) dX6_step_15 (by decide) (fun hc15 => ?_) (fun hc15 => ?_)
      · refine px_aload_n dX6_step_20 rfl ?_
        refine px_getfield fl_X6_95 dX6_step_21 (by first | exact he | exact hW.1 | exact h1.1) (by rfl) ?_
        refine px_if_ne (tgt := 30) dX6_step_24 (by decide) (fun hc24 => ?_) (fun hc24 => ?_)
        · exact absurd (hz.mpr hem) hc24
        · refine px_bipush (v := (-3)) dX6_step_27 (by decide) ?_
          exact px_reti dX6_step_29 (by rfl) (by rfl)
      · exact absurd hk3 hc15
    · by_cases hi1 : i = -1
      · have hv2 : v_step A (nI (8 + t)) i = nI (A.ru (8 + t)).length := by unfold v_step; rw [if_pos hk, clamp_lt _ (by omega), if_neg hem, if_pos hi1]
        rw [hv2]
        refine CT.of [some (.ref e), some (.int (nI (8 + t))), some (.int i), none] rfl (Nat.le_of_ble_eq_true rfl) pl_X6 trivial ?_
        refine px_aload_n dX6_step_0 rfl ?_
        refine px_getfield fl_X6_25 dX6_step_1 (by first | exact he | exact hW.1 | exact h1.1) (by rfl) ?_
        refine px_iload_n dX6_step_4 rfl ?_
        refine px_callV1 (ν := mX5_targetOf) (ci := 5) rfl rfl lk_X6_82 in_X5_targetOf se_X5_targetOf mok_X5_targetOf dX6_step_5 (c_X5_targetOf hW ht) (by first | exact he | exact hW.1 | exact h1.1) rfl rfl (by omega) (by simp) ?_
        refine px_astore3 rfl dX6_step_8 ?_
        refine px_aload_n dX6_step_9 rfl ?_
        refine px_ifnull_f dX6_step_10 ?_
        refine px_iload_n dX6_step_13 rfl ?_
        refine px_iconst (v := (-1)) dX6_step_14 (by decide) ?_
        refine px_icmp_ge (tgt := 20) dX6_step_15 (by decide) (fun hc15 => ?_) (fun hc15 => ?_)
        · refine px_aload_n dX6_step_20 rfl ?_
          refine px_getfield fl_X6_95 dX6_step_21 (by first | exact he | exact hW.1 | exact h1.1) (by rfl) ?_
          refine px_if_ne (tgt := 30) dX6_step_24 (by decide) (fun hc24 => ?_) (fun hc24 => ?_)
          · refine px_iload_n dX6_step_30 rfl ?_
            refine px_iconst (v := (-1)) dX6_step_31 (by decide) ?_
            refine px_icmp_ne (tgt := 40) dX6_step_32 (by decide) (fun hc32 => ?_) (fun hc32 => ?_)
            · exact absurd hi1 hc32
            · refine px_aload_n dX6_step_35 rfl ?_
              refine px_getfield fl_X6_95 dX6_step_36 (by first | exact he | exact hW.1 | exact h1.1) (by rfl) ?_
              exact px_reti dX6_step_39 (by rfl) (by rfl)
          · exact absurd (hz.mp hc24) hem
        · exact absurd hk3 hc15
      · obtain ⟨mm, hmm, rfl⟩ := nI_of (ge_m1 hk2 hi1)
        by_cases hlt : mm < (A.ru (8 + t)).length
        · obtain ⟨x, hx⟩ : ∃ x, (A.ru (8 + t))[mm]? = some x := ⟨_, List.getElem?_eq_getElem hlt⟩
          have hv2 : v_step A (nI (8 + t)) (nI mm) = 100 * x.1 + nI x.2 := by unfold v_step; rw [if_pos hk, clamp_lt _ (by omega), if_neg hem, if_neg hi1, nI_clamp hmm, hx]
          obtain ⟨e1, e2⟩ := h4 mm x hx
          have hin : ¬ (nI mm < 0 ∨ nI (A.ru (8 + t)).length ≤ nI mm) := by rintro (z | z); exact nI_pos hmm z; exact nI_ge hlt (by omega) z
          have hS := c_X4_signAt (B := B) (D := D) (n := n) (w := w) h1 (by rw [nI_toInt (by omega)]; omega) (nI mm)
          have hF := c_X4_figuresAt (B := B) (D := D) (n := n) (w := w) h1 (by rw [nI_toInt (by omega)]; omega) (nI mm)
          rw [if_neg hin, nI_clamp hmm, e1] at hS
          rw [if_neg hin, nI_clamp hmm, e2] at hF
          rw [hv2]
          refine CT.of [some (.ref e), some (.int (nI (8 + t))), some (.int (nI mm)), none] rfl (Nat.le_of_ble_eq_true rfl) pl_X6 trivial ?_
          refine px_aload_n dX6_step_0 rfl ?_
          refine px_getfield fl_X6_25 dX6_step_1 (by first | exact he | exact hW.1 | exact h1.1) (by rfl) ?_
          refine px_iload_n dX6_step_4 rfl ?_
          refine px_callV1 (ν := mX5_targetOf) (ci := 5) rfl rfl lk_X6_82 in_X5_targetOf se_X5_targetOf mok_X5_targetOf dX6_step_5 (c_X5_targetOf hW ht) (by first | exact he | exact hW.1 | exact h1.1) rfl rfl (by omega) (by simp) ?_
          refine px_astore3 rfl dX6_step_8 ?_
          refine px_aload_n dX6_step_9 rfl ?_
          refine px_ifnull_f dX6_step_10 ?_
          refine px_iload_n dX6_step_13 rfl ?_
          refine px_iconst (v := (-1)) dX6_step_14 (by decide) ?_
          refine px_icmp_ge (tgt := 20) dX6_step_15 (by decide) (fun hc15 => ?_) (fun hc15 => ?_)
          · refine px_aload_n dX6_step_20 rfl ?_
            refine px_getfield fl_X6_95 dX6_step_21 (by first | exact he | exact hW.1 | exact h1.1) (by rfl) ?_
            refine px_if_ne (tgt := 30) dX6_step_24 (by decide) (fun hc24 => ?_) (fun hc24 => ?_)
            · refine px_iload_n dX6_step_30 rfl ?_
              refine px_iconst (v := (-1)) dX6_step_31 (by decide) ?_
              refine px_icmp_ne (tgt := 40) dX6_step_32 (by decide) (fun hc32 => ?_) (fun hc32 => ?_)
              · refine px_iload_n dX6_step_40 rfl ?_
                refine px_aload_n dX6_step_41 rfl ?_
                refine px_getfield fl_X6_95 dX6_step_42 (by first | exact he | exact hW.1 | exact h1.1) (by rfl) ?_
                refine px_icmp_ge (tgt := 65) dX6_step_45 (by decide) (fun hc45 => ?_) (fun hc45 => ?_)
                · exact absurd hc45 (nI_ge hlt (by omega))
                · refine px_bipush (v := 100) dX6_step_48 (by decide) ?_
                  refine px_aload_n dX6_step_50 rfl ?_
                  refine px_iload_n dX6_step_51 rfl ?_
                  refine px_callV1 (ν := mX4_signAt) (ci := 4) rfl rfl lk_X6_105 in_X4_signAt se_X4_signAt mok_X4_signAt dX6_step_52 (hS) (by first | exact he | exact hW.1 | exact h1.1) rfl rfl (by omega) (by simp) ?_
                  refine px_imul dX6_step_55 ?_
                  refine px_aload_n dX6_step_56 rfl ?_
                  refine px_iload_n dX6_step_57 rfl ?_
                  refine px_callV1 (ν := mX4_figuresAt) (ci := 4) rfl rfl lk_X6_109 in_X4_figuresAt se_X4_figuresAt mok_X4_figuresAt dX6_step_58 (hF) (by first | exact he | exact hW.1 | exact h1.1) rfl rfl (by omega) (by simp) ?_
                  refine px_iadd dX6_step_61 ?_
                  refine px_goto (tgt := 66) dX6_step_62 (by decide) ?_
                  exact px_reti dX6_step_66 (by rfl) (by rfl)
              · exact absurd hc32 hi1
            · exact absurd (hz.mp hc24) hem
          · exact absurd hk3 hc15
        · have hv2 : v_step A (nI (8 + t)) (nI mm) = -1 := by unfold v_step; rw [if_pos hk, clamp_lt _ (by omega), if_neg hem, if_neg hi1, nI_clamp hmm, List.getElem?_eq_none (by omega)]
          rw [hv2]
          refine CT.of [some (.ref e), some (.int (nI (8 + t))), some (.int (nI mm)), none] rfl (Nat.le_of_ble_eq_true rfl) pl_X6 trivial ?_
          refine px_aload_n dX6_step_0 rfl ?_
          refine px_getfield fl_X6_25 dX6_step_1 (by first | exact he | exact hW.1 | exact h1.1) (by rfl) ?_
          refine px_iload_n dX6_step_4 rfl ?_
          refine px_callV1 (ν := mX5_targetOf) (ci := 5) rfl rfl lk_X6_82 in_X5_targetOf se_X5_targetOf mok_X5_targetOf dX6_step_5 (c_X5_targetOf hW ht) (by first | exact he | exact hW.1 | exact h1.1) rfl rfl (by omega) (by simp) ?_
          refine px_astore3 rfl dX6_step_8 ?_
          refine px_aload_n dX6_step_9 rfl ?_
          refine px_ifnull_f dX6_step_10 ?_
          refine px_iload_n dX6_step_13 rfl ?_
          refine px_iconst (v := (-1)) dX6_step_14 (by decide) ?_
          refine px_icmp_ge (tgt := 20) dX6_step_15 (by decide) (fun hc15 => ?_) (fun hc15 => ?_)
          · refine px_aload_n dX6_step_20 rfl ?_
            refine px_getfield fl_X6_95 dX6_step_21 (by first | exact he | exact hW.1 | exact h1.1) (by rfl) ?_
            refine px_if_ne (tgt := 30) dX6_step_24 (by decide) (fun hc24 => ?_) (fun hc24 => ?_)
            · refine px_iload_n dX6_step_30 rfl ?_
              refine px_iconst (v := (-1)) dX6_step_31 (by decide) ?_
              refine px_icmp_ne (tgt := 40) dX6_step_32 (by decide) (fun hc32 => ?_) (fun hc32 => ?_)
              · refine px_iload_n dX6_step_40 rfl ?_
                refine px_aload_n dX6_step_41 rfl ?_
                refine px_getfield fl_X6_95 dX6_step_42 (by first | exact he | exact hW.1 | exact h1.1) (by rfl) ?_
                refine px_icmp_ge (tgt := 65) dX6_step_45 (by decide) (fun hc45 => ?_) (fun hc45 => ?_)
                · refine px_iconst (v := (-1)) dX6_step_65 (by decide) ?_
                  exact px_reti dX6_step_66 (by rfl) (by rfl)
                · exact absurd (nI_le (by omega) hmm) hc45
              · exact absurd hc32 hi1
            · exact absurd (hz.mp hc24) hem
          · exact absurd hk3 hc15
  · have hv2 : v_step A k i = -1 := by unfold v_step; rw [if_neg hk]
    rw [hv2]
    by_cases hk1 : s_isTarget k = true
    · obtain ⟨t, ht, rfl⟩ := inT.mp hk1
      refine CT.of [some (.ref e), some (.int (nI (8 + t))), some (.int i), none] rfl (Nat.le_of_ble_eq_true rfl) pl_X6 trivial ?_
      refine px_aload_n dX6_step_0 rfl ?_
      refine px_getfield fl_X6_25 dX6_step_1 (by first | exact he | exact hW.1) (by rfl) ?_
      refine px_iload_n dX6_step_4 rfl ?_
      refine px_callV1 (ν := mX5_targetOf) (ci := 5) rfl rfl lk_X6_82 in_X5_targetOf se_X5_targetOf mok_X5_targetOf dX6_step_5 (c_X5_targetOf hW ht) (by first | exact he | exact hW.1) rfl rfl (by omega) (by simp) ?_
      refine px_astore3 rfl dX6_step_8 ?_
      refine px_aload_n dX6_step_9 rfl ?_
      refine px_ifnull_f dX6_step_10 ?_
      refine px_iload_n dX6_step_13 rfl ?_
      refine px_iconst (v := (-1)) dX6_step_14 (by decide) ?_
      refine px_icmp_ge (tgt := 20) dX6_step_15 (by decide) (fun hc15 => ?_) (fun hc15 => ?_)
      · exact absurd ⟨hk1, by rw [Int32.lt_iff_toInt_lt]; rw [Int32.le_iff_toInt_le] at hc15; omega⟩ hk
      · refine px_iconst (v := (-1)) dX6_step_18 (by decide) ?_
        exact px_reti dX6_step_19 (by rfl) (by rfl)
    · have hk' : s_isTarget k = false := by simpa using hk1
      refine CT.of [some (.ref e), some (.int k), some (.int i), none] rfl (Nat.le_of_ble_eq_true rfl) pl_X6 trivial ?_
      refine px_aload_n dX6_step_0 rfl ?_
      refine px_getfield fl_X6_25 dX6_step_1 (by first | exact he | exact hW.1) (by rfl) ?_
      refine px_iload_n dX6_step_4 rfl ?_
      refine px_callV1 (ν := mX5_targetOf) (ci := 5) rfl rfl lk_X6_82 in_X5_targetOf se_X5_targetOf mok_X5_targetOf dX6_step_5 (c_X5_targetOf_n hk') (by first | exact he | exact hW.1) rfl rfl (by omega) (by simp) ?_
      refine px_astoreN3 rfl dX6_step_8 ?_
      refine px_aload_nN dX6_step_9 rfl ?_
      refine px_ifnull_t (tgt := 18) dX6_step_10 (by decide) ?_
      refine px_iconst (v := (-1)) dX6_step_18 (by decide) ?_
      exact px_reti dX6_step_19 (by rfl) (by rfl)
theorem c_X6_trace (he : f e = some (ecell e im)) (hW : IsW f (e + 1 + 1) A) (k i : Int32) : CT B D 5 mX6_trace [.ref e, .int k, .int i] (n, w, f) (some (.int (v_trace A k i))) (n, w, f) := by
  by_cases hk : s_isTarget k = true ∧ ¬ i < -1
  · obtain ⟨hk1, hk2⟩ := id hk
    have hk3 : (-1 : Int32) ≤ i := by rw [Int32.le_iff_toInt_le]; rw [Int32.lt_iff_toInt_lt] at hk2; omega
    obtain ⟨t, ht, rfl⟩ := inT.mp hk1
    have hta := hW.2.2.2.2.2 t ht
    have hh := hta.has (B := B) (D := D) (n := n) (w := w)
    cases htr : A.tr (8 + t) with
    | none =>
      rw [htr] at hh
      obtain ⟨h12, q, l, hcell⟩ := hta.cell
      have hv2 : v_trace A (nI (8 + t)) i = -3 := by unfold v_trace; rw [if_pos hk, clamp_lt _ (by omega), htr]
      rw [hv2]
      refine CT.of [some (.ref e), some (.int (nI (8 + t))), some (.int i), none] rfl (Nat.le_of_ble_eq_true rfl) pl_X6 trivial ?_
      refine px_aload_n dX6_trace_0 rfl ?_
      refine px_getfield fl_X6_25 dX6_trace_1 (by first | exact he | exact hW.1 | exact hcell) (by rfl) ?_
      refine px_iload_n dX6_trace_4 rfl ?_
      refine px_callV1 (ν := mX5_targetOf) (ci := 5) rfl rfl lk_X6_82 in_X5_targetOf se_X5_targetOf mok_X5_targetOf dX6_trace_5 (c_X5_targetOf hW ht) (by first | exact he | exact hW.1 | exact hcell) rfl rfl (by omega) (by simp) ?_
      refine px_astore3 rfl dX6_trace_8 ?_
      refine px_aload_n dX6_trace_9 rfl ?_
      refine px_ifnull_f dX6_trace_10 ?_
      refine px_iload_n dX6_trace_13 rfl ?_
      refine px_iconst (v := (-1)) dX6_trace_14 (by decide) ?_
      refine px_icmp_ge (tgt := 20) dX6_trace_15 (by decide) (fun hc15 => ?_) (fun hc15 => ?_)
      · refine px_aload_n dX6_trace_20 rfl ?_
        refine px_callV1 (ν := mX4_hasTrace) (ci := 4) rfl rfl lk_X6_161 in_X4_hasTrace se_X4_hasTrace mok_X4_hasTrace dX6_trace_21 (hh) (by first | exact he | exact hW.1 | exact hcell) rfl rfl (by omega) (by simp) ?_
        refine px_ifb_ne (tgt := 30) dX6_trace_24 (by decide) (fun hc24 => ?_) (fun hc24 => ?_)
        · cases hc24
        · refine px_bipush (v := (-3)) dX6_trace_27 (by decide) ?_
          exact px_reti dX6_trace_29 (by rfl) (by rfl)
      · exact absurd hk3 hc15
    | some T =>
      rw [htr] at hh hta
      obtain ⟨h12, c, q, hcell⟩ := hta.tlen
      by_cases hi1 : i = -1
      · have hv2 : v_trace A (nI (8 + t)) i = nI T.length := by unfold v_trace; rw [if_pos hk, clamp_lt _ (by omega), htr]; exact if_pos hi1
        rw [hv2]
        refine CT.of [some (.ref e), some (.int (nI (8 + t))), some (.int i), none] rfl (Nat.le_of_ble_eq_true rfl) pl_X6 trivial ?_
        refine px_aload_n dX6_trace_0 rfl ?_
        refine px_getfield fl_X6_25 dX6_trace_1 (by first | exact he | exact hW.1 | exact hcell) (by rfl) ?_
        refine px_iload_n dX6_trace_4 rfl ?_
        refine px_callV1 (ν := mX5_targetOf) (ci := 5) rfl rfl lk_X6_82 in_X5_targetOf se_X5_targetOf mok_X5_targetOf dX6_trace_5 (c_X5_targetOf hW ht) (by first | exact he | exact hW.1 | exact hcell) rfl rfl (by omega) (by simp) ?_
        refine px_astore3 rfl dX6_trace_8 ?_
        refine px_aload_n dX6_trace_9 rfl ?_
        refine px_ifnull_f dX6_trace_10 ?_
        refine px_iload_n dX6_trace_13 rfl ?_
        refine px_iconst (v := (-1)) dX6_trace_14 (by decide) ?_
        refine px_icmp_ge (tgt := 20) dX6_trace_15 (by decide) (fun hc15 => ?_) (fun hc15 => ?_)
        · refine px_aload_n dX6_trace_20 rfl ?_
          refine px_callV1 (ν := mX4_hasTrace) (ci := 4) rfl rfl lk_X6_161 in_X4_hasTrace se_X4_hasTrace mok_X4_hasTrace dX6_trace_21 (hh) (by first | exact he | exact hW.1 | exact hcell) rfl rfl (by omega) (by simp) ?_
          refine px_ifb_ne (tgt := 30) dX6_trace_24 (by decide) (fun hc24 => ?_) (fun hc24 => ?_)
          · refine px_iload_n dX6_trace_30 rfl ?_
            refine px_iconst (v := (-1)) dX6_trace_31 (by decide) ?_
            refine px_icmp_ne (tgt := 42) dX6_trace_32 (by decide) (fun hc32 => ?_) (fun hc32 => ?_)
            · exact absurd hi1 hc32
            · refine px_aload_n dX6_trace_35 rfl ?_
              refine px_getfield fl_X6_165 dX6_trace_36 (by first | exact he | exact hW.1 | exact hcell) (by rfl) ?_
              refine px_goto (tgt := 47) dX6_trace_39 (by decide) ?_
              exact px_reti dX6_trace_47 (by rfl) (by rfl)
          · cases hc24
        · exact absurd hk3 hc15
      · obtain ⟨mm, hmm, rfl⟩ := nI_of (ge_m1 hk2 hi1)
        obtain ⟨c, q, l, sg, fg, tk, tp, h1, h2, h3, h4, h5, h6⟩ := id hta
        by_cases hlt : mm < T.length
        · obtain ⟨x, hx⟩ : ∃ x, T[mm]? = some x := ⟨_, List.getElem?_eq_getElem hlt⟩
          have hv2 : v_trace A (nI (8 + t)) (nI mm) = nI x.1 := by unfold v_trace; rw [if_pos hk, clamp_lt _ (by omega), htr]; dsimp only; rw [if_neg hi1, nI_clamp hmm, hx]
          obtain ⟨e1, e2⟩ := hta.tkey (B := B) (D := D) (n := n) (w := w) hx
          rw [hv2]
          refine CT.of [some (.ref e), some (.int (nI (8 + t))), some (.int (nI mm)), none] rfl (Nat.le_of_ble_eq_true rfl) pl_X6 trivial ?_
          refine px_aload_n dX6_trace_0 rfl ?_
          refine px_getfield fl_X6_25 dX6_trace_1 (by first | exact he | exact hW.1 | exact hcell) (by rfl) ?_
          refine px_iload_n dX6_trace_4 rfl ?_
          refine px_callV1 (ν := mX5_targetOf) (ci := 5) rfl rfl lk_X6_82 in_X5_targetOf se_X5_targetOf mok_X5_targetOf dX6_trace_5 (c_X5_targetOf hW ht) (by first | exact he | exact hW.1 | exact hcell) rfl rfl (by omega) (by simp) ?_
          refine px_astore3 rfl dX6_trace_8 ?_
          refine px_aload_n dX6_trace_9 rfl ?_
          refine px_ifnull_f dX6_trace_10 ?_
          refine px_iload_n dX6_trace_13 rfl ?_
          refine px_iconst (v := (-1)) dX6_trace_14 (by decide) ?_
          refine px_icmp_ge (tgt := 20) dX6_trace_15 (by decide) (fun hc15 => ?_) (fun hc15 => ?_)
          · refine px_aload_n dX6_trace_20 rfl ?_
            refine px_callV1 (ν := mX4_hasTrace) (ci := 4) rfl rfl lk_X6_161 in_X4_hasTrace se_X4_hasTrace mok_X4_hasTrace dX6_trace_21 (hh) (by first | exact he | exact hW.1 | exact hcell) rfl rfl (by omega) (by simp) ?_
            refine px_ifb_ne (tgt := 30) dX6_trace_24 (by decide) (fun hc24 => ?_) (fun hc24 => ?_)
            · refine px_iload_n dX6_trace_30 rfl ?_
              refine px_iconst (v := (-1)) dX6_trace_31 (by decide) ?_
              refine px_icmp_ne (tgt := 42) dX6_trace_32 (by decide) (fun hc32 => ?_) (fun hc32 => ?_)
              · refine px_aload_n dX6_trace_42 rfl ?_
                refine px_iload_n dX6_trace_43 rfl ?_
                refine px_callV1 (ν := mX4_tracedKey) (ci := 4) rfl rfl lk_X6_168 in_X4_tracedKey se_X4_tracedKey mok_X4_tracedKey dX6_trace_44 (e2) (by first | exact he | exact hW.1 | exact hcell) rfl rfl (by omega) (by simp) ?_
                exact px_reti dX6_trace_47 (by rfl) (by rfl)
              · exact absurd hc32 hi1
            · cases hc24
          · exact absurd hk3 hc15
        · have hv2 : v_trace A (nI (8 + t)) (nI mm) = -1 := by unfold v_trace; rw [if_pos hk, clamp_lt _ (by omega), htr]; dsimp only; rw [if_neg hi1, nI_clamp hmm, List.getElem?_eq_none (by omega)]
          have hK := c_X4_tracedKey (B := B) (D := D) (n := n) (w := w) h1 (by rw [h6.2.1, nI_toInt (by omega)]; omega) (nI mm)
          rw [if_pos (Or.inr (by rw [h6.2.1]; exact nI_le (by omega) hmm))] at hK
          rw [hv2]
          refine CT.of [some (.ref e), some (.int (nI (8 + t))), some (.int (nI mm)), none] rfl (Nat.le_of_ble_eq_true rfl) pl_X6 trivial ?_
          refine px_aload_n dX6_trace_0 rfl ?_
          refine px_getfield fl_X6_25 dX6_trace_1 (by first | exact he | exact hW.1 | exact hcell) (by rfl) ?_
          refine px_iload_n dX6_trace_4 rfl ?_
          refine px_callV1 (ν := mX5_targetOf) (ci := 5) rfl rfl lk_X6_82 in_X5_targetOf se_X5_targetOf mok_X5_targetOf dX6_trace_5 (c_X5_targetOf hW ht) (by first | exact he | exact hW.1 | exact hcell) rfl rfl (by omega) (by simp) ?_
          refine px_astore3 rfl dX6_trace_8 ?_
          refine px_aload_n dX6_trace_9 rfl ?_
          refine px_ifnull_f dX6_trace_10 ?_
          refine px_iload_n dX6_trace_13 rfl ?_
          refine px_iconst (v := (-1)) dX6_trace_14 (by decide) ?_
          refine px_icmp_ge (tgt := 20) dX6_trace_15 (by decide) (fun hc15 => ?_) (fun hc15 => ?_)
          · refine px_aload_n dX6_trace_20 rfl ?_
            refine px_callV1 (ν := mX4_hasTrace) (ci := 4) rfl rfl lk_X6_161 in_X4_hasTrace se_X4_hasTrace mok_X4_hasTrace dX6_trace_21 (hh) (by first | exact he | exact hW.1 | exact hcell) rfl rfl (by omega) (by simp) ?_
            refine px_ifb_ne (tgt := 30) dX6_trace_24 (by decide) (fun hc24 => ?_) (fun hc24 => ?_)
            · refine px_iload_n dX6_trace_30 rfl ?_
              refine px_iconst (v := (-1)) dX6_trace_31 (by decide) ?_
              refine px_icmp_ne (tgt := 42) dX6_trace_32 (by decide) (fun hc32 => ?_) (fun hc32 => ?_)
              · refine px_aload_n dX6_trace_42 rfl ?_
                refine px_iload_n dX6_trace_43 rfl ?_
                refine px_callV1 (ν := mX4_tracedKey) (ci := 4) rfl rfl lk_X6_168 in_X4_tracedKey se_X4_tracedKey mok_X4_tracedKey dX6_trace_44 (hK) (by first | exact he | exact hW.1 | exact hcell) rfl rfl (by omega) (by simp) ?_
                exact px_reti dX6_trace_47 (by rfl) (by rfl)
              · exact absurd hc32 hi1
            · cases hc24
          · exact absurd hk3 hc15
  · have hv2 : v_trace A k i = -1 := by unfold v_trace; rw [if_neg hk]
    rw [hv2]
    by_cases hk1 : s_isTarget k = true
    · obtain ⟨t, ht, rfl⟩ := inT.mp hk1
      refine CT.of [some (.ref e), some (.int (nI (8 + t))), some (.int i), none] rfl (Nat.le_of_ble_eq_true rfl) pl_X6 trivial ?_
      refine px_aload_n dX6_trace_0 rfl ?_
      refine px_getfield fl_X6_25 dX6_trace_1 (by first | exact he | exact hW.1) (by rfl) ?_
      refine px_iload_n dX6_trace_4 rfl ?_
      refine px_callV1 (ν := mX5_targetOf) (ci := 5) rfl rfl lk_X6_82 in_X5_targetOf se_X5_targetOf mok_X5_targetOf dX6_trace_5 (c_X5_targetOf hW ht) (by first | exact he | exact hW.1) rfl rfl (by omega) (by simp) ?_
      refine px_astore3 rfl dX6_trace_8 ?_
      refine px_aload_n dX6_trace_9 rfl ?_
      refine px_ifnull_f dX6_trace_10 ?_
      refine px_iload_n dX6_trace_13 rfl ?_
      refine px_iconst (v := (-1)) dX6_trace_14 (by decide) ?_
      refine px_icmp_ge (tgt := 20) dX6_trace_15 (by decide) (fun hc15 => ?_) (fun hc15 => ?_)
      · exact absurd ⟨hk1, by rw [Int32.lt_iff_toInt_lt]; rw [Int32.le_iff_toInt_le] at hc15; omega⟩ hk
      · refine px_iconst (v := (-1)) dX6_trace_18 (by decide) ?_
        exact px_reti dX6_trace_19 (by rfl) (by rfl)
    · have hk' : s_isTarget k = false := by simpa using hk1
      refine CT.of [some (.ref e), some (.int k), some (.int i), none] rfl (Nat.le_of_ble_eq_true rfl) pl_X6 trivial ?_
      refine px_aload_n dX6_trace_0 rfl ?_
      refine px_getfield fl_X6_25 dX6_trace_1 (by first | exact he | exact hW.1) (by rfl) ?_
      refine px_iload_n dX6_trace_4 rfl ?_
      refine px_callV1 (ν := mX5_targetOf) (ci := 5) rfl rfl lk_X6_82 in_X5_targetOf se_X5_targetOf mok_X5_targetOf dX6_trace_5 (c_X5_targetOf_n hk') (by first | exact he | exact hW.1) rfl rfl (by omega) (by simp) ?_
      refine px_astoreN3 rfl dX6_trace_8 ?_
      refine px_aload_nN dX6_trace_9 rfl ?_
      refine px_ifnull_t (tgt := 18) dX6_trace_10 (by decide) ?_
      refine px_iconst (v := (-1)) dX6_trace_18 (by decide) ?_
      exact px_reti dX6_trace_19 (by rfl) (by rfl)
theorem c_X6_seen (he : f e = some (ecell e im)) (hW : IsW f (e + 1 + 1) A) (k i : Int32) : CT B D 5 mX6_seen [.ref e, .int k, .int i] (n, w, f) (some (.int (v_seen A k i))) (n, w, f) := by
  by_cases hk : s_isTarget k = true ∧ ¬ i < 0
  · obtain ⟨hk1, hk2⟩ := id hk
    have hk3 : (0 : Int32) ≤ i := by rw [Int32.le_iff_toInt_le]; rw [Int32.lt_iff_toInt_lt] at hk2; omega
    obtain ⟨t, ht, rfl⟩ := inT.mp hk1
    obtain ⟨mm, hmm, rfl⟩ := nI_of hk2
    have hta := hW.2.2.2.2.2 t ht
    have hh := hta.has (B := B) (D := D) (n := n) (w := w)
    cases htr : A.tr (8 + t) with
    | none =>
      rw [htr] at hh
      obtain ⟨h12, q, l, hcell⟩ := hta.cell
      have hv2 : v_seen A (nI (8 + t)) (nI mm) = -3 := by unfold v_seen; rw [if_pos hk, clamp_lt _ (by omega), htr]
      rw [hv2]
      refine CT.of [some (.ref e), some (.int (nI (8 + t))), some (.int (nI mm)), none, none] rfl (Nat.le_of_ble_eq_true rfl) pl_X6 trivial ?_
      refine px_aload_n dX6_seen_0 rfl ?_
      refine px_getfield fl_X6_25 dX6_seen_1 (by first | exact he | exact hW.1 | exact hcell) (by rfl) ?_
      refine px_iload_n dX6_seen_4 rfl ?_
      refine px_callV1 (ν := mX5_targetOf) (ci := 5) rfl rfl lk_X6_82 in_X5_targetOf se_X5_targetOf mok_X5_targetOf dX6_seen_5 (c_X5_targetOf hW ht) (by first | exact he | exact hW.1 | exact hcell) rfl rfl (by omega) (by simp) ?_
      refine px_astore3 rfl dX6_seen_8 ?_
      refine px_aload_n dX6_seen_9 rfl ?_
      refine px_ifnull_f dX6_seen_10 ?_
      refine px_iload_n dX6_seen_13 rfl ?_
      refine px_if_ge (tgt := 19) dX6_seen_14 (by decide) (fun hc14 => ?_) (fun hc14 => ?_)
      · refine px_aload_n dX6_seen_19 rfl ?_
        refine px_callV1 (ν := mX4_hasTrace) (ci := 4) rfl rfl lk_X6_161 in_X4_hasTrace se_X4_hasTrace mok_X4_hasTrace dX6_seen_20 (hh) (by first | exact he | exact hW.1 | exact hcell) rfl rfl (by omega) (by simp) ?_
        refine px_ifb_ne (tgt := 29) dX6_seen_23 (by decide) (fun hc23 => ?_) (fun hc23 => ?_)
        · cases hc23
        · refine px_bipush (v := (-3)) dX6_seen_26 (by decide) ?_
          exact px_reti dX6_seen_28 (by rfl) (by rfl)
      · exact absurd hk3 hc14
    | some T =>
      rw [htr] at hh hta
      obtain ⟨h12, c, q, hcell⟩ := hta.tlen
      obtain ⟨c, q, l, sg, fg, tk, tp, h1, h2, h3, h4, h5, h6⟩ := id hta
      by_cases hlt : mm < T.length
      · obtain ⟨x, hx⟩ : ∃ x, T[mm]? = some x := ⟨_, List.getElem?_eq_getElem hlt⟩
        have hv2 : v_seen A (nI (8 + t)) (nI mm) = toldL x.2 := by unfold v_seen; rw [if_pos hk, clamp_lt _ (by omega), htr]; dsimp only; rw [nI_clamp hmm, hx]
        obtain ⟨p, e2, hch⟩ := hta.tres (B := B) (D := D) (n := n) (w := w) hx
        obtain ⟨k0, L⟩ := x
        cases L with
        | nil => cases hch
        | cons y L =>
          obtain ⟨cc, kk, ss, uu⟩ := y
          obtain ⟨p0, q0, hp0, hpc, htl⟩ := hch
          cases hp0
          rw [hv2]
          refine CT.of [some (.ref e), some (.int (nI (8 + t))), some (.int (nI mm)), none, none] rfl (Nat.le_of_ble_eq_true rfl) pl_X6 trivial ?_
          refine px_aload_n dX6_seen_0 rfl ?_
          refine px_getfield fl_X6_25 dX6_seen_1 (by first | exact he | exact hW.1 | exact hcell | exact hpc) (by rfl) ?_
          refine px_iload_n dX6_seen_4 rfl ?_
          refine px_callV1 (ν := mX5_targetOf) (ci := 5) rfl rfl lk_X6_82 in_X5_targetOf se_X5_targetOf mok_X5_targetOf dX6_seen_5 (c_X5_targetOf hW ht) (by first | exact he | exact hW.1 | exact hcell | exact hpc) rfl rfl (by omega) (by simp) ?_
          refine px_astore3 rfl dX6_seen_8 ?_
          refine px_aload_n dX6_seen_9 rfl ?_
          refine px_ifnull_f dX6_seen_10 ?_
          refine px_iload_n dX6_seen_13 rfl ?_
          refine px_if_ge (tgt := 19) dX6_seen_14 (by decide) (fun hc14 => ?_) (fun hc14 => ?_)
          · refine px_aload_n dX6_seen_19 rfl ?_
            refine px_callV1 (ν := mX4_hasTrace) (ci := 4) rfl rfl lk_X6_161 in_X4_hasTrace se_X4_hasTrace mok_X4_hasTrace dX6_seen_20 (hh) (by first | exact he | exact hW.1 | exact hcell | exact hpc) rfl rfl (by omega) (by simp) ?_
            refine px_ifb_ne (tgt := 29) dX6_seen_23 (by decide) (fun hc23 => ?_) (fun hc23 => ?_)
            · refine px_aload_n dX6_seen_29 rfl ?_
              refine px_iload_n dX6_seen_30 rfl ?_
              refine px_callV1 (ν := mX4_tracedResult) (ci := 4) rfl rfl lk_X6_171 in_X4_tracedResult se_X4_tracedResult mok_X4_tracedResult dX6_seen_31 (e2) (by first | exact he | exact hW.1 | exact hcell | exact hpc) rfl rfl (by omega) (by simp) ?_
              refine px_astore4 rfl dX6_seen_34 ?_
              refine px_aload dX6_seen_36 rfl ?_
              refine px_ifnonnull_t (tgt := 45) dX6_seen_38 (by decide) ?_
              refine px_aload dX6_seen_45 rfl ?_
              refine px_callV1 (ν := mX1_asTold) (ci := 1) rfl rfl lk_X6_174 in_X1_asTold se_X1_asTold mok_X1_asTold dX6_seen_47 (c_X1_asTold hpc) (by first | exact he | exact hW.1 | exact hcell | exact hpc) rfl rfl (by omega) (by simp) ?_
              exact px_reti dX6_seen_50 (by rfl) (by rfl)
            · cases hc23
          · exact absurd hk3 hc14
      · have hv2 : v_seen A (nI (8 + t)) (nI mm) = -1 := by unfold v_seen; rw [if_pos hk, clamp_lt _ (by omega), htr]; dsimp only; rw [nI_clamp hmm, List.getElem?_eq_none (by omega)]
        have hK := c_X4_tracedResult (B := B) (D := D) (n := n) (w := w) h1 (by rw [h6.2.1, nI_toInt (by omega)]; omega) (nI mm)
        rw [if_pos (Or.inr (by rw [h6.2.1]; exact nI_le (by omega) hmm))] at hK
        rw [hv2]
        refine CT.of [some (.ref e), some (.int (nI (8 + t))), some (.int (nI mm)), none, none] rfl (Nat.le_of_ble_eq_true rfl) pl_X6 trivial ?_
        refine px_aload_n dX6_seen_0 rfl ?_
        refine px_getfield fl_X6_25 dX6_seen_1 (by first | exact he | exact hW.1 | exact hcell) (by rfl) ?_
        refine px_iload_n dX6_seen_4 rfl ?_
        refine px_callV1 (ν := mX5_targetOf) (ci := 5) rfl rfl lk_X6_82 in_X5_targetOf se_X5_targetOf mok_X5_targetOf dX6_seen_5 (c_X5_targetOf hW ht) (by first | exact he | exact hW.1 | exact hcell) rfl rfl (by omega) (by simp) ?_
        refine px_astore3 rfl dX6_seen_8 ?_
        refine px_aload_n dX6_seen_9 rfl ?_
        refine px_ifnull_f dX6_seen_10 ?_
        refine px_iload_n dX6_seen_13 rfl ?_
        refine px_if_ge (tgt := 19) dX6_seen_14 (by decide) (fun hc14 => ?_) (fun hc14 => ?_)
        · refine px_aload_n dX6_seen_19 rfl ?_
          refine px_callV1 (ν := mX4_hasTrace) (ci := 4) rfl rfl lk_X6_161 in_X4_hasTrace se_X4_hasTrace mok_X4_hasTrace dX6_seen_20 (hh) (by first | exact he | exact hW.1 | exact hcell) rfl rfl (by omega) (by simp) ?_
          refine px_ifb_ne (tgt := 29) dX6_seen_23 (by decide) (fun hc23 => ?_) (fun hc23 => ?_)
          · refine px_aload_n dX6_seen_29 rfl ?_
            refine px_iload_n dX6_seen_30 rfl ?_
            refine px_callV1 (ν := mX4_tracedResult) (ci := 4) rfl rfl lk_X6_171 in_X4_tracedResult se_X4_tracedResult mok_X4_tracedResult dX6_seen_31 (hK) (by first | exact he | exact hW.1 | exact hcell) rfl rfl (by omega) (by simp) ?_
            refine px_astoreN4 rfl dX6_seen_34 ?_
            refine px_aloadN dX6_seen_36 rfl ?_
            refine px_ifnonnull_f dX6_seen_38 ?_
            refine px_iconst (v := (-1)) dX6_seen_41 (by decide) ?_
            refine px_goto (tgt := 50) dX6_seen_42 (by decide) ?_
            exact px_reti dX6_seen_50 (by rfl) (by rfl)
          · cases hc23
        · exact absurd hk3 hc14
  · have hv2 : v_seen A k i = -1 := by unfold v_seen; rw [if_neg hk]
    rw [hv2]
    by_cases hk1 : s_isTarget k = true
    · obtain ⟨t, ht, rfl⟩ := inT.mp hk1
      refine CT.of [some (.ref e), some (.int (nI (8 + t))), some (.int i), none, none] rfl (Nat.le_of_ble_eq_true rfl) pl_X6 trivial ?_
      refine px_aload_n dX6_seen_0 rfl ?_
      refine px_getfield fl_X6_25 dX6_seen_1 (by first | exact he | exact hW.1) (by rfl) ?_
      refine px_iload_n dX6_seen_4 rfl ?_
      refine px_callV1 (ν := mX5_targetOf) (ci := 5) rfl rfl lk_X6_82 in_X5_targetOf se_X5_targetOf mok_X5_targetOf dX6_seen_5 (c_X5_targetOf hW ht) (by first | exact he | exact hW.1) rfl rfl (by omega) (by simp) ?_
      refine px_astore3 rfl dX6_seen_8 ?_
      refine px_aload_n dX6_seen_9 rfl ?_
      refine px_ifnull_f dX6_seen_10 ?_
      refine px_iload_n dX6_seen_13 rfl ?_
      refine px_if_ge (tgt := 19) dX6_seen_14 (by decide) (fun hc14 => ?_) (fun hc14 => ?_)
      · exact absurd ⟨hk1, by rw [Int32.lt_iff_toInt_lt]; rw [Int32.le_iff_toInt_le] at hc14; omega⟩ hk
      · refine px_iconst (v := (-1)) dX6_seen_17 (by decide) ?_
        exact px_reti dX6_seen_18 (by rfl) (by rfl)
    · have hk' : s_isTarget k = false := by simpa using hk1
      refine CT.of [some (.ref e), some (.int k), some (.int i), none, none] rfl (Nat.le_of_ble_eq_true rfl) pl_X6 trivial ?_
      refine px_aload_n dX6_seen_0 rfl ?_
      refine px_getfield fl_X6_25 dX6_seen_1 (by first | exact he | exact hW.1) (by rfl) ?_
      refine px_iload_n dX6_seen_4 rfl ?_
      refine px_callV1 (ν := mX5_targetOf) (ci := 5) rfl rfl lk_X6_82 in_X5_targetOf se_X5_targetOf mok_X5_targetOf dX6_seen_5 (c_X5_targetOf_n hk') (by first | exact he | exact hW.1) rfl rfl (by omega) (by simp) ?_
      refine px_astoreN3 rfl dX6_seen_8 ?_
      refine px_aload_nN dX6_seen_9 rfl ?_
      refine px_ifnull_t (tgt := 17) dX6_seen_10 (by decide) ?_
      refine px_iconst (v := (-1)) dX6_seen_17 (by decide) ?_
      exact px_reti dX6_seen_18 (by rfl) (by rfl)
end M33
