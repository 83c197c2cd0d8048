/-! the BUILDS and THE IMAGE -/
def v_build (C : CS) (k : Int32) : Int32 × CS := if s_isTarget k = true then ((aAll (s_bitOf k) false C.1.1).1.st - C.1.1.st, (aAll (s_bitOf k) false C.1.1, C.2)) else (-1, C)
def v_all (C : CS) (k : Int32) : Int32 × CS := if s_isStops k = true then (nI (aAll 65535 (decide (k = 1)) C.1.1).1.ord.length, (aAll 65535 (decide (k = 1)) C.1.1, C.2)) else (-1, C)
def v_some (C : CS) (s k : Int32) : Int32 × CS := if s < 0 ∨ 65535 < s then (-2, C) else if s_isStops k = true then (nI (aAll s (decide (k = 1)) C.1.1).1.ord.length, (aAll s (decide (k = 1)) C.1.1, C.2)) else (-1, C)
def v_order (C : CS) (i : Int32) : Int32 := if i < 0 then -1 else match C.1.1.ord[i.toNatClampNeg]? with | some x => nI x | none => -5
theorem IsE.bq {f g : Nat → Option va_E} {e n n' w w' : Nat} {C : CS} {z : BS × Option Nat} (h : IsE f e C) (hwf : wfH f n) (hb : Bq f g n n' w w' (e + 1) (aForget C.1.1) z) : IsE g e (z, C.2) ∧ Ch f g n n' w w' e (e + 343) := by
  obtain ⟨b1, b2, b3, b4, b5, b6, b7⟩ := hb
  have hz : cd (aForget C.1.1).dn = 0 := cd_none
  have h16 : cd z.1.dn ≤ 16 := cdN_le 16 _
  exact ⟨h.build hwf b3 b4 b1, b3.wide (by omega) (by omega), b4, fun _ => b2, b5, by omega, b6⟩
section M38
variable {B : Nat} {D : va_G} {n w : Nat} {f : Nat → Option va_E} {e : Nat} {C : CS}
theorem c_X6_build (h : IsE f e C) (hwf : wfH f n) (hv : vRu C.1.1.A) (k : Int32) : ∃ (n' w' : Nat) (g : Nat → Option va_E), CT B D 50 mX6_build [.ref e, .int k] (n, w, f) (some (.int (v_build C k).1)) (n', w', g) ∧ IsE g e (v_build C k).2 ∧ Ch f g n n' w w' e (e + 343) := by
  by_cases hk : s_isTarget k = true
  · have h0 : v_build C k = ((aAll (s_bitOf k) false C.1.1).1.st - C.1.1.st, (aAll (s_bitOf k) false C.1.1, C.2)) := by unfold v_build; rw [if_pos hk]
    rw [h0]
    obtain ⟨t, ht, rfl⟩ := inT.mp hk
    obtain ⟨n1, w1, g1, hC, hB⟩ := c_X0_startsFor (B := B) (D := D) (d := 42) (n := n) (w := w) (Nat.le_refl _) ht h.2.1 hwf hv
    obtain ⟨i1, i2⟩ := h.bq hwf hB
    obtain ⟨dn, op, wt, dk, hcb, -⟩ := id h.2.1
    have he := h.1
    refine ⟨n1, w1, g1, ?_, i1, i2⟩
    refine CT.of [some (.ref e), some (.int (nI (8 + t)))] rfl (Nat.le_of_ble_eq_true rfl) pl_X6 trivial ?_
    refine px_iload_n dX6_build_0 rfl ?_
    refine px_callS1 (ν := mX6_isTarget) lk_X6_112 st_X6_isTarget mok_X6_isTarget dX6_build_1 (c_X6_isTarget _) rfl rfl (by omega) (by simp) ?_
    refine px_ifb_eq (tgt := 18) dX6_build_4 (by decide) (fun hc4 => ?_) (fun hc4 => ?_)
    · rw [hk] at hc4; cases hc4
    · refine px_aload_n dX6_build_7 rfl ?_
      refine px_getfield fl_X6_14 dX6_build_8 (by first | exact he | exact hcb) (by rfl) ?_
      refine px_iload_n dX6_build_11 rfl ?_
      refine px_callV1 (ν := mX0_startsFor) (ci := 0) rfl rfl lk_X6_115 in_X0_startsFor se_X0_startsFor mok_X0_startsFor dX6_build_12 (hC) (by first | exact he | exact hcb) rfl rfl (by omega) (by simp) ?_
      refine px_goto (tgt := 19) dX6_build_15 (by decide) ?_
      exact px_reti dX6_build_19 (by rfl) (by rfl)
  · have h0 : v_build C k = (-1, C) := by unfold v_build; rw [if_neg hk]
    rw [h0]
    refine ⟨n, w, f, ?_, h, Ch.rf _ _ _ _ _⟩
    refine CT.of [some (.ref e), some (.int k)] rfl (Nat.le_of_ble_eq_true rfl) pl_X6 trivial ?_
    refine px_iload_n dX6_build_0 rfl ?_
    refine px_callS1 (ν := mX6_isTarget) lk_X6_112 st_X6_isTarget mok_X6_isTarget dX6_build_1 (c_X6_isTarget _) rfl rfl (by omega) (by simp) ?_
    refine px_ifb_eq (tgt := 18) dX6_build_4 (by decide) (fun hc4 => ?_) (fun hc4 => ?_)
    · refine px_iconst (v := (-1)) dX6_build_18 (by decide) ?_
      exact px_reti dX6_build_19 (by rfl) (by rfl)
    · exact absurd hc4 hk
theorem c_X6_all (h : IsE f e C) (hwf : wfH f n) (hv : vRu C.1.1.A) (k : Int32) : ∃ (n' w' : Nat) (g : Nat → Option va_E), CT B D 50 mX6_all [.ref e, .int k] (n, w, f) (some (.int (v_all C k).1)) (n', w', g) ∧ IsE g e (v_all C k).2 ∧ Ch f g n n' w w' e (e + 343) := by
  by_cases hk : s_isStops k = true
  · have h0 : v_all C k = (nI (aAll 65535 (decide (k = 1)) C.1.1).1.ord.length, (aAll 65535 (decide (k = 1)) C.1.1, C.2)) := by unfold v_all; rw [if_pos hk]
    rw [h0]
    obtain ⟨dn, op, wt, dk, hcb, -⟩ := id h.2.1
    have he := h.1
    obtain ⟨n1, w1, g1, hC, hB⟩ := c_X0_buildEach (B := B) (D := D) (d := 41) (n := n) (w := w) (Nat.le_refl _) h.2.1 hwf hv 65535 (decide (k = 1))
    obtain ⟨i1, i2⟩ := h.bq hwf hB
    refine ⟨n1, w1, g1, ?_, i1, i2⟩
    by_cases h1 : k = 1
    · rw [decide_eq_true h1] at hC ⊢
      refine CT.of [some (.ref e), some (.int k)] rfl (Nat.le_of_ble_eq_true rfl) pl_X6 trivial ?_
      refine px_iload_n dX6_all_0 rfl ?_
      refine px_callS1 (ν := mX6_isStops) lk_X6_118 st_X6_isStops mok_X6_isStops dX6_all_1 (c_X6_isStops _) rfl rfl (by omega) (by simp) ?_
      refine px_ifb_eq (tgt := 29) dX6_all_4 (by decide) (fun hc4 => ?_) (fun hc4 => ?_)
      · rw [hk] at hc4; cases hc4
      · refine px_aload_n dX6_all_7 rfl ?_
        refine px_getfield fl_X6_14 dX6_all_8 (by first | exact he | exact hcb) (by rfl) ?_
        refine px_ldc dX6_all_11 kc_X6_121 ?_
        refine px_iload_n dX6_all_13 rfl ?_
        refine px_iconst (v := 1) dX6_all_14 (by decide) ?_
        refine px_icmp_ne (tgt := 22) dX6_all_15 (by decide) (fun hc15 => ?_) (fun hc15 => ?_)
        · exact absurd h1 hc15
        · refine px_iconst (v := 1) dX6_all_18 (by decide) ?_
          refine px_goto (tgt := 23) dX6_all_19 (by decide) ?_
          refine px_callV1 (ν := mX0_buildEach) (ci := 0) rfl rfl lk_X6_122 in_X0_buildEach se_X0_buildEach mok_X0_buildEach dX6_all_23 (hC) (by first | exact he | exact hcb) rfl rfl (by omega) (by simp) ?_
          refine px_goto (tgt := 30) dX6_all_26 (by decide) ?_
          exact px_reti dX6_all_30 (by rfl) (by rfl)
    · rw [decide_eq_false h1] at hC ⊢
      refine CT.of [some (.ref e), some (.int k)] rfl (Nat.le_of_ble_eq_true rfl) pl_X6 trivial ?_
      refine px_iload_n dX6_all_0 rfl ?_
      refine px_callS1 (ν := mX6_isStops) lk_X6_118 st_X6_isStops mok_X6_isStops dX6_all_1 (c_X6_isStops _) rfl rfl (by omega) (by simp) ?_
      refine px_ifb_eq (tgt := 29) dX6_all_4 (by decide) (fun hc4 => ?_) (fun hc4 => ?_)
      · rw [hk] at hc4; cases hc4
      · refine px_aload_n dX6_all_7 rfl ?_
        refine px_getfield fl_X6_14 dX6_all_8 (by first | exact he | exact hcb) (by rfl) ?_
        refine px_ldc dX6_all_11 kc_X6_121 ?_
        refine px_iload_n dX6_all_13 rfl ?_
        refine px_iconst (v := 1) dX6_all_14 (by decide) ?_
        refine px_icmp_ne (tgt := 22) dX6_all_15 (by decide) (fun hc15 => ?_) (fun hc15 => ?_)
        · refine px_iconst (v := 0) dX6_all_22 (by decide) ?_
          refine px_callV1 (ν := mX0_buildEach) (ci := 0) rfl rfl lk_X6_122 in_X0_buildEach se_X0_buildEach mok_X0_buildEach dX6_all_23 (hC) (by first | exact he | exact hcb) rfl rfl (by omega) (by simp) ?_
          refine px_goto (tgt := 30) dX6_all_26 (by decide) ?_
          exact px_reti dX6_all_30 (by rfl) (by rfl)
        · exact absurd hc15 h1
  · have h0 : v_all C k = (-1, C) := by unfold v_all; rw [if_neg hk]
    rw [h0]
    refine ⟨n, w, f, ?_, h, Ch.rf _ _ _ _ _⟩
    refine CT.of [some (.ref e), some (.int k)] rfl (Nat.le_of_ble_eq_true rfl) pl_X6 trivial ?_
    refine px_iload_n dX6_all_0 rfl ?_
    refine px_callS1 (ν := mX6_isStops) lk_X6_118 st_X6_isStops mok_X6_isStops dX6_all_1 (c_X6_isStops _) rfl rfl (by omega) (by simp) ?_
    refine px_ifb_eq (tgt := 29) dX6_all_4 (by decide) (fun hc4 => ?_) (fun hc4 => ?_)
    · refine px_iconst (v := (-1)) dX6_all_29 (by decide) ?_
      exact px_reti dX6_all_30 (by rfl) (by rfl)
    · exact absurd hc4 hk
theorem c_X6_some (h : IsE f e C) (hwf : wfH f n) (hv : vRu C.1.1.A) (s k : Int32) : ∃ (n' w' : Nat) (g : Nat → Option va_E), CT B D 50 mX6_some [.ref e, .int s, .int k] (n, w, f) (some (.int (v_some C s k).1)) (n', w', g) ∧ IsE g e (v_some C s k).2 ∧ Ch f g n n' w w' e (e + 343) := by
  by_cases hs : s < 0 ∨ 65535 < s
  · have h0 : v_some C s k = (-2, C) := by unfold v_some; rw [if_pos hs]
    rw [h0]
    refine ⟨n, w, f, ?_, h, Ch.rf _ _ _ _ _⟩
    refine CT.of [some (.ref e), some (.int s), some (.int k)] rfl (Nat.le_of_ble_eq_true rfl) pl_X6 trivial ?_
    refine px_iload_n dX6_some_0 rfl ?_
    refine px_if_lt (tgt := 10) dX6_some_1 (by decide) (fun hc1 => ?_) (fun hc1 => ?_)
    · refine px_bipush (v := (-2)) dX6_some_10 (by decide) ?_
      exact px_reti dX6_some_12 (by rfl) (by rfl)
    · refine px_iload_n dX6_some_4 rfl ?_
      refine px_ldc dX6_some_5 kc_X6_121 ?_
      refine px_icmp_le (tgt := 13) dX6_some_7 (by decide) (fun hc7 => ?_) (fun hc7 => ?_)
      · exact absurd hs (by rintro (z | z); exact hc1 z; rw [Int32.lt_iff_toInt_lt] at z; rw [Int32.le_iff_toInt_le] at hc7; omega)
      · refine px_bipush (v := (-2)) dX6_some_10 (by decide) ?_
        exact px_reti dX6_some_12 (by rfl) (by rfl)
  · have hs1 : ¬ s < 0 := fun z => hs (Or.inl z)
    have hs2 : s ≤ 65535 := by rw [Int32.le_iff_toInt_le]; have z : ¬ (65535 : Int32) < s := fun z => hs (Or.inr z); rw [Int32.lt_iff_toInt_lt] at z; omega
    by_cases hk : s_isStops k = true
    · have h0 : v_some C s k = (nI (aAll s (decide (k = 1)) C.1.1).1.ord.length, (aAll s (decide (k = 1)) C.1.1, C.2)) := by unfold v_some; rw [if_neg hs, if_pos hk]
      rw [h0]
      obtain ⟨dn, op, wt, dk, hcb, -⟩ := id h.2.1
      have he := h.1
      obtain ⟨n1, w1, g1, hC, hB⟩ := c_X0_buildEach (B := B) (D := D) (d := 41) (n := n) (w := w) (Nat.le_refl _) h.2.1 hwf hv s (decide (k = 1))
      obtain ⟨i1, i2⟩ := h.bq hwf hB
      refine ⟨n1, w1, g1, ?_, i1, i2⟩
      by_cases h1 : k = 1
      · rw [decide_eq_true h1] at hC ⊢
        refine CT.of [some (.ref e), some (.int s), some (.int k)] rfl (Nat.le_of_ble_eq_true rfl) pl_X6 trivial ?_
        refine px_iload_n dX6_some_0 rfl ?_
        refine px_if_lt (tgt := 10) dX6_some_1 (by decide) (fun hc1 => ?_) (fun hc1 => ?_)
        · exact absurd hc1 hs1
        · refine px_iload_n dX6_some_4 rfl ?_
          refine px_ldc dX6_some_5 kc_X6_121 ?_
          refine px_icmp_le (tgt := 13) dX6_some_7 (by decide) (fun hc7 => ?_) (fun hc7 => ?_)
          · refine px_iload_n dX6_some_13 rfl ?_
            refine px_callS1 (ν := mX6_isStops) lk_X6_118 st_X6_isStops mok_X6_isStops dX6_some_14 (c_X6_isStops _) rfl rfl (by omega) (by simp) ?_
            refine px_ifb_eq (tgt := 41) dX6_some_17 (by decide) (fun hc17 => ?_) (fun hc17 => ?_)
            · rw [hk] at hc17; cases hc17
            · refine px_aload_n dX6_some_20 rfl ?_
              refine px_getfield fl_X6_14 dX6_some_21 (by first | exact he | exact hcb) (by rfl) ?_
              refine px_iload_n dX6_some_24 rfl ?_
              refine px_iload_n dX6_some_25 rfl ?_
              refine px_iconst (v := 1) dX6_some_26 (by decide) ?_
              refine px_icmp_ne (tgt := 34) dX6_some_27 (by decide) (fun hc27 => ?_) (fun hc27 => ?_)
              · exact absurd h1 hc27
              · refine px_iconst (v := 1) dX6_some_30 (by decide) ?_
                refine px_goto (tgt := 35) dX6_some_31 (by decide) ?_
                refine px_callV1 (ν := mX0_buildEach) (ci := 0) rfl rfl lk_X6_122 in_X0_buildEach se_X0_buildEach mok_X0_buildEach dX6_some_35 (hC) (by first | exact he | exact hcb) rfl rfl (by omega) (by simp) ?_
                refine px_goto (tgt := 42) dX6_some_38 (by decide) ?_
                exact px_reti dX6_some_42 (by rfl) (by rfl)
          · exact absurd hs2 hc7
      · rw [decide_eq_false h1] at hC ⊢
        refine CT.of [some (.ref e), some (.int s), some (.int k)] rfl (Nat.le_of_ble_eq_true rfl) pl_X6 trivial ?_
        refine px_iload_n dX6_some_0 rfl ?_
        refine px_if_lt (tgt := 10) dX6_some_1 (by decide) (fun hc1 => ?_) (fun hc1 => ?_)
        · exact absurd hc1 hs1
        · refine px_iload_n dX6_some_4 rfl ?_
          refine px_ldc dX6_some_5 kc_X6_121 ?_
          refine px_icmp_le (tgt := 13) dX6_some_7 (by decide) (fun hc7 => ?_) (fun hc7 => ?_)
          · refine px_iload_n dX6_some_13 rfl ?_
            refine px_callS1 (ν := mX6_isStops) lk_X6_118 st_X6_isStops mok_X6_isStops dX6_some_14 (c_X6_isStops _) rfl rfl (by omega) (by simp) ?_
            refine px_ifb_eq (tgt := 41) dX6_some_17 (by decide) (fun hc17 => ?_) (fun hc17 => ?_)
            · rw [hk] at hc17; cases hc17
            · refine px_aload_n dX6_some_20 rfl ?_
              refine px_getfield fl_X6_14 dX6_some_21 (by first | exact he | exact hcb) (by rfl) ?_
              refine px_iload_n dX6_some_24 rfl ?_
              refine px_iload_n dX6_some_25 rfl ?_
              refine px_iconst (v := 1) dX6_some_26 (by decide) ?_
              refine px_icmp_ne (tgt := 34) dX6_some_27 (by decide) (fun hc27 => ?_) (fun hc27 => ?_)
              · refine px_iconst (v := 0) dX6_some_34 (by decide) ?_
                refine px_callV1 (ν := mX0_buildEach) (ci := 0) rfl rfl lk_X6_122 in_X0_buildEach se_X0_buildEach mok_X0_buildEach dX6_some_35 (hC) (by first | exact he | exact hcb) rfl rfl (by omega) (by simp) ?_
                refine px_goto (tgt := 42) dX6_some_38 (by decide) ?_
                exact px_reti dX6_some_42 (by rfl) (by rfl)
              · exact absurd hc27 h1
          · exact absurd hs2 hc7
    · have h0 : v_some C s k = (-1, C) := by unfold v_some; rw [if_neg hs, if_neg hk]
      rw [h0]
      refine ⟨n, w, f, ?_, h, Ch.rf _ _ _ _ _⟩
      refine CT.of [some (.ref e), some (.int s), some (.int k)] rfl (Nat.le_of_ble_eq_true rfl) pl_X6 trivial ?_
      refine px_iload_n dX6_some_0 rfl ?_
      refine px_if_lt (tgt := 10) dX6_some_1 (by decide) (fun hc1 => ?_) (fun hc1 => ?_)
      · exact absurd hc1 hs1
      · refine px_iload_n dX6_some_4 rfl ?_
        refine px_ldc dX6_some_5 kc_X6_121 ?_
        refine px_icmp_le (tgt := 13) dX6_some_7 (by decide) (fun hc7 => ?_) (fun hc7 => ?_)
        · refine px_iload_n dX6_some_13 rfl ?_
          refine px_callS1 (ν := mX6_isStops) lk_X6_118 st_X6_isStops mok_X6_isStops dX6_some_14 (c_X6_isStops _) rfl rfl (by omega) (by simp) ?_
          refine px_ifb_eq (tgt := 41) dX6_some_17 (by decide) (fun hc17 => ?_) (fun hc17 => ?_)
          · refine px_iconst (v := (-1)) dX6_some_41 (by decide) ?_
            exact px_reti dX6_some_42 (by rfl) (by rfl)
          · exact absurd hc17 hk
        · exact absurd hs2 hc7
theorem c_X6_order (h : IsE f e C) (i : Int32) : CT B D 50 mX6_order [.ref e, .int i] (n, w, f) (some (.int (v_order C i))) (n, w, f) := by
  by_cases hi : i < 0
  · have h0 : v_order C i = -1 := by unfold v_order; rw [if_pos hi]
    rw [h0]
    refine CT.of [some (.ref e), some (.int i)] rfl (Nat.le_of_ble_eq_true rfl) pl_X6 trivial ?_
    refine px_iload_n dX6_order_0 rfl ?_
    refine px_if_ge (tgt := 8) dX6_order_1 (by decide) (fun hc1 => ?_) (fun hc1 => ?_)
    · exact absurd hi (by rw [Int32.lt_iff_toInt_lt]; rw [Int32.le_iff_toInt_le] at hc1; omega)
    · refine px_iconst (v := (-1)) dX6_order_4 (by decide) ?_
      refine px_goto (tgt := 16) dX6_order_5 (by decide) ?_
      exact px_reti dX6_order_16 (by rfl) (by rfl)
  · obtain ⟨mm, hmm, rfl⟩ := nI_of hi
    have hi2 : (0 : Int32) ≤ nI mm := by rw [Int32.le_iff_toInt_le]; rw [Int32.lt_iff_toInt_lt] at hi; omega
    obtain ⟨dn, op, wt, dk, h1, h2, h3, h4, h5, h6, h7⟩ := id h.2.1
    have he := h.1
    have hC := c_X0_doneAt (B := B) (D := D) (n := n) (w := w) h1 h2 h3 (nI mm)
    have h0 : (if nI mm < 0 ∨ nI C.1.1.ord.length ≤ nI mm then (-5 : Int32) else dk (nI mm).toNatClampNeg) = v_order C (nI mm) := by
      unfold v_order
      rw [if_neg hi, nI_clamp hmm]
      by_cases hlt : mm < C.1.1.ord.length
      · obtain ⟨x, hx⟩ : ∃ x, C.1.1.ord[mm]? = some x := ⟨_, List.getElem?_eq_getElem hlt⟩
        rw [if_neg (by rintro (z | z); exact hi z; exact nI_ge hlt (by omega) z), hx]
        exact h6 mm x hx
      · rw [if_pos (Or.inr (nI_le (by omega) hmm)), List.getElem?_eq_none (by omega)]
    rw [h0] at hC
    refine CT.of [some (.ref e), some (.int (nI mm))] rfl (Nat.le_of_ble_eq_true rfl) pl_X6 trivial ?_
    refine px_iload_n dX6_order_0 rfl ?_
    refine px_if_ge (tgt := 8) dX6_order_1 (by decide) (fun hc1 => ?_) (fun hc1 => ?_)
    · refine px_aload_n dX6_order_8 rfl ?_
      refine px_getfield fl_X6_14 dX6_order_9 (by first | exact he | exact h1) (by rfl) ?_
      refine px_iload_n dX6_order_12 rfl ?_
      refine px_callV1 (ν := mX0_doneAt) (ci := 0) rfl rfl lk_X6_183 in_X0_doneAt se_X0_doneAt mok_X0_doneAt dX6_order_13 (hC) (by first | exact he | exact h1) rfl rfl (by omega) (by simp) ?_
      exact px_reti dX6_order_16 (by rfl) (by rfl)
    · exact absurd hi2 hc1
end M38
