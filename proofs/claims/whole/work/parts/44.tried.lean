/-! tried -/
def v_tried (C : CS) (k i v : Int32) : Int32 := if s_isTarget k = true ∧ s_isInput i = true then (if s_isContent v.toInt64 = true then (aAll (s_bitOf k) false (C.1.1.A.give i.toNatClampNeg (some v), C.1.1.2)).1.st - C.1.1.st else -2) else -1
section M44
variable {B : Nat} {D : va_G} {n w : Nat} {f : Nat → Option va_E} {e : Nat} {C : CS}
theorem c_give {a : Nat} {A : AW} (hW : IsW f a A) (hwf : wfH f n) {j : Nat} (hj : j < 8) (v : Int32) : ∃ (n2 w2 : Nat) (g : Nat → Option va_E) (p : Bool), CT B D 3 mX5_giveContent [.ref a, .int (nI j), .int v] (n, w, f) (some (.int (bi p))) (n2, w2, g) ∧ IsW g a (A.give j (some v)) ∧ Ag f g (a + 1) (a + 2) n ∧ keeps f g ∧ wfH g n2 ∧ n ≤ n2 ∧ n2 ≤ n + 1 ∧ w2 + 5 * n = w + 5 * n2 := by
  by_cases hs : A.inn j = some v
  · have e : A.give j (some v) = A := by unfold AW.give; rw [← hs, up_id]
    rw [e]
    exact ⟨n, w, f, false, c_X5_giveContent_same hW hj hs, hW, Ag.rf _ _ _ _, keeps_rf _, hwf, Nat.le_refl _, by omega, rfl⟩
  · obtain ⟨g, hC, g1, g2, g3, g4⟩ := c_X5_giveContent_new (B := B) (D := D) (w := w) hW hj hs hwf
    exact ⟨n + 1, w + 5, g, true, hC, g1, g2, g3, g4, by omega, by omega, by omega⟩
theorem c_X6_tried (h : IsE f e C) (hwf : wfH f n) (hv : vRu C.1.1.A) (k i v : Int32) : ∃ (n' w' : Nat) (g : Nat → Option va_E), CT B D 50 mX6_tried [.ref e, .int k, .int i, .int v] (n, w, f) (some (.int (v_tried C k i v))) (n', w', g) ∧ IsE g e C ∧ Ch f g n n' w w' e (e + 343) := by
  have ht0 := h.top hwf
  by_cases hk : s_isTarget k = true ∧ s_isInput i = true
  · obtain ⟨hk1, hk2⟩ := id hk
    obtain ⟨t, ht, rfl⟩ := inT.mp hk1
    obtain ⟨j, hj, rfl⟩ := inI.mp hk2
    by_cases hc : s_isContent v.toInt64 = true
    · obtain ⟨sb2, S2, h3⟩ := h.2.2.1
      obtain ⟨g1, hC1, a1, a2, a3⟩ := c_X5_copyFrom (B := B) (D := D) (n := n) (w := w) (a := e + 112 + 1) (b := e + 1 + 1) (by omega) (by omega) (by omega) h3.w h.2.1.w
      have hwf1 := hwf.ag a2 (by omega)
      have hB1 := h3.world a1 (a2 n) (by omega)
      have hE1 := h.trier hwf ((a2 n).wide (by omega) (by omega)) a3 hB1
      obtain ⟨n2, w2, g2, p, hC2, b1, b2, b3, b4, b5, b6, b7⟩ := c_give (B := B) (D := D) (n := n) (w := w) hB1.w hwf1 hj v
      have hB2 := hB1.world b1 (b2.wide (by omega) (by omega)) (by omega)
      have hE2 := hE1.trier hwf1 (b2.wide (by omega) (by omega)) b3 hB2
      obtain ⟨n3, w3, g3, hC3, c1, c2, c3, c4, c5, c6, c7⟩ := c_X0_startsFor (B := B) (D := D) (d := 42) (n := n2) (w := w2) (Nat.le_refl _) ht hB2 b4 (hv.of rfl)
      have hE3 := hE2.trier b4 c3 c4 c1
      have hst := aAll_st (S := (C.1.1.A.give j (some v), C.1.1.2)) (S' := (C.1.1.A.give j (some v), S2.2)) rfl (s_bitOf (nI (8 + t))) false
      have h0 : v_tried C (nI (8 + t)) (nI j) v = (aAll (s_bitOf (nI (8 + t))) false (C.1.1.A.give j (some v), S2.2)).1.st - S2.st := by
        unfold v_tried
        rw [if_pos hk, if_pos hc, nI_clamp (show j < 2 ^ 31 by omega)]
        exact hst.symm
      rw [h0]
      have hz2 : cd (aAll (s_bitOf (nI (8 + t))) false (C.1.1.A.give j (some v), S2.2)).1.dn ≤ 16 := cdN_le 16 _
      have c8 : n3 + cd (fun _ => false) ≤ n2 + cd (aAll (s_bitOf (nI (8 + t))) false (C.1.1.A.give j (some v), S2.2)).1.dn := c7
      rw [cd_none] at c8
      clear c7
      obtain ⟨dn, op, wt, dk, hcb, -⟩ := id h3
      obtain ⟨dn1, op1, wt1, dk1, hcb1, -⟩ := id hB1
      obtain ⟨dn2, op2, wt2, dk2, hcb2, -⟩ := id hB2
      have he := h.1
      have he1 := hE1.1
      have he2 := hE2.1
      have hW := h3.w
      have hW1 := hB1.w
      refine ⟨n3, w3, g3, ?_, hE3, (((a2 n).wide (by omega) (by omega)).tra (b2.wide (by omega) (by omega)) (Nat.le_refl _)).tra (c3.wide (by omega) (by omega)) b5, keeps_tr (keeps_tr a3 b3) c4, fun _ => c2, by omega, by omega, by omega⟩
      refine CT.of [some (.ref e), some (.int (nI (8 + t))), some (.int (nI j)), some (.int v)] rfl (Nat.le_of_ble_eq_true rfl) pl_X6 trivial ?_
      refine px_iload_n dX6_tried_0 rfl ?_
      refine px_callS1 (ν := mX6_isTarget) lk_X6_112 st_X6_isTarget mok_X6_isTarget dX6_tried_1 (c_X6_isTarget _) rfl rfl (by omega) (by simp) ?_
      refine px_ifb_eq (tgt := 14) dX6_tried_4 (by decide) (fun hc4 => ?_) (fun hc4 => ?_)
      · rw [hk1] at hc4; cases hc4
      · refine px_iload_n dX6_tried_7 rfl ?_
        refine px_callS1 (ν := mX6_isInput) lk_X6_46 st_X6_isInput mok_X6_isInput dX6_tried_8 (c_X6_isInput _) rfl rfl (by omega) (by simp) ?_
        refine px_ifb_ne (tgt := 16) dX6_tried_11 (by decide) (fun hc11 => ?_) (fun hc11 => ?_)
        · refine px_iload_n dX6_tried_16 rfl ?_
          refine px_i2l dX6_tried_17 ?_
          refine px_callS1 (ν := mX6_isContent) lk_X6_50 st_X6_isContent mok_X6_isContent dX6_tried_18 (c_X6_isContent _) rfl rfl (by omega) (by simp) ?_
          refine px_ifb_ne (tgt := 27) dX6_tried_21 (by decide) (fun hc21 => ?_) (fun hc21 => ?_)
          · refine px_aload_n dX6_tried_27 rfl ?_
            refine px_getfield fl_X6_18 dX6_tried_28 (by first | exact he | exact he1 | exact he2 | exact hcb | exact hcb1 | exact hcb2 | exact hW.1 | exact hW1.1) (by rfl) ?_
            refine px_getfield fl_X6_21 dX6_tried_31 (by first | exact he | exact he1 | exact he2 | exact hcb | exact hcb1 | exact hcb2 | exact hW.1 | exact hW1.1) (by rfl) ?_
            refine px_aload_n dX6_tried_34 rfl ?_
            refine px_getfield fl_X6_25 dX6_tried_35 (by first | exact he | exact he1 | exact he2 | exact hcb | exact hcb1 | exact hcb2 | exact hW.1 | exact hW1.1) (by rfl) ?_
            refine px_callV0 (ν := mX5_copyFrom) (ci := 5) rfl rfl lk_X6_126 in_X5_copyFrom se_X5_copyFrom mok_X5_copyFrom dX6_tried_38 (hC1) (by first | exact he | exact he1 | exact he2 | exact hcb | exact hcb1 | exact hcb2 | exact hW.1 | exact hW1.1) rfl rfl (by omega) (by simp) ?_
            refine px_aload_n dX6_tried_41 rfl ?_
            refine px_getfield fl_X6_18 dX6_tried_42 (by first | exact he | exact he1 | exact he2 | exact hcb | exact hcb1 | exact hcb2 | exact hW.1 | exact hW1.1) (by rfl) ?_
            refine px_getfield fl_X6_21 dX6_tried_45 (by first | exact he | exact he1 | exact he2 | exact hcb | exact hcb1 | exact hcb2 | exact hW.1 | exact hW1.1) (by rfl) ?_
            refine px_iload_n dX6_tried_48 rfl ?_
            refine px_iload_n dX6_tried_49 rfl ?_
            refine px_callV1 (ν := mX5_giveContent) (ci := 5) rfl rfl lk_X6_54 in_X5_giveContent se_X5_giveContent mok_X5_giveContent dX6_tried_50 (hC2) (by first | exact he | exact he1 | exact he2 | exact hcb | exact hcb1 | exact hcb2 | exact hW.1 | exact hW1.1) rfl rfl (by omega) (by simp) ?_
            refine px_pop dX6_tried_53 rfl ?_
            refine px_aload_n dX6_tried_54 rfl ?_
            refine px_getfield fl_X6_18 dX6_tried_55 (by first | exact he | exact he1 | exact he2 | exact hcb | exact hcb1 | exact hcb2 | exact hW.1 | exact hW1.1) (by rfl) ?_
            refine px_iload_n dX6_tried_58 rfl ?_
            refine px_callV1 (ν := mX0_startsFor) (ci := 0) rfl rfl lk_X6_115 in_X0_startsFor se_X0_startsFor mok_X0_startsFor dX6_tried_59 (hC3) (by first | exact he | exact he1 | exact he2 | exact hcb | exact hcb1 | exact hcb2 | exact hW.1 | exact hW1.1) rfl rfl (by omega) (by simp) ?_
            exact px_reti dX6_tried_62 (by rfl) (by rfl)
          · rw [hc] at hc21; cases hc21
        · rw [hk2] at hc11; cases hc11
    · have h0 : v_tried C (nI (8 + t)) (nI j) v = -2 := by unfold v_tried; rw [if_pos hk, if_neg hc]
      rw [h0]
      refine ⟨n, w, f, ?_, h, Ch.rf _ _ _ _ _⟩
      refine CT.of [some (.ref e), some (.int (nI (8 + t))), some (.int (nI j)), some (.int v)] rfl (Nat.le_of_ble_eq_true rfl) pl_X6 trivial ?_
      refine px_iload_n dX6_tried_0 rfl ?_
      refine px_callS1 (ν := mX6_isTarget) lk_X6_112 st_X6_isTarget mok_X6_isTarget dX6_tried_1 (c_X6_isTarget _) rfl rfl (by omega) (by simp) ?_
      refine px_ifb_eq (tgt := 14) dX6_tried_4 (by decide) (fun hc4 => ?_) (fun hc4 => ?_)
      · rw [hk1] at hc4; cases hc4
      · refine px_iload_n dX6_tried_7 rfl ?_
        refine px_callS1 (ν := mX6_isInput) lk_X6_46 st_X6_isInput mok_X6_isInput dX6_tried_8 (c_X6_isInput _) rfl rfl (by omega) (by simp) ?_
        refine px_ifb_ne (tgt := 16) dX6_tried_11 (by decide) (fun hc11 => ?_) (fun hc11 => ?_)
        · refine px_iload_n dX6_tried_16 rfl ?_
          refine px_i2l dX6_tried_17 ?_
          refine px_callS1 (ν := mX6_isContent) lk_X6_50 st_X6_isContent mok_X6_isContent dX6_tried_18 (c_X6_isContent _) rfl rfl (by omega) (by simp) ?_
          refine px_ifb_ne (tgt := 27) dX6_tried_21 (by decide) (fun hc21 => ?_) (fun hc21 => ?_)
          · exact absurd hc21 hc
          · refine px_bipush (v := (-2)) dX6_tried_24 (by decide) ?_
            exact px_reti dX6_tried_26 (by rfl) (by rfl)
        · rw [hk2] at hc11; cases hc11
  · have h0 : v_tried C k i v = -1 := by unfold v_tried; rw [if_neg hk]
    rw [h0]
    refine ⟨n, w, f, ?_, h, Ch.rf _ _ _ _ _⟩
    refine CT.of [some (.ref e), some (.int k), some (.int i), some (.int v)] rfl (Nat.le_of_ble_eq_true rfl) pl_X6 trivial ?_
    refine px_iload_n dX6_tried_0 rfl ?_
    refine px_callS1 (ν := mX6_isTarget) lk_X6_112 st_X6_isTarget mok_X6_isTarget dX6_tried_1 (c_X6_isTarget _) rfl rfl (by omega) (by simp) ?_
    refine px_ifb_eq (tgt := 14) dX6_tried_4 (by decide) (fun hc4 => ?_) (fun hc4 => ?_)
    · refine px_iconst (v := (-1)) dX6_tried_14 (by decide) ?_
      exact px_reti dX6_tried_15 (by rfl) (by rfl)
    · refine px_iload_n dX6_tried_7 rfl ?_
      refine px_callS1 (ν := mX6_isInput) lk_X6_46 st_X6_isInput mok_X6_isInput dX6_tried_8 (c_X6_isInput _) rfl rfl (by omega) (by simp) ?_
      refine px_ifb_ne (tgt := 16) dX6_tried_11 (by decide) (fun hc11 => ?_) (fun hc11 => ?_)
      · exact absurd ⟨hc4, hc11⟩ hk
      · refine px_iconst (v := (-1)) dX6_tried_14 (by decide) ?_
        exact px_reti dX6_tried_15 (by rfl) (by rfl)
end M44
