/-! rule -/
def tpF (T : Nat × (Nat → Int32)) : Int32 := tp_fault T.1 T.2 T.1 0
def v_rule (C : CS) (k : Int32) : Int32 × CS := if s_isTarget k = true then (if tpF C.2.2.1 = -1 then (nI (C.2.2.1.1 / 3), (((C.1.1.A.put k.toNatClampNeg (ruleOf C.2.2.1.1 C.2.2.1.2 (C.2.2.1.1 / 3)) (C.1.1.A.rs k.toNatClampNeg) none, C.1.1.2), C.1.2), (C.2.1, ((0, C.2.2.1.2), C.2.2.2)))) else (-100 - tpF C.2.2.1, (C.1, (C.2.1, ((0, C.2.2.1.2), C.2.2.2))))) else (-1, C)
section M50
variable {B : Nat} {D : va_G} {n w : Nat} {f : Nat → Option va_E} {e : Nat} {C : CS}
theorem IsE.empty (h : IsE f e C) (hwf : wfH f n) : CT B D 0 mX3_empty [.ref (e + 332)] (n, w, f) (some (.int (nI C.2.2.1.1))) (n, w, va_up f (e + 332) (some (.inr (3, [.ref (e + 332 + 1), .int 0])))) ∧ IsE (va_up f (e + 332) (some (.inr (3, [.ref (e + 332 + 1), .int 0])))) e (C.1, (C.2.1, ((0, C.2.2.1.2), C.2.2.2))) ∧ keeps f (va_up f (e + 332) (some (.inr (3, [.ref (e + 332 + 1), .int 0])))) ∧ (∀ N, Ag f (va_up f (e + 332) (some (.inr (3, [.ref (e + 332 + 1), .int 0])))) (e + 332) (e + 333) N) ∧ wfH (va_up f (e + 332) (some (.inr (3, [.ref (e + 332 + 1), .int 0])))) n := by
  have hP := h.2.2.2.2.1
  have hK : keeps f (va_up f (e + 332) (some (.inr (3, [.ref (e + 332 + 1), .int 0])))) := keeps_at hP.1 (fun fs e => by cases e)
  have hA : ∀ N, Ag f (va_up f (e + 332) (some (.inr (3, [.ref (e + 332 + 1), .int 0])))) (e + 332) (e + 333) N := fun N => (Ag.rf _ _ _ _).up (by omega) (by omega)
  exact ⟨c_X3_empty hP, h.tape hwf ((hA n).wide (by omega) (by omega)) hK ⟨va_up_self _ _ _, by rw [va_up_ne _ _ (by omega)]; exact hP.2.1, Nat.zero_le _⟩, hK, hA, hwf.up (hwf.lt hP.1)⟩
theorem c_X6_rule (h : IsE f e C) (hwf : wfH f n) (k : Int32) : ∃ g : Nat → Option va_E, CT B D 50 mX6_rule [.ref e, .int k] (n, w, f) (some (.int (v_rule C k).1)) (n, w, g) ∧ IsE g e (v_rule C k).2 ∧ Ch f g n n w w e (e + 343) := by
  have ht0 := h.top hwf
  have he := h.1
  have hW := h.2.1.w
  have hP := h.2.2.2.2.1
  have hF := c_X3_faultAsRule (B := B) (D := D) (n := n) (w := w) hP
  by_cases hk : s_isTarget k = true
  · obtain ⟨t, ht, rfl⟩ := inT.mp hk
    obtain ⟨hl12, q0, l0, hcell0⟩ := (hW.2.2.2.2.2 t ht).cell
    by_cases hf : tp_fault C.2.2.1.1 C.2.2.1.2 C.2.2.1.1 0 = -1
    · have h0 : v_rule C (nI (8 + t)) = (nI (C.2.2.1.1 / 3), (((C.1.1.A.put (8 + t) (ruleOf C.2.2.1.1 C.2.2.1.2 (C.2.2.1.1 / 3)) (C.1.1.A.rs (8 + t)) none, C.1.1.2), C.1.2), (C.2.1, ((0, C.2.2.1.2), C.2.2.2)))) := by unfold v_rule tpF; rw [if_pos hk, if_pos hf, clamp_lt _ (by omega)]
      rw [h0]
      obtain ⟨M, hM, hM0, hML, hMr⟩ := tp_rule hP.2.2 hf
      have hM3 : C.2.2.1.1 / 3 = M := by omega
      rw [hM3]
      obtain ⟨g1, hC, hT, hA, hK⟩ := c_X4_readRule (B := B) (D := D) (n := n) (w := w) (a := e + 1 + 1 + 5 + 5 * t) (b := e + 332) hM hML (by omega) (hW.2.2.2.2.2 t ht) hP (fun j hj => by
        obtain ⟨-, v, hv, e1, -⟩ := hMr j hj
        rw [e1]
        exact nI_pos (by omega))
      have hwf1 := hwf.ag hA (by omega)
      have hE1 := h.worlds hwf (hA n) (by omega) (by omega) hK (hW.put ht (hW.top hwf) (hA n) hK hT)
      obtain ⟨hC2, hE2, hK2, hA2, hwf2⟩ := hE1.empty (B := B) (D := D) (n := n) (w := w) hwf1
      have he1 := hE1.1
      have hP1 := hE1.2.2.2.2.1
      have hW2 := hE2.2.1.w
      obtain ⟨hl2, q2, l2, hcell2⟩ := (hW2.2.2.2.2.2 t ht).cell
      have hlen : ((C.1.1.A.put (8 + t) (ruleOf C.2.2.1.1 C.2.2.1.2 M) (C.1.1.A.rs (8 + t)) none).ru (8 + t)).length = M := by simp [AW.put, AW.ru, va_up_self, ruleOf]
      have hcell3 : (va_up g1 (e + 332) (some (.inr (3, [.ref (e + 332 + 1), .int 0])))) (e + 1 + 1 + 5 + 5 * t) = some (tcell (e + 1 + 1 + 5 + 5 * t) (nI M) q2 l2) := by rw [← hlen]; exact hcell2
      refine ⟨_, ?_, hE2, ((hA n).wide (by omega) (by omega)).tra ((hA2 n).wide (by omega) (by omega)) (Nat.le_refl _), keeps_tr hK hK2, fun _ => hwf2, Nat.le_refl _, by omega, rfl⟩
      refine CT.of [some (.ref e), some (.int (nI (8 + t))), none, none] rfl (Nat.le_of_ble_eq_true rfl) pl_X6 trivial ?_
      refine px_aload_n dX6_rule_0 rfl ?_
      refine px_getfield fl_X6_25 dX6_rule_1 (by first | exact he | exact he1 | exact hW.1 | exact hP.1 | exact hP1.1 | exact hcell0 | exact hcell3) (by rfl) ?_
      refine px_iload_n dX6_rule_4 rfl ?_
      refine px_callV1 (ν := mX5_targetOf) (ci := 5) rfl rfl lk_X6_82 in_X5_targetOf se_X5_targetOf mok_X5_targetOf dX6_rule_5 (c_X5_targetOf hW ht) (by first | exact he | exact he1 | exact hW.1 | exact hP.1 | exact hP1.1 | exact hcell0 | exact hcell3) rfl rfl (by omega) (by simp) ?_
      refine px_astore2 rfl dX6_rule_8 ?_
      refine px_aload_n dX6_rule_9 rfl ?_
      refine px_ifnonnull_t (tgt := 15) dX6_rule_10 (by decide) ?_
      refine px_aload_n dX6_rule_15 rfl ?_
      refine px_getfield fl_X6_35 dX6_rule_16 (by first | exact he | exact he1 | exact hW.1 | exact hP.1 | exact hP1.1 | exact hcell0 | exact hcell3) (by rfl) ?_
      refine px_callV1 (ν := mX3_faultAsRule) (ci := 3) rfl rfl lk_X6_86 in_X3_faultAsRule se_X3_faultAsRule mok_X3_faultAsRule dX6_rule_19 (hF) (by first | exact he | exact he1 | exact hW.1 | exact hP.1 | exact hP1.1 | exact hcell0 | exact hcell3) rfl rfl (by omega) (by simp) ?_
      refine px_istore3 rfl dX6_rule_22 ?_
      refine px_iload_n dX6_rule_23 rfl ?_
      refine px_iconst (v := (-1)) dX6_rule_24 (by decide) ?_
      refine px_icmp_ne (tgt := 36) dX6_rule_25 (by decide) (fun hc25 => ?_) (fun hc25 => ?_)
      · exact absurd hf hc25
      · refine px_aload_n dX6_rule_28 rfl ?_
        refine px_aload_n dX6_rule_29 rfl ?_
        refine px_getfield fl_X6_35 dX6_rule_30 (by first | exact he | exact he1 | exact hW.1 | exact hP.1 | exact hP1.1 | exact hcell0 | exact hcell3) (by rfl) ?_
        refine px_callV0 (ν := mX4_readRule) (ci := 4) rfl rfl lk_X6_89 in_X4_readRule se_X4_readRule mok_X4_readRule dX6_rule_33 (hC) (by first | exact he | exact he1 | exact hW.1 | exact hP.1 | exact hP1.1 | exact hcell0 | exact hcell3) rfl rfl (by omega) (by simp) ?_
        refine px_aload_n dX6_rule_36 rfl ?_
        refine px_getfield fl_X6_35 dX6_rule_37 (by first | exact he | exact he1 | exact hW.1 | exact hP.1 | exact hP1.1 | exact hcell0 | exact hcell3) (by rfl) ?_
        refine px_callV1 (ν := mX3_empty) (ci := 3) rfl rfl lk_X6_78 in_X3_empty se_X3_empty mok_X3_empty dX6_rule_40 (hC2) (by first | exact he | exact he1 | exact hW.1 | exact hP.1 | exact hP1.1 | exact hcell0 | exact hcell3) rfl rfl (by omega) (by simp) ?_
        refine px_pop dX6_rule_43 rfl ?_
        refine px_iload_n dX6_rule_44 rfl ?_
        refine px_iconst (v := (-1)) dX6_rule_45 (by decide) ?_
        refine px_icmp_ne (tgt := 56) dX6_rule_46 (by decide) (fun hc46 => ?_) (fun hc46 => ?_)
        · exact absurd hf hc46
        · refine px_aload_n dX6_rule_49 rfl ?_
          refine px_getfield fl_X6_95 dX6_rule_50 (by first | exact he | exact he1 | exact hW.1 | exact hP.1 | exact hP1.1 | exact hcell0 | exact hcell3) (by rfl) ?_
          refine px_goto (tgt := 60) dX6_rule_53 (by decide) ?_
          exact px_reti dX6_rule_60 (by rfl) (by rfl)
    · have h0 : v_rule C (nI (8 + t)) = (-100 - tp_fault C.2.2.1.1 C.2.2.1.2 C.2.2.1.1 0, (C.1, (C.2.1, ((0, C.2.2.1.2), C.2.2.2)))) := by unfold v_rule tpF; rw [if_pos hk, if_neg hf]
      rw [h0]
      obtain ⟨hC2, hE2, hK2, hA2, hwf2⟩ := h.empty (B := B) (D := D) (n := n) (w := w) hwf
      refine ⟨_, ?_, hE2, (hA2 n).wide (by omega) (by omega), hK2, fun _ => hwf2, Nat.le_refl _, by omega, rfl⟩
      refine CT.of [some (.ref e), some (.int (nI (8 + t))), none, none] rfl (Nat.le_of_ble_eq_true rfl) pl_X6 trivial ?_
      refine px_aload_n dX6_rule_0 rfl ?_
      refine px_getfield fl_X6_25 dX6_rule_1 (by first | exact he | exact hW.1 | exact hP.1 | exact hcell0) (by rfl) ?_
      refine px_iload_n dX6_rule_4 rfl ?_
      refine px_callV1 (ν := mX5_targetOf) (ci := 5) rfl rfl lk_X6_82 in_X5_targetOf se_X5_targetOf mok_X5_targetOf dX6_rule_5 (c_X5_targetOf hW ht) (by first | exact he | exact hW.1 | exact hP.1 | exact hcell0) rfl rfl (by omega) (by simp) ?_
      refine px_astore2 rfl dX6_rule_8 ?_
      refine px_aload_n dX6_rule_9 rfl ?_
      refine px_ifnonnull_t (tgt := 15) dX6_rule_10 (by decide) ?_
      refine px_aload_n dX6_rule_15 rfl ?_
      refine px_getfield fl_X6_35 dX6_rule_16 (by first | exact he | exact hW.1 | exact hP.1 | exact hcell0) (by rfl) ?_
      refine px_callV1 (ν := mX3_faultAsRule) (ci := 3) rfl rfl lk_X6_86 in_X3_faultAsRule se_X3_faultAsRule mok_X3_faultAsRule dX6_rule_19 (hF) (by first | exact he | exact hW.1 | exact hP.1 | exact hcell0) rfl rfl (by omega) (by simp) ?_
      refine px_istore3 rfl dX6_rule_22 ?_
      refine px_iload_n dX6_rule_23 rfl ?_
      refine px_iconst (v := (-1)) dX6_rule_24 (by decide) ?_
      refine px_icmp_ne (tgt := 36) dX6_rule_25 (by decide) (fun hc25 => ?_) (fun hc25 => ?_)
      · refine px_aload_n dX6_rule_36 rfl ?_
        refine px_getfield fl_X6_35 dX6_rule_37 (by first | exact he | exact hW.1 | exact hP.1 | exact hcell0) (by rfl) ?_
        refine px_callV1 (ν := mX3_empty) (ci := 3) rfl rfl lk_X6_78 in_X3_empty se_X3_empty mok_X3_empty dX6_rule_40 (hC2) (by first | exact he | exact hW.1 | exact hP.1 | exact hcell0) rfl rfl (by omega) (by simp) ?_
        refine px_pop dX6_rule_43 rfl ?_
        refine px_iload_n dX6_rule_44 rfl ?_
        refine px_iconst (v := (-1)) dX6_rule_45 (by decide) ?_
        refine px_icmp_ne (tgt := 56) dX6_rule_46 (by decide) (fun hc46 => ?_) (fun hc46 => ?_)
        · refine px_bipush (v := (-100)) dX6_rule_56 (by decide) ?_
          refine px_iload_n dX6_rule_58 rfl ?_
          refine px_isub dX6_rule_59 ?_
          exact px_reti dX6_rule_60 (by rfl) (by rfl)
        · exact absurd hc46 hf
      · exact absurd hc25 hf
  · have hk' : s_isTarget k = false := by simpa using hk
    have h0 : v_rule C k = (-1, C) := by unfold v_rule; rw [if_neg hk]
    rw [h0]
    refine ⟨f, ?_, h, Ch.rf _ _ _ _ _⟩
    refine CT.of [some (.ref e), some (.int k), none, none] rfl (Nat.le_of_ble_eq_true rfl) pl_X6 trivial ?_
    refine px_aload_n dX6_rule_0 rfl ?_
    refine px_getfield fl_X6_25 dX6_rule_1 (by first | exact he | exact hW.1) (by rfl) ?_
    refine px_iload_n dX6_rule_4 rfl ?_
    refine px_callV1 (ν := mX5_targetOf) (ci := 5) rfl rfl lk_X6_82 in_X5_targetOf se_X5_targetOf mok_X5_targetOf dX6_rule_5 (c_X5_targetOf_n hk') (by first | exact he | exact hW.1) rfl rfl (by omega) (by simp) ?_
    refine px_astoreN2 rfl dX6_rule_8 ?_
    refine px_aload_nN dX6_rule_9 rfl ?_
    refine px_ifnonnull_f dX6_rule_10 ?_
    refine px_iconst (v := (-1)) dX6_rule_13 (by decide) ?_
    exact px_reti dX6_rule_14 (by rfl) (by rfl)
end M50
