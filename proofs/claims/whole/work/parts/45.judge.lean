/-! judge -/
def aJ (A : AW) (s : Nat) (pl : Nat → Int64) (i : Int32) : Nat → Int32
  | 0 => -5
  | k + 1 => if r_has (nI s) (i + nI (15 - k)) = true then (if pl (i + nI (15 - k)).toNatClampNeg = (toldO (aHas A (8 + (15 - k)))).toInt64 then aJ A s pl i k else nI (15 - k)) else 100 + nI (15 - k)
def v_judge (A : AW) (R : Nat → aR) (k i : Int32) : Int32 := if s_isRow k = true then (match (R k.toNatClampNeg).1 with | some s => aJ A s (R k.toNatClampNeg).2 i 16 | none => -11) else -1
section M45
variable {B : Nat} {D : va_G} {n w : Nat} {f : Nat → Option va_E} {e : Nat} {im : Bool} {R : Nat → aR} {A : AW}
theorem l_X6_judge_25 {d a : Nat} (hd : 4 ≤ d) (he : f e = some (ecell e im)) (hW : IsW f (e + 1 + 1) A) {k0 i hdv : Int32} {s : Nat} {pl P : Nat → Int64} (hR : IsR f a hdv (nI s) pl) (hs : s ≤ 20) (hpl : ∀ j, j < 20 → pl j = P j) : ∀ k : Nat, k ≤ 16 → EX B D d mX6_judge 25 [some (.ref e), some (.int k0), some (.int i), some (.ref a), some (.int (nI (16 - k)))] [] (n, w, f) (some (.int (aJ A s P i k))) (n, w, f) := by
  intro k
  induction k with
  | zero =>
    intro _
    refine px_iload dX6_judge_25 rfl ?_
    refine px_bipush (v := 16) dX6_judge_27 (by decide) ?_
    refine px_icmp_ge (tgt := 83) dX6_judge_29 (by decide) (fun hc29 => ?_) (fun hc29 => ?_)
    · refine px_bipush (v := (-5)) dX6_judge_83 (by decide) ?_
      exact px_reti dX6_judge_85 (by rfl) (by rfl)
    · exact absurd (show (16 : Int32) ≤ nI (16 - 0) by decide) hc29
  | succ k ih =>
    intro hk
    have hI := ih (by omega)
    obtain ⟨t, ht, hkt⟩ : ∃ t, t < 16 ∧ 15 - k = t := ⟨15 - k, by omega, rfl⟩
    have e1 : 16 - (k + 1) = t := by omega
    have hinc : nI t + Int32.ofInt 1 = nI (16 - k) := by rw [nI_inc]; congr 1; omega
    have h16 : ¬ (16 : Int32) ≤ nI t := nI_ge (b := 16) (by omega) (by omega)
    have h8t : (8 : Int32) + nI t = nI (8 + t) := nI_add 8 t
    have hT := c_X5_toldResult (B := B) (D := D) (n := n) (w := w) hW (k := 8 + t) (by omega)
    have hRd := c_X2_read (B := B) (D := D) (n := n) (w := w) hR (by rw [nI_toInt (by omega)]; omega) (i + nI t)
    rw [e1]
    by_cases hh : r_has (nI s) (i + nI t) = true
    · obtain ⟨j, hj, hij⟩ := (r_has_lt (by omega)).mp hh
      have hpj : pl (i + nI t).toNatClampNeg = P (i + nI t).toNatClampNeg := by rw [hij, nI_clamp (by omega)]; exact hpl j (by omega)
      rw [if_pos hh, hpj] at hRd
      by_cases hq : P (i + nI t).toNatClampNeg = (toldO (aHas A (8 + t))).toInt64
      · have ez : aJ A s P i (k + 1) = aJ A s P i k := by rw [aJ, hkt, if_pos hh, if_pos hq]
        rw [ez]
        refine px_iload dX6_judge_25 rfl ?_
        refine px_bipush (v := 16) dX6_judge_27 (by decide) ?_
        refine px_icmp_ge (tgt := 83) dX6_judge_29 (by decide) (fun hc29 => ?_) (fun hc29 => ?_)
        · exact absurd hc29 h16
        · refine px_aload_n dX6_judge_32 rfl ?_
          refine px_iload_n dX6_judge_33 rfl ?_
          refine px_iload dX6_judge_34 rfl ?_
          refine px_iadd dX6_judge_36 ?_
          refine px_callV1 (ν := mX2_hasPlace) (ci := 2) rfl rfl lk_X6_262 in_X2_hasPlace se_X2_hasPlace mok_X2_hasPlace dX6_judge_37 (c_X2_hasPlace hR _) (by first | exact he | exact hR.1 | exact hW.1) rfl rfl (by omega) (by simp) ?_
          refine px_ifb_ne (tgt := 49) dX6_judge_40 (by decide) (fun hc40 => ?_) (fun hc40 => ?_)
          · refine px_aload_n dX6_judge_49 rfl ?_
            refine px_iload_n dX6_judge_50 rfl ?_
            refine px_iload dX6_judge_51 rfl ?_
            refine px_iadd dX6_judge_53 ?_
            refine px_callV1 (ν := mX2_read) (ci := 2) rfl rfl lk_X6_245 in_X2_read se_X2_read mok_X2_read dX6_judge_54 (hRd) (by first | exact he | exact hR.1 | exact hW.1) rfl rfl (by omega) (by simp) ?_
            refine px_aload_n dX6_judge_57 rfl ?_
            refine px_getfield fl_X6_25 dX6_judge_58 (by first | exact he | exact hR.1 | exact hW.1) (by rfl) ?_
            refine px_bipush (v := 8) dX6_judge_61 (by decide) ?_
            refine px_iload dX6_judge_63 rfl ?_
            refine px_iadd dX6_judge_65 ?_
            rw [h8t]
            refine px_callV1 (ν := mX5_toldResult) (ci := 5) rfl rfl lk_X6_133 in_X5_toldResult se_X5_toldResult mok_X5_toldResult dX6_judge_66 (hT) (by first | exact he | exact hR.1 | exact hW.1) rfl rfl (by omega) (by simp) ?_
            refine px_i2l dX6_judge_69 ?_
            refine px_l_eq (tgt := 77) dX6_judge_70 dX6_judge_71 (by decide) (fun hc71 => ?_) (fun hc71 => ?_)
            · refine px_iinc4 rfl hinc dX6_judge_77 ?_
              refine px_goto (tgt := 25) dX6_judge_80 (by decide) ?_
              exact hI
            · exact absurd hq hc71
          · rw [hh] at hc40; cases hc40
      · have ez : aJ A s P i (k + 1) = nI t := by rw [aJ, hkt, if_pos hh, if_neg hq]
        rw [ez]
        refine px_iload dX6_judge_25 rfl ?_
        refine px_bipush (v := 16) dX6_judge_27 (by decide) ?_
        refine px_icmp_ge (tgt := 83) dX6_judge_29 (by decide) (fun hc29 => ?_) (fun hc29 => ?_)
        · exact absurd hc29 h16
        · refine px_aload_n dX6_judge_32 rfl ?_
          refine px_iload_n dX6_judge_33 rfl ?_
          refine px_iload dX6_judge_34 rfl ?_
          refine px_iadd dX6_judge_36 ?_
          refine px_callV1 (ν := mX2_hasPlace) (ci := 2) rfl rfl lk_X6_262 in_X2_hasPlace se_X2_hasPlace mok_X2_hasPlace dX6_judge_37 (c_X2_hasPlace hR _) (by first | exact he | exact hR.1 | exact hW.1) rfl rfl (by omega) (by simp) ?_
          refine px_ifb_ne (tgt := 49) dX6_judge_40 (by decide) (fun hc40 => ?_) (fun hc40 => ?_)
          · refine px_aload_n dX6_judge_49 rfl ?_
            refine px_iload_n dX6_judge_50 rfl ?_
            refine px_iload dX6_judge_51 rfl ?_
            refine px_iadd dX6_judge_53 ?_
            refine px_callV1 (ν := mX2_read) (ci := 2) rfl rfl lk_X6_245 in_X2_read se_X2_read mok_X2_read dX6_judge_54 (hRd) (by first | exact he | exact hR.1 | exact hW.1) rfl rfl (by omega) (by simp) ?_
            refine px_aload_n dX6_judge_57 rfl ?_
            refine px_getfield fl_X6_25 dX6_judge_58 (by first | exact he | exact hR.1 | exact hW.1) (by rfl) ?_
            refine px_bipush (v := 8) dX6_judge_61 (by decide) ?_
            refine px_iload dX6_judge_63 rfl ?_
            refine px_iadd dX6_judge_65 ?_
            rw [h8t]
            refine px_callV1 (ν := mX5_toldResult) (ci := 5) rfl rfl lk_X6_133 in_X5_toldResult se_X5_toldResult mok_X5_toldResult dX6_judge_66 (hT) (by first | exact he | exact hR.1 | exact hW.1) rfl rfl (by omega) (by simp) ?_
            refine px_i2l dX6_judge_69 ?_
            refine px_l_eq (tgt := 77) dX6_judge_70 dX6_judge_71 (by decide) (fun hc71 => ?_) (fun hc71 => ?_)
            · exact absurd hc71 hq
            · refine px_iload dX6_judge_74 rfl ?_
              exact px_reti dX6_judge_76 (by rfl) (by rfl)
          · rw [hh] at hc40; cases hc40
    · have ez : aJ A s P i (k + 1) = 100 + nI t := by rw [aJ, hkt, if_neg hh]
      rw [ez]
      refine px_iload dX6_judge_25 rfl ?_
      refine px_bipush (v := 16) dX6_judge_27 (by decide) ?_
      refine px_icmp_ge (tgt := 83) dX6_judge_29 (by decide) (fun hc29 => ?_) (fun hc29 => ?_)
      · exact absurd hc29 h16
      · refine px_aload_n dX6_judge_32 rfl ?_
        refine px_iload_n dX6_judge_33 rfl ?_
        refine px_iload dX6_judge_34 rfl ?_
        refine px_iadd dX6_judge_36 ?_
        refine px_callV1 (ν := mX2_hasPlace) (ci := 2) rfl rfl lk_X6_262 in_X2_hasPlace se_X2_hasPlace mok_X2_hasPlace dX6_judge_37 (c_X2_hasPlace hR _) (by first | exact he | exact hR.1 | exact hW.1) rfl rfl (by omega) (by simp) ?_
        refine px_ifb_ne (tgt := 49) dX6_judge_40 (by decide) (fun hc40 => ?_) (fun hc40 => ?_)
        · exact absurd hc40 hh
        · refine px_bipush (v := 100) dX6_judge_43 (by decide) ?_
          refine px_iload dX6_judge_45 rfl ?_
          refine px_iadd dX6_judge_47 ?_
          exact px_reti dX6_judge_48 (by rfl) (by rfl)
theorem c_X6_judge (he : f e = some (ecell e im)) (hW : IsW f (e + 1 + 1) A) (hR : IsRw f e R) (k i : Int32) : CT B D 4 mX6_judge [.ref e, .int k, .int i] (n, w, f) (some (.int (v_judge A R k i))) (n, w, f) := by
  by_cases hk : s_isRow k = true
  · obtain ⟨u, hu, rfl⟩ := inR.mp hk
    obtain ⟨rw0, i1, i2⟩ := id hR
    obtain ⟨i3, pl, i4, i5, i6⟩ := i2 u hu
    cases hs : (R u).1 with
    | none =>
      have h0 : v_judge A R (nI u) i = -11 := by unfold v_judge; rw [if_pos hk, nI_clamp (show u < 2 ^ 31 by omega), hs]
      rw [h0]
      rw [hs] at i4
      refine CT.of [some (.ref e), some (.int (nI u)), some (.int i), none, none] rfl (Nat.le_of_ble_eq_true rfl) pl_X6 trivial ?_
      refine px_aload_n dX6_judge_0 rfl ?_
      refine px_iload_n dX6_judge_1 rfl ?_
      refine px_callV1 (ν := mX6_rowOf) (ci := 6) rfl rfl lk_X6_228 in_X6_rowOf se_X6_rowOf mok_X6_rowOf dX6_judge_2 (c_X6_rowOf he hR hu) (by first | exact he | exact i4.1) rfl rfl (by omega) (by simp) ?_
      refine px_astore3 rfl dX6_judge_5 ?_
      refine px_aload_n dX6_judge_6 rfl ?_
      refine px_ifnonnull_t (tgt := 12) dX6_judge_7 (by decide) ?_
      refine px_aload_n dX6_judge_12 rfl ?_
      refine px_getfield fl_X6_235 dX6_judge_13 (by first | exact he | exact i4.1) (by rfl) ?_
      refine px_ifb_ne (tgt := 22) dX6_judge_16 (by decide) (fun hc16 => ?_) (fun hc16 => ?_)
      · cases hc16
      · refine px_bipush (v := (-11)) dX6_judge_19 (by decide) ?_
        exact px_reti dX6_judge_21 (by rfl) (by rfl)
    | some s =>
      have h0 : v_judge A R (nI u) i = aJ A s (R u).2 i 16 := by unfold v_judge; rw [if_pos hk, nI_clamp (show u < 2 ^ 31 by omega), hs]
      rw [h0]
      rw [hs] at i4 i6
      have hX := l_X6_judge_25 (B := B) (D := D) (n := n) (w := w) (d := 4) (k0 := nI u) (i := i) (P := (R u).2) (Nat.le_refl _) he hW i4 i6 i5 16 (Nat.le_refl _)
      refine CT.of [some (.ref e), some (.int (nI u)), some (.int i), none, none] rfl (Nat.le_of_ble_eq_true rfl) pl_X6 trivial ?_
      refine px_aload_n dX6_judge_0 rfl ?_
      refine px_iload_n dX6_judge_1 rfl ?_
      refine px_callV1 (ν := mX6_rowOf) (ci := 6) rfl rfl lk_X6_228 in_X6_rowOf se_X6_rowOf mok_X6_rowOf dX6_judge_2 (c_X6_rowOf he hR hu) (by first | exact he | exact i4.1) rfl rfl (by omega) (by simp) ?_
      refine px_astore3 rfl dX6_judge_5 ?_
      refine px_aload_n dX6_judge_6 rfl ?_
      refine px_ifnonnull_t (tgt := 12) dX6_judge_7 (by decide) ?_
      refine px_aload_n dX6_judge_12 rfl ?_
      refine px_getfield fl_X6_235 dX6_judge_13 (by first | exact he | exact i4.1) (by rfl) ?_
      refine px_ifb_ne (tgt := 22) dX6_judge_16 (by decide) (fun hc16 => ?_) (fun hc16 => ?_)
      · refine px_iconst (v := 0) dX6_judge_22 (by decide) ?_
        refine px_istore4 rfl dX6_judge_23 ?_
        exact hX
      · cases hc16
  · have hk' : s_isRow k = false := by simpa using hk
    have h0 : v_judge A R k i = -1 := by unfold v_judge; rw [if_neg hk]
    rw [h0]
    refine CT.of [some (.ref e), some (.int k), some (.int i), none, none] rfl (Nat.le_of_ble_eq_true rfl) pl_X6 trivial ?_
    refine px_aload_n dX6_judge_0 rfl ?_
    refine px_iload_n dX6_judge_1 rfl ?_
    refine px_callV1 (ν := mX6_rowOf) (ci := 6) rfl rfl lk_X6_228 in_X6_rowOf se_X6_rowOf mok_X6_rowOf dX6_judge_2 (c_X6_rowOf_n hk') (by exact he) rfl rfl (by omega) (by simp) ?_
    refine px_astoreN3 rfl dX6_judge_5 ?_
    refine px_aload_nN dX6_judge_6 rfl ?_
    refine px_ifnonnull_f dX6_judge_7 ?_
    refine px_iconst (v := (-1)) dX6_judge_10 (by decide) ?_
    exact px_reti dX6_judge_11 (by rfl) (by rfl)
end M45
