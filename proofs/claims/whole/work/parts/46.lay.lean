/-! lay -/
def aL (A : AW) (s : Nat) (i : Int32) : Nat → (Nat → Int64) → Int32 × (Nat → Int64)
  | 0, P => (16, P)
  | k + 1, P => if r_has (nI s) (i + nI (15 - k)) = true then aL A s i k (va_up P (i + nI (15 - k)).toNatClampNeg (toldO (aHas A (8 + (15 - k)))).toInt64) else (-13, P)
def v_lay (A : AW) (R : Nat → aR) (k i : Int32) : Int32 × (Nat → aR) := if s_isRow k = true then (match (R k.toNatClampNeg).1 with | some s => ((aL A s i 16 (R k.toNatClampNeg).2).1, va_up R k.toNatClampNeg (some s, (aL A s i 16 (R k.toNatClampNeg).2).2)) | none => (-11, R)) else (-1, R)
section M46
variable {B : Nat} {D : va_G} {n w : Nat} {f : Nat → Option va_E} {e : Nat} {im : Bool} {R : Nat → aR} {A : AW}
theorem l_X6_lay_25 {d u : Nat} (hd : 4 ≤ d) {k0 i hdv : Int32} {s : Nat} (hs : s ≤ 20) : ∀ (k : Nat) (f : Nat → Option va_E) (pl P : Nat → Int64), k ≤ 16 → f e = some (ecell e im) → IsW f (e + 1 + 1) A → IsR f (e + 335 + 2 * u) hdv (nI s) pl → (∀ j, j < 20 → pl j = P j) → ∃ (g : Nat → Option va_E) (pl' : Nat → Int64), EX B D d mX6_lay 25 [some (.ref e), some (.int k0), some (.int i), some (.ref (e + 335 + 2 * u)), some (.int (nI (16 - k)))] [] (n, w, f) (some (.int (aL A s i k P).1)) (n, w, g) ∧ IsR g (e + 335 + 2 * u) hdv (nI s) pl' ∧ (∀ j, j < 20 → pl' j = (aL A s i k P).2 j) ∧ (∀ N, Ag f g (e + 335 + 2 * u) (e + 335 + 2 * u + 2) N) ∧ keeps f g ∧ (wfH f n → wfH g n) := by
  intro k
  induction k with
  | zero =>
    intro f pl P _ he hW hR hpl
    refine ⟨f, pl, ?_, hR, hpl, fun N => Ag.rf _ _ _ _, keeps_rf _, id⟩
    refine px_iload dX6_lay_25 rfl ?_
    refine px_bipush (v := 16) dX6_lay_27 (by decide) ?_
    refine px_icmp_ge (tgt := 65) dX6_lay_29 (by decide) (fun hc29 => ?_) (fun hc29 => ?_)
    · refine px_bipush (v := 16) dX6_lay_65 (by decide) ?_
      exact px_reti dX6_lay_67 (by rfl) (by rfl)
    · exact absurd (show (16 : Int32) ≤ nI (16 - 0) by decide) hc29
  | succ k ih =>
    intro f pl P hk he hW hR hpl
    obtain ⟨t, ht, hkt⟩ : ∃ t, t < 16 ∧ 15 - k = t := ⟨15 - k, by omega, rfl⟩
    have e1 : 16 - (k + 1) = t := by omega
    have hinc : nI t + Int32.ofInt 1 = nI (16 - k) := by rw [nI_inc]; congr 1; omega
    have h16 : ¬ (16 : Int32) ≤ nI t := nI_ge (b := 16) (by omega) (by omega)
    have h8t : (8 : Int32) + nI t = nI (8 + t) := nI_add 8 t
    have hT := c_X5_toldResult (B := B) (D := D) (n := n) (w := w) hW (k := 8 + t) (by omega)
    rw [e1]
    by_cases hh : r_has (nI s) (i + nI t) = true
    · have ez : aL A s i (k + 1) P = aL A s i k (va_up P (i + nI t).toNatClampNeg (toldO (aHas A (8 + t))).toInt64) := by rw [aL, hkt, if_pos hh]
      rw [ez]
      have hC := c_X2_write_t (B := B) (D := D) (n := n) (w := w) hR (by rw [nI_toInt (by omega)]; omega) (i + nI t) (toldO (aHas A (8 + t))).toInt64 hh
      obtain ⟨g1, hg1⟩ : ∃ g1, g1 = va_up f (e + 335 + 2 * u + 1) (some (.inl (1, 20, .inr (.inl (va_up pl (i + nI t).toNatClampNeg (toldO (aHas A (8 + t))).toInt64))))) := ⟨_, rfl⟩
      rw [← hg1] at hC
      have hA : ∀ N, Ag f g1 (e + 335 + 2 * u) (e + 335 + 2 * u + 2) N := fun N => by rw [hg1]; exact (Ag.rf _ _ _ _).up (by omega) (by omega)
      have hK : keeps f g1 := by rw [hg1]; exact keeps_at hR.2 (fun fs z => by cases z)
      have hR1 : IsR g1 (e + 335 + 2 * u) hdv (nI s) (va_up pl (i + nI t).toNatClampNeg (toldO (aHas A (8 + t))).toInt64) := ⟨by rw [hg1, va_up_ne _ _ (by omega)]; exact hR.1, by rw [hg1]; exact va_up_self _ _ _⟩
      have he1 : g1 e = some (ecell e im) := by rw [hA (e + 1) e (by omega) (by omega)]; exact he
      obtain ⟨g, pl', hX, q1, q2, q3, q4, q5⟩ := ih g1 _ (va_up P (i + nI t).toNatClampNeg (toldO (aHas A (8 + t))).toInt64) (by omega) he1 (hW.ag (hA (e + 1 + 1 + 85)) (Nat.le_refl _) (by omega) hK) hR1 (fun j hj => by
        by_cases hji : j = (i + nI t).toNatClampNeg
        · subst hji; rw [va_up_self, va_up_self]
        · rw [va_up_ne _ _ hji, va_up_ne _ _ hji]; exact hpl j hj)
      refine ⟨g, pl', ?_, q1, q2, fun N => (hA N).tra (q3 N) (Nat.le_refl _), keeps_tr hK q4, fun h => q5 (by rw [hg1]; exact h.up (h.lt hR.2))⟩
      refine px_iload dX6_lay_25 rfl ?_
      refine px_bipush (v := 16) dX6_lay_27 (by decide) ?_
      refine px_icmp_ge (tgt := 65) dX6_lay_29 (by decide) (fun hc29 => ?_) (fun hc29 => ?_)
      · exact absurd hc29 h16
      · refine px_aload_n dX6_lay_32 rfl ?_
        refine px_iload_n dX6_lay_33 rfl ?_
        refine px_iload dX6_lay_34 rfl ?_
        refine px_iadd dX6_lay_36 ?_
        refine px_aload_n dX6_lay_37 rfl ?_
        refine px_getfield fl_X6_25 dX6_lay_38 (by first | exact he | exact hR.1 | exact hW.1) (by rfl) ?_
        refine px_bipush (v := 8) dX6_lay_41 (by decide) ?_
        refine px_iload dX6_lay_43 rfl ?_
        refine px_iadd dX6_lay_45 ?_
        rw [h8t]
        refine px_callV1 (ν := mX5_toldResult) (ci := 5) rfl rfl lk_X6_133 in_X5_toldResult se_X5_toldResult mok_X5_toldResult dX6_lay_46 (hT) (by first | exact he | exact hR.1 | exact hW.1) rfl rfl (by omega) (by simp) ?_
        refine px_i2l dX6_lay_49 ?_
        refine px_callV1 (ν := mX2_write) (ci := 2) rfl rfl lk_X6_239 in_X2_write se_X2_write mok_X2_write dX6_lay_50 (hC) (by first | exact he | exact hR.1 | exact hW.1) rfl rfl (by omega) (by simp) ?_
        refine px_ifb_ne (tgt := 59) dX6_lay_53 (by decide) (fun hc53 => ?_) (fun hc53 => ?_)
        · refine px_iinc4 rfl hinc dX6_lay_59 ?_
          refine px_goto (tgt := 25) dX6_lay_62 (by decide) ?_
          exact hX
        · cases hc53
    · have hh' : r_has (nI s) (i + nI t) = false := by simpa using hh
      have ez : aL A s i (k + 1) P = (-13, P) := by rw [aL, hkt, if_neg hh]
      rw [ez]
      have hC := c_X2_write_f (B := B) (D := D) (n := n) (w := w) hR (i + nI t) (toldO (aHas A (8 + t))).toInt64 hh'
      refine ⟨f, pl, ?_, hR, hpl, fun N => Ag.rf _ _ _ _, keeps_rf _, id⟩
      refine px_iload dX6_lay_25 rfl ?_
      refine px_bipush (v := 16) dX6_lay_27 (by decide) ?_
      refine px_icmp_ge (tgt := 65) dX6_lay_29 (by decide) (fun hc29 => ?_) (fun hc29 => ?_)
      · exact absurd hc29 h16
      · refine px_aload_n dX6_lay_32 rfl ?_
        refine px_iload_n dX6_lay_33 rfl ?_
        refine px_iload dX6_lay_34 rfl ?_
        refine px_iadd dX6_lay_36 ?_
        refine px_aload_n dX6_lay_37 rfl ?_
        refine px_getfield fl_X6_25 dX6_lay_38 (by first | exact he | exact hR.1 | exact hW.1) (by rfl) ?_
        refine px_bipush (v := 8) dX6_lay_41 (by decide) ?_
        refine px_iload dX6_lay_43 rfl ?_
        refine px_iadd dX6_lay_45 ?_
        rw [h8t]
        refine px_callV1 (ν := mX5_toldResult) (ci := 5) rfl rfl lk_X6_133 in_X5_toldResult se_X5_toldResult mok_X5_toldResult dX6_lay_46 (hT) (by first | exact he | exact hR.1 | exact hW.1) rfl rfl (by omega) (by simp) ?_
        refine px_i2l dX6_lay_49 ?_
        refine px_callV1 (ν := mX2_write) (ci := 2) rfl rfl lk_X6_239 in_X2_write se_X2_write mok_X2_write dX6_lay_50 (hC) (by first | exact he | exact hR.1 | exact hW.1) rfl rfl (by omega) (by simp) ?_
        refine px_ifb_ne (tgt := 59) dX6_lay_53 (by decide) (fun hc53 => ?_) (fun hc53 => ?_)
        · cases hc53
        · refine px_bipush (v := (-13)) dX6_lay_56 (by decide) ?_
          exact px_reti dX6_lay_58 (by rfl) (by rfl)
theorem c_X6_lay (he : f e = some (ecell e im)) (hW : IsW f (e + 1 + 1) A) (hR : IsRw f e R) (k i : Int32) : ∃ g : Nat → Option va_E, CT B D 4 mX6_lay [.ref e, .int k, .int i] (n, w, f) (some (.int (v_lay A R k i).1)) (n, w, g) ∧ IsRw g e (v_lay A R k i).2 ∧ Ch f g n n w w (e + 335) (e + 343) := by
  by_cases hk : s_isRow k = true
  · obtain ⟨u, hu, rfl⟩ := inR.mp hk
    obtain ⟨rw0, i1, i2⟩ := id hR
    obtain ⟨i3, pl, i4, i5, i6⟩ := i2 u hu
    cases hs : (R u).1 with
    | none =>
      have h0 : v_lay A R (nI u) i = (-11, R) := by unfold v_lay; rw [if_pos hk, nI_clamp (show u < 2 ^ 31 by omega), hs]
      rw [h0]
      rw [hs] at i4
      refine ⟨f, ?_, hR, Ch.rf _ _ _ _ _⟩
      refine CT.of [some (.ref e), some (.int (nI u)), some (.int i), none, none] rfl (Nat.le_of_ble_eq_true rfl) pl_X6 trivial ?_
      refine px_aload_n dX6_lay_0 rfl ?_
      refine px_iload_n dX6_lay_1 rfl ?_
      refine px_callV1 (ν := mX6_rowOf) (ci := 6) rfl rfl lk_X6_228 in_X6_rowOf se_X6_rowOf mok_X6_rowOf dX6_lay_2 (c_X6_rowOf he hR hu) (by first | exact he | exact i4.1) rfl rfl (by omega) (by simp) ?_
      refine px_astore3 rfl dX6_lay_5 ?_
      refine px_aload_n dX6_lay_6 rfl ?_
      refine px_ifnonnull_t (tgt := 12) dX6_lay_7 (by decide) ?_
      refine px_aload_n dX6_lay_12 rfl ?_
      refine px_getfield fl_X6_235 dX6_lay_13 (by first | exact he | exact i4.1) (by rfl) ?_
      refine px_ifb_ne (tgt := 22) dX6_lay_16 (by decide) (fun hc16 => ?_) (fun hc16 => ?_)
      · cases hc16
      · refine px_bipush (v := (-11)) dX6_lay_19 (by decide) ?_
        exact px_reti dX6_lay_21 (by rfl) (by rfl)
    | some s =>
      have h0 : v_lay A R (nI u) i = ((aL A s i 16 (R u).2).1, va_up R u (some s, (aL A s i 16 (R u).2).2)) := by unfold v_lay; rw [if_pos hk, nI_clamp (show u < 2 ^ 31 by omega), hs]
      rw [h0]
      rw [hs] at i4 i6
      obtain ⟨g, pl', hX, q1, q2, q3, q4, q5⟩ := l_X6_lay_25 (B := B) (D := D) (n := n) (w := w) (d := 4) (u := u) (k0 := nI u) (i := i) (Nat.le_refl _) i6 16 f pl (R u).2 (Nat.le_refl _) he hW i4 i5
      refine ⟨g, ?_, hR.put hu q3 q1 q2 i6, (q3 n).wide (by omega) (by omega), q4, q5, Nat.le_refl _, by omega, rfl⟩
      refine CT.of [some (.ref e), some (.int (nI u)), some (.int i), none, none] rfl (Nat.le_of_ble_eq_true rfl) pl_X6 trivial ?_
      refine px_aload_n dX6_lay_0 rfl ?_
      refine px_iload_n dX6_lay_1 rfl ?_
      refine px_callV1 (ν := mX6_rowOf) (ci := 6) rfl rfl lk_X6_228 in_X6_rowOf se_X6_rowOf mok_X6_rowOf dX6_lay_2 (c_X6_rowOf he hR hu) (by first | exact he | exact i4.1) rfl rfl (by omega) (by simp) ?_
      refine px_astore3 rfl dX6_lay_5 ?_
      refine px_aload_n dX6_lay_6 rfl ?_
      refine px_ifnonnull_t (tgt := 12) dX6_lay_7 (by decide) ?_
      refine px_aload_n dX6_lay_12 rfl ?_
      refine px_getfield fl_X6_235 dX6_lay_13 (by first | exact he | exact i4.1) (by rfl) ?_
      refine px_ifb_ne (tgt := 22) dX6_lay_16 (by decide) (fun hc16 => ?_) (fun hc16 => ?_)
      · refine px_iconst (v := 0) dX6_lay_22 (by decide) ?_
        refine px_istore4 rfl dX6_lay_23 ?_
        exact hX
      · cases hc16
  · have hk' : s_isRow k = false := by simpa using hk
    have h0 : v_lay A R k i = (-1, R) := by unfold v_lay; rw [if_neg hk]
    rw [h0]
    refine ⟨f, ?_, hR, Ch.rf _ _ _ _ _⟩
    refine CT.of [some (.ref e), some (.int k), some (.int i), none, none] rfl (Nat.le_of_ble_eq_true rfl) pl_X6 trivial ?_
    refine px_aload_n dX6_lay_0 rfl ?_
    refine px_iload_n dX6_lay_1 rfl ?_
    refine px_callV1 (ν := mX6_rowOf) (ci := 6) rfl rfl lk_X6_228 in_X6_rowOf se_X6_rowOf mok_X6_rowOf dX6_lay_2 (c_X6_rowOf_n hk') (by exact he) rfl rfl (by omega) (by simp) ?_
    refine px_astoreN3 rfl dX6_lay_5 ?_
    refine px_aload_nN dX6_lay_6 rfl ?_
    refine px_ifnonnull_f dX6_lay_7 ?_
    refine px_iconst (v := (-1)) dX6_lay_10 (by decide) ?_
    exact px_reti dX6_lay_11 (by rfl) (by rfl)
end M46
