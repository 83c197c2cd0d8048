/-! put, copy -/
def v_put (R : Nat → aR) (k i : Int32) (v : Int64) : Int32 × (Nat → aR) := if s_isRow k = true then (if (R k.toNatClampNeg).1.isSome = true then (if r_has (nI ((R k.toNatClampNeg).1.getD 0)) i = true then (1, va_up R k.toNatClampNeg ((R k.toNatClampNeg).1, va_up (R k.toNatClampNeg).2 i.toNatClampNeg v)) else (-13, R)) else (-11, R)) else (-1, R)
section M41
variable {B : Nat} {D : va_G} {n w : Nat} {f : Nat → Option va_E} {e : Nat} {im : Bool} {R : Nat → aR} {A : AW}
theorem c_X6_put (he : f e = some (ecell e im)) (hR : IsRw f e R) (k i : Int32) (v : Int64) : ∃ g : Nat → Option va_E, CT B D 2 mX6_put [.ref e, .int k, .int i, .long v] (n, w, f) (some (.int (v_put R k i v).1)) (n, w, g) ∧ IsRw g e (v_put R k i v).2 ∧ Ch f g n n w w (e + 335) (e + 343) := by
  by_cases hk : s_isRow k = true
  · obtain ⟨t, ht, rfl⟩ := inR.mp hk
    obtain ⟨rw0, i1, i2⟩ := id hR
    obtain ⟨i3, pl, i4, i5, i6⟩ := i2 t ht
    by_cases hs : (R t).1.isSome = true
    · by_cases hh : r_has (nI ((R t).1.getD 0)) i = true
      · have h0 : v_put R (nI t) i v = (1, va_up R t ((R t).1, va_up (R t).2 i.toNatClampNeg v)) := by unfold v_put; rw [nI_clamp (show t < 2 ^ 31 by omega), if_pos hk, if_pos hs, if_pos hh]
        rw [h0]
        have hC := c_X2_write_t (B := B) (D := D) (n := n) (w := w) i4 (by rw [nI_toInt (by omega)]; omega) i v hh
        have hA : ∀ N, Ag f (va_up f (e + 335 + 2 * t + 1) (some (.inl (1, 20, .inr (.inl (va_up pl i.toNatClampNeg v)))))) (e + 335 + 2 * t) (e + 335 + 2 * t + 2) N := fun N => (Ag.rf _ _ _ _).up (by omega) (by omega)
        have hK : keeps f (va_up f (e + 335 + 2 * t + 1) (some (.inl (1, 20, .inr (.inl (va_up pl i.toNatClampNeg v)))))) := keeps_at i4.2 (fun fs e => by cases e)
        refine ⟨_, ?_, hR.put ht hA (x := ((R t).1, va_up (R t).2 i.toNatClampNeg v)) (pl := va_up pl i.toNatClampNeg v) ⟨by rw [va_up_ne _ _ (by omega)]; exact i4.1, va_up_self _ _ _⟩ (fun j hj => ?_) i6, (hA n).wide (by omega) (by omega), hK, fun h => h.up (h.lt i4.2), Nat.le_refl _, by omega, rfl⟩
        rotate_left
        · show va_up pl i.toNatClampNeg v j = va_up (R t).2 i.toNatClampNeg v j
          by_cases hji : j = i.toNatClampNeg
          · subst hji; rw [va_up_self, va_up_self]
          · rw [va_up_ne _ _ hji, va_up_ne _ _ hji]; exact i5 j hj
        refine CT.of [some (.ref e), some (.int (nI t)), some (.int i), some (.long v), none, none] rfl (Nat.le_of_ble_eq_true rfl) pl_X6 trivial ?_
        refine px_aload_n dX6_put_0 rfl ?_
        refine px_iload_n dX6_put_1 rfl ?_
        refine px_callV1 (ν := mX6_rowOf) (ci := 6) rfl rfl lk_X6_228 in_X6_rowOf se_X6_rowOf mok_X6_rowOf dX6_put_2 (c_X6_rowOf he hR ht) (by first | exact he | exact i4.1) rfl rfl (by omega) (by simp) ?_
        refine px_astore5 rfl dX6_put_5 ?_
        refine px_aload dX6_put_7 rfl ?_
        refine px_ifnonnull_t (tgt := 14) dX6_put_9 (by decide) ?_
        refine px_aload dX6_put_14 rfl ?_
        refine px_getfield fl_X6_235 dX6_put_16 (by first | exact he | exact i4.1) (by rfl) ?_
        refine px_ifb_ne (tgt := 25) dX6_put_19 (by decide) (fun hc19 => ?_) (fun hc19 => ?_)
        · refine px_aload dX6_put_25 rfl ?_
          refine px_iload_n dX6_put_27 rfl ?_
          refine px_lload_n dX6_put_28 rfl ?_
          refine px_callV1 (ν := mX2_write) (ci := 2) rfl rfl lk_X6_239 in_X2_write se_X2_write mok_X2_write dX6_put_29 (hC) (by first | exact he | exact i4.1) rfl rfl (by omega) (by simp) ?_
          refine px_ifb_eq (tgt := 39) dX6_put_32 (by decide) (fun hc32 => ?_) (fun hc32 => ?_)
          · cases hc32
          · refine px_iconst (v := 1) dX6_put_35 (by decide) ?_
            refine px_goto (tgt := 41) dX6_put_36 (by decide) ?_
            exact px_reti dX6_put_41 (by rfl) (by rfl)
        · rw [hs] at hc19; cases hc19
      · have hh' : r_has (nI ((R t).1.getD 0)) i = false := by simpa using hh
        have h0 : v_put R (nI t) i v = (-13, R) := by unfold v_put; rw [nI_clamp (show t < 2 ^ 31 by omega), if_pos hk, if_pos hs, if_neg hh]
        rw [h0]
        have hC := c_X2_write_f (B := B) (D := D) (n := n) (w := w) i4 i v hh'
        refine ⟨f, ?_, hR, Ch.rf _ _ _ _ _⟩
        refine CT.of [some (.ref e), some (.int (nI t)), some (.int i), some (.long v), none, none] rfl (Nat.le_of_ble_eq_true rfl) pl_X6 trivial ?_
        refine px_aload_n dX6_put_0 rfl ?_
        refine px_iload_n dX6_put_1 rfl ?_
        refine px_callV1 (ν := mX6_rowOf) (ci := 6) rfl rfl lk_X6_228 in_X6_rowOf se_X6_rowOf mok_X6_rowOf dX6_put_2 (c_X6_rowOf he hR ht) (by first | exact he | exact i4.1) rfl rfl (by omega) (by simp) ?_
        refine px_astore5 rfl dX6_put_5 ?_
        refine px_aload dX6_put_7 rfl ?_
        refine px_ifnonnull_t (tgt := 14) dX6_put_9 (by decide) ?_
        refine px_aload dX6_put_14 rfl ?_
        refine px_getfield fl_X6_235 dX6_put_16 (by first | exact he | exact i4.1) (by rfl) ?_
        refine px_ifb_ne (tgt := 25) dX6_put_19 (by decide) (fun hc19 => ?_) (fun hc19 => ?_)
        · refine px_aload dX6_put_25 rfl ?_
          refine px_iload_n dX6_put_27 rfl ?_
          refine px_lload_n dX6_put_28 rfl ?_
          refine px_callV1 (ν := mX2_write) (ci := 2) rfl rfl lk_X6_239 in_X2_write se_X2_write mok_X2_write dX6_put_29 (hC) (by first | exact he | exact i4.1) rfl rfl (by omega) (by simp) ?_
          refine px_ifb_eq (tgt := 39) dX6_put_32 (by decide) (fun hc32 => ?_) (fun hc32 => ?_)
          · refine px_bipush (v := (-13)) dX6_put_39 (by decide) ?_
            exact px_reti dX6_put_41 (by rfl) (by rfl)
          · cases hc32
        · rw [hs] at hc19; cases hc19
    · have h0 : v_put R (nI t) i v = (-11, R) := by unfold v_put; rw [nI_clamp (show t < 2 ^ 31 by omega), if_pos hk, if_neg hs]
      rw [h0]
      refine ⟨f, ?_, hR, Ch.rf _ _ _ _ _⟩
      refine CT.of [some (.ref e), some (.int (nI t)), some (.int i), some (.long v), none, none] rfl (Nat.le_of_ble_eq_true rfl) pl_X6 trivial ?_
      refine px_aload_n dX6_put_0 rfl ?_
      refine px_iload_n dX6_put_1 rfl ?_
      refine px_callV1 (ν := mX6_rowOf) (ci := 6) rfl rfl lk_X6_228 in_X6_rowOf se_X6_rowOf mok_X6_rowOf dX6_put_2 (c_X6_rowOf he hR ht) (by first | exact he | exact i4.1) rfl rfl (by omega) (by simp) ?_
      refine px_astore5 rfl dX6_put_5 ?_
      refine px_aload dX6_put_7 rfl ?_
      refine px_ifnonnull_t (tgt := 14) dX6_put_9 (by decide) ?_
      refine px_aload dX6_put_14 rfl ?_
      refine px_getfield fl_X6_235 dX6_put_16 (by first | exact he | exact i4.1) (by rfl) ?_
      refine px_ifb_ne (tgt := 25) dX6_put_19 (by decide) (fun hc19 => ?_) (fun hc19 => ?_)
      · exact absurd hc19 hs
      · refine px_bipush (v := (-11)) dX6_put_22 (by decide) ?_
        exact px_reti dX6_put_24 (by rfl) (by rfl)
  · have hk' : s_isRow k = false := by simpa using hk
    have h0 : v_put R k i v = (-1, R) := by unfold v_put; rw [if_neg hk]
    rw [h0]
    refine ⟨f, ?_, hR, Ch.rf _ _ _ _ _⟩
    refine CT.of [some (.ref e), some (.int k), some (.int i), some (.long v), none, none] rfl (Nat.le_of_ble_eq_true rfl) pl_X6 trivial ?_
    refine px_aload_n dX6_put_0 rfl ?_
    refine px_iload_n dX6_put_1 rfl ?_
    refine px_callV1 (ν := mX6_rowOf) (ci := 6) rfl rfl lk_X6_228 in_X6_rowOf se_X6_rowOf mok_X6_rowOf dX6_put_2 (c_X6_rowOf_n hk') (by first | exact he | exact i4.1) rfl rfl (by omega) (by simp) ?_
    refine px_astoreN5 rfl dX6_put_5 ?_
    refine px_aloadN dX6_put_7 rfl ?_
    refine px_ifnonnull_f dX6_put_9 ?_
    refine px_iconst (v := (-1)) dX6_put_12 (by decide) ?_
    exact px_reti dX6_put_13 (by rfl) (by rfl)
end M41
