/-! move -/
theorem r_span_iff {s x y : Nat} (hs : s ≤ 20) (hx : x < 2 ^ 31) (hy : y < 2 ^ 31) : r_span (nI s) (nI x) (nI y) = true ↔ x + y ≤ s := by
  have e : (nI s - nI y).toInt = (s : Int) - (y : Int) := by
    rw [Int32.toInt_sub, nI_toInt (by omega), nI_toInt hy]
    exact Int.bmod_eq_of_le_mul_two (by omega) (by omega)
  simp only [r_span, Bool.and_eq_true, Bool.not_eq_true', decide_eq_false_iff_not]
  constructor
  · rintro ⟨-, h⟩
    rw [Int32.lt_iff_toInt_lt, e, nI_toInt hx] at h
    omega
  · intro h
    refine ⟨⟨nI_pos hx, nI_pos hy⟩, ?_⟩
    rw [Int32.lt_iff_toInt_lt, e, nI_toInt hx]
    omega
theorem r_span_of {z i k : Int32} (h : r_span z i k = true) : ∃ x y : Nat, x < 2 ^ 31 ∧ y < 2 ^ 31 ∧ i = nI x ∧ k = nI y := by
  simp only [r_span, Bool.and_eq_true, Bool.not_eq_true', decide_eq_false_iff_not] at h
  obtain ⟨x, hx, rfl⟩ := nI_of h.1.1
  obtain ⟨y, hy, rfl⟩ := nI_of h.1.2
  exact ⟨x, y, hx, hy, rfl, rfl⟩
def v_move (R : Nat → aR) (k i u j m : Int32) : Int32 × (Nat → aR) := if s_isRow k = true ∧ s_isRow u = true then (if (R k.toNatClampNeg).1.isSome = true ∧ (R u.toNatClampNeg).1.isSome = true then (if r_span (nI ((R k.toNatClampNeg).1.getD 0)) i m = true ∧ r_span (nI ((R u.toNatClampNeg).1.getD 0)) j m = true then (m, va_up R u.toNatClampNeg ((R u.toNatClampNeg).1, va_cpy (R k.toNatClampNeg).2 (R u.toNatClampNeg).2 i.toNatClampNeg j.toNatClampNeg m.toNatClampNeg)) else (-13, R)) else (-11, R)) else (-1, R)
section M47
variable {B : Nat} {D : va_G} {n w : Nat} {f : Nat → Option va_E} {e : Nat} {im : Bool} {R : Nat → aR}
theorem l_X6_move_ok (he : f e = some (ecell e im)) (hR : IsRw f e R) {t s x y z p q : Nat} (ht : t < 4) (hs : s < 4) {pl pl2 : Nat → Int64} (i4 : IsR f (e + 335 + 2 * t) (bi true) (nI p) pl) (j4 : IsR f (e + 335 + 2 * s) (bi true) (nI q) pl2) (hp : p ≤ 20) (hq : q ≤ 20) (hx : x < 2 ^ 31) (hy : y < 2 ^ 31) (hz : z < 2 ^ 31) (h1 : x + z ≤ p) (h2 : y + z ≤ q) : CT B D 3 mX6_move [.ref e, .int (nI t), .int (nI x), .int (nI s), .int (nI y), .int (nI z)] (n, w, f) (some (.int (nI z))) (n, w, va_up f (e + 335 + 2 * s + 1) (some (.inl (1, 20, .inr (.inl (va_cpy pl pl2 (nI x).toNatClampNeg (nI y).toNatClampNeg (nI z).toNatClampNeg)))))) := by
  have s1 := (r_span_iff hp hx hz).mpr h1
  have s2 := (r_span_iff hq hy hz).mpr h2
  refine CT.of [some (.ref e), some (.int (nI t)), some (.int (nI x)), some (.int (nI s)), some (.int (nI y)), some (.int (nI z)), none, none] rfl (Nat.le_of_ble_eq_true rfl) pl_X6 trivial ?_
  refine px_aload_n dX6_move_0 rfl ?_
  refine px_iload_n dX6_move_1 rfl ?_
  refine px_callV1 (ν := mX6_rowOf) (ci := 6) rfl rfl lk_X6_228 in_X6_rowOf se_X6_rowOf mok_X6_rowOf dX6_move_2 (c_X6_rowOf he hR ht) (by first | exact he | exact i4.1 | exact j4.1 | exact i4.2 | exact j4.2) rfl rfl (by omega) (by simp) ?_
  refine px_astore6 rfl dX6_move_5 ?_
  refine px_aload_n dX6_move_7 rfl ?_
  refine px_iload_n dX6_move_8 rfl ?_
  refine px_callV1 (ν := mX6_rowOf) (ci := 6) rfl rfl lk_X6_228 in_X6_rowOf se_X6_rowOf mok_X6_rowOf dX6_move_9 (c_X6_rowOf he hR hs) (by first | exact he | exact i4.1 | exact j4.1 | exact i4.2 | exact j4.2) rfl rfl (by omega) (by simp) ?_
  refine px_astore7 rfl dX6_move_12 ?_
  refine px_aload dX6_move_14 rfl ?_
  refine px_ifnull_f dX6_move_16 ?_
  refine px_aload dX6_move_19 rfl ?_
  refine px_ifnonnull_t (tgt := 26) dX6_move_21 (by decide) ?_
  refine px_aload dX6_move_26 rfl ?_
  refine px_getfield fl_X6_235 dX6_move_28 (by first | exact he | exact i4.1 | exact j4.1 | exact i4.2 | exact j4.2) (by rfl) ?_
  refine px_ifb_eq (tgt := 42) dX6_move_31 (by decide) (fun hc31 => ?_) (fun hc31 => ?_)
  · cases hc31
  · refine px_aload dX6_move_34 rfl ?_
    refine px_getfield fl_X6_235 dX6_move_36 (by first | exact he | exact i4.1 | exact j4.1 | exact i4.2 | exact j4.2) (by rfl) ?_
    refine px_ifb_ne (tgt := 45) dX6_move_39 (by decide) (fun hc39 => ?_) (fun hc39 => ?_)
    · refine px_aload dX6_move_45 rfl ?_
      refine px_iload_n dX6_move_47 rfl ?_
      refine px_iload dX6_move_48 rfl ?_
      refine px_callV1 (ν := mX2_hasSpan) (ci := 2) rfl rfl lk_X6_249 in_X2_hasSpan se_X2_hasSpan mok_X2_hasSpan dX6_move_50 (c_X2_hasSpan i4 _ _) (by first | exact he | exact i4.1 | exact j4.1 | exact i4.2 | exact j4.2) rfl rfl (by omega) (by simp) ?_
      refine px_ifb_eq (tgt := 68) dX6_move_53 (by decide) (fun hc53 => ?_) (fun hc53 => ?_)
      · rw [s1] at hc53; cases hc53
      · refine px_aload dX6_move_56 rfl ?_
        refine px_iload dX6_move_58 rfl ?_
        refine px_iload dX6_move_60 rfl ?_
        refine px_callV1 (ν := mX2_hasSpan) (ci := 2) rfl rfl lk_X6_249 in_X2_hasSpan se_X2_hasSpan mok_X2_hasSpan dX6_move_62 (c_X2_hasSpan j4 _ _) (by first | exact he | exact i4.1 | exact j4.1 | exact i4.2 | exact j4.2) rfl rfl (by omega) (by simp) ?_
        refine px_ifb_ne (tgt := 71) dX6_move_65 (by decide) (fun hc65 => ?_) (fun hc65 => ?_)
        · refine px_aload dX6_move_71 rfl ?_
          refine px_getfield fl_X6_252 dX6_move_73 (by first | exact he | exact i4.1 | exact j4.1 | exact i4.2 | exact j4.2) (by rfl) ?_
          refine px_iload_n dX6_move_76 rfl ?_
          refine px_aload dX6_move_77 rfl ?_
          refine px_getfield fl_X6_252 dX6_move_79 (by first | exact he | exact i4.1 | exact j4.1 | exact i4.2 | exact j4.2) (by rfl) ?_
          refine px_iload dX6_move_82 rfl ?_
          refine px_iload dX6_move_84 rfl ?_
          refine px_copyl lk_X6_256 dX6_move_86 (by first | exact he | exact i4.1 | exact j4.1 | exact i4.2 | exact j4.2) (by first | exact he | exact i4.1 | exact j4.1 | exact i4.2 | exact j4.2) (nI_pos hx) (nI_pos hy) (nI_pos hz) (by rw [nI_clamp hx, nI_clamp hz]; omega) (by rw [nI_clamp hy, nI_clamp hz]; omega) (by omega) (by simp) ?_
          refine px_iload dX6_move_89 rfl ?_
          exact px_reti dX6_move_91 (by rfl) (by rfl)
        · rw [s2] at hc65; cases hc65
    · cases hc39
theorem c_X6_move (he : f e = some (ecell e im)) (hR : IsRw f e R) (k i u j m : Int32) : ∃ g : Nat → Option va_E, CT B D 3 mX6_move [.ref e, .int k, .int i, .int u, .int j, .int m] (n, w, f) (some (.int (v_move R k i u j m).1)) (n, w, g) ∧ IsRw g e (v_move R k i u j m).2 ∧ Ch f g n n w w (e + 335) (e + 343) := by
  by_cases hk : s_isRow k = true ∧ s_isRow u = true
  · obtain ⟨hk1, hk2⟩ := id hk
    obtain ⟨t, ht, rfl⟩ := inR.mp hk1
    obtain ⟨s, hs, rfl⟩ := inR.mp hk2
    obtain ⟨rw0, i1, i2⟩ := id hR
    obtain ⟨i3, pl, i4, i5, i6⟩ := i2 t ht
    obtain ⟨j3, pl2, j4, j5, j6⟩ := i2 s hs
    have ct := nI_clamp (show t < 2 ^ 31 by omega)
    have cs := nI_clamp (show s < 2 ^ 31 by omega)
    by_cases hh : (R t).1.isSome = true ∧ (R s).1.isSome = true
    · by_cases hsp : r_span (nI ((R t).1.getD 0)) i m = true ∧ r_span (nI ((R s).1.getD 0)) j m = true
      · obtain ⟨hsp1, hsp2⟩ := id hsp
        obtain ⟨x, z, hx, hz, rfl, rfl⟩ := r_span_of hsp1
        obtain ⟨y, z2, hy, hz2, rfl, -⟩ := r_span_of hsp2
        have q1 := (r_span_iff i6 hx hz).mp hsp1
        have q2 := (r_span_iff j6 hy hz).mp hsp2
        have h0 : v_move R (nI t) (nI x) (nI s) (nI y) (nI z) = (nI z, va_up R s ((R s).1, va_cpy (R t).2 (R s).2 (nI x).toNatClampNeg (nI y).toNatClampNeg (nI z).toNatClampNeg)) := by unfold v_move; rw [if_pos hk, ct, cs, if_pos hh, if_pos hsp]
        rw [h0]
        rw [hh.1] at i4
        have j4' := j4
        rw [hh.2] at j4'
        have hC := l_X6_move_ok (B := B) (D := D) (n := n) (w := w) he hR ht hs i4 j4' i6 j6 hx hy hz q1 q2
        have hA : ∀ N, Ag f (va_up f (e + 335 + 2 * s + 1) (some (.inl (1, 20, .inr (.inl (va_cpy pl pl2 (nI x).toNatClampNeg (nI y).toNatClampNeg (nI z).toNatClampNeg)))))) (e + 335 + 2 * s) (e + 335 + 2 * s + 2) N := fun N => (Ag.rf _ _ _ _).up (by omega) (by omega)
        have hK : keeps f (va_up f (e + 335 + 2 * s + 1) (some (.inl (1, 20, .inr (.inl (va_cpy pl pl2 (nI x).toNatClampNeg (nI y).toNatClampNeg (nI z).toNatClampNeg)))))) := keeps_at j4.2 (fun fs z => by cases z)
        refine ⟨_, hC, hR.put hs hA (x := ((R s).1, va_cpy (R t).2 (R s).2 (nI x).toNatClampNeg (nI y).toNatClampNeg (nI z).toNatClampNeg)) (pl := va_cpy pl pl2 (nI x).toNatClampNeg (nI y).toNatClampNeg (nI z).toNatClampNeg) ⟨by rw [va_up_ne _ _ (by omega)]; exact j4.1, va_up_self _ _ _⟩ (fun b hb => ?_) j6, (hA n).wide (by omega) (by omega), hK, fun h => h.up (h.lt j4.2), Nat.le_refl _, by omega, rfl⟩
        show va_cpy pl pl2 (nI x).toNatClampNeg (nI y).toNatClampNeg (nI z).toNatClampNeg b = va_cpy (R t).2 (R s).2 (nI x).toNatClampNeg (nI y).toNatClampNeg (nI z).toNatClampNeg b
        rw [nI_clamp hx, nI_clamp hy, nI_clamp hz]
        unfold va_cpy
        split
        · exact i5 _ (by omega)
        · exact j5 _ hb
      · have h0 : v_move R (nI t) i (nI s) j m = (-13, R) := by unfold v_move; rw [if_pos hk, ct, cs, if_pos hh, if_neg hsp]
        rw [h0]
        rw [hh.1] at i4
        rw [hh.2] at j4
        refine ⟨f, ?_, hR, Ch.rf _ _ _ _ _⟩
        refine CT.of [some (.ref e), some (.int (nI t)), some (.int i), some (.int (nI s)), some (.int j), some (.int m), none, none] rfl (Nat.le_of_ble_eq_true rfl) pl_X6 trivial ?_
        refine px_aload_n dX6_move_0 rfl ?_
        refine px_iload_n dX6_move_1 rfl ?_
        refine px_callV1 (ν := mX6_rowOf) (ci := 6) rfl rfl lk_X6_228 in_X6_rowOf se_X6_rowOf mok_X6_rowOf dX6_move_2 (c_X6_rowOf he hR ht) (by first | exact he | exact i4.1 | exact j4.1 | exact i4.2 | exact j4.2) rfl rfl (by omega) (by simp) ?_
        refine px_astore6 rfl dX6_move_5 ?_
        refine px_aload_n dX6_move_7 rfl ?_
        refine px_iload_n dX6_move_8 rfl ?_
        refine px_callV1 (ν := mX6_rowOf) (ci := 6) rfl rfl lk_X6_228 in_X6_rowOf se_X6_rowOf mok_X6_rowOf dX6_move_9 (c_X6_rowOf he hR hs) (by first | exact he | exact i4.1 | exact j4.1 | exact i4.2 | exact j4.2) rfl rfl (by omega) (by simp) ?_
        refine px_astore7 rfl dX6_move_12 ?_
        refine px_aload dX6_move_14 rfl ?_
        refine px_ifnull_f dX6_move_16 ?_
        refine px_aload dX6_move_19 rfl ?_
        refine px_ifnonnull_t (tgt := 26) dX6_move_21 (by decide) ?_
        refine px_aload dX6_move_26 rfl ?_
        refine px_getfield fl_X6_235 dX6_move_28 (by first | exact he | exact i4.1 | exact j4.1 | exact i4.2 | exact j4.2) (by rfl) ?_
        refine px_ifb_eq (tgt := 42) dX6_move_31 (by decide) (fun hc31 => ?_) (fun hc31 => ?_)
        · cases hc31
        · refine px_aload dX6_move_34 rfl ?_
          refine px_getfield fl_X6_235 dX6_move_36 (by first | exact he | exact i4.1 | exact j4.1 | exact i4.2 | exact j4.2) (by rfl) ?_
          refine px_ifb_ne (tgt := 45) dX6_move_39 (by decide) (fun hc39 => ?_) (fun hc39 => ?_)
          · refine px_aload dX6_move_45 rfl ?_
            refine px_iload_n dX6_move_47 rfl ?_
            refine px_iload dX6_move_48 rfl ?_
            refine px_callV1 (ν := mX2_hasSpan) (ci := 2) rfl rfl lk_X6_249 in_X2_hasSpan se_X2_hasSpan mok_X2_hasSpan dX6_move_50 (c_X2_hasSpan i4 _ _) (by first | exact he | exact i4.1 | exact j4.1 | exact i4.2 | exact j4.2) rfl rfl (by omega) (by simp) ?_
            refine px_ifb_eq (tgt := 68) dX6_move_53 (by decide) (fun hc53 => ?_) (fun hc53 => ?_)
            · refine px_bipush (v := (-13)) dX6_move_68 (by decide) ?_
              exact px_reti dX6_move_70 (by rfl) (by rfl)
            · refine px_aload dX6_move_56 rfl ?_
              refine px_iload dX6_move_58 rfl ?_
              refine px_iload dX6_move_60 rfl ?_
              refine px_callV1 (ν := mX2_hasSpan) (ci := 2) rfl rfl lk_X6_249 in_X2_hasSpan se_X2_hasSpan mok_X2_hasSpan dX6_move_62 (c_X2_hasSpan j4 _ _) (by first | exact he | exact i4.1 | exact j4.1 | exact i4.2 | exact j4.2) rfl rfl (by omega) (by simp) ?_
              refine px_ifb_ne (tgt := 71) dX6_move_65 (by decide) (fun hc65 => ?_) (fun hc65 => ?_)
              · exact absurd ⟨hc53, hc65⟩ hsp
              · refine px_bipush (v := (-13)) dX6_move_68 (by decide) ?_
                exact px_reti dX6_move_70 (by rfl) (by rfl)
          · cases hc39
    · have h0 : v_move R (nI t) i (nI s) j m = (-11, R) := by unfold v_move; rw [if_pos hk, ct, cs, if_neg hh]
      rw [h0]
      refine ⟨f, ?_, hR, Ch.rf _ _ _ _ _⟩
      refine CT.of [some (.ref e), some (.int (nI t)), some (.int i), some (.int (nI s)), some (.int j), some (.int m), none, none] rfl (Nat.le_of_ble_eq_true rfl) pl_X6 trivial ?_
      refine px_aload_n dX6_move_0 rfl ?_
      refine px_iload_n dX6_move_1 rfl ?_
      refine px_callV1 (ν := mX6_rowOf) (ci := 6) rfl rfl lk_X6_228 in_X6_rowOf se_X6_rowOf mok_X6_rowOf dX6_move_2 (c_X6_rowOf he hR ht) (by first | exact he | exact i4.1 | exact j4.1 | exact i4.2 | exact j4.2) rfl rfl (by omega) (by simp) ?_
      refine px_astore6 rfl dX6_move_5 ?_
      refine px_aload_n dX6_move_7 rfl ?_
      refine px_iload_n dX6_move_8 rfl ?_
      refine px_callV1 (ν := mX6_rowOf) (ci := 6) rfl rfl lk_X6_228 in_X6_rowOf se_X6_rowOf mok_X6_rowOf dX6_move_9 (c_X6_rowOf he hR hs) (by first | exact he | exact i4.1 | exact j4.1 | exact i4.2 | exact j4.2) rfl rfl (by omega) (by simp) ?_
      refine px_astore7 rfl dX6_move_12 ?_
      refine px_aload dX6_move_14 rfl ?_
      refine px_ifnull_f dX6_move_16 ?_
      refine px_aload dX6_move_19 rfl ?_
      refine px_ifnonnull_t (tgt := 26) dX6_move_21 (by decide) ?_
      refine px_aload dX6_move_26 rfl ?_
      refine px_getfield fl_X6_235 dX6_move_28 (by first | exact he | exact i4.1 | exact j4.1 | exact i4.2 | exact j4.2) (by rfl) ?_
      refine px_ifb_eq (tgt := 42) dX6_move_31 (by decide) (fun hc31 => ?_) (fun hc31 => ?_)
      · refine px_bipush (v := (-11)) dX6_move_42 (by decide) ?_
        exact px_reti dX6_move_44 (by rfl) (by rfl)
      · refine px_aload dX6_move_34 rfl ?_
        refine px_getfield fl_X6_235 dX6_move_36 (by first | exact he | exact i4.1 | exact j4.1 | exact i4.2 | exact j4.2) (by rfl) ?_
        refine px_ifb_ne (tgt := 45) dX6_move_39 (by decide) (fun hc39 => ?_) (fun hc39 => ?_)
        · exact absurd ⟨hc31, hc39⟩ hh
        · refine px_bipush (v := (-11)) dX6_move_42 (by decide) ?_
          exact px_reti dX6_move_44 (by rfl) (by rfl)
  · have h0 : v_move R k i u j m = (-1, R) := by unfold v_move; rw [if_neg hk]
    rw [h0]
    refine ⟨f, ?_, hR, Ch.rf _ _ _ _ _⟩
    by_cases hk1 : s_isRow k = true
    · have hk2 : s_isRow u = false := by simpa using fun z => hk ⟨hk1, z⟩
      obtain ⟨t, ht, rfl⟩ := inR.mp hk1
      refine CT.of [some (.ref e), some (.int (nI t)), some (.int i), some (.int u), some (.int j), some (.int m), none, none] rfl (Nat.le_of_ble_eq_true rfl) pl_X6 trivial ?_
      refine px_aload_n dX6_move_0 rfl ?_
      refine px_iload_n dX6_move_1 rfl ?_
      refine px_callV1 (ν := mX6_rowOf) (ci := 6) rfl rfl lk_X6_228 in_X6_rowOf se_X6_rowOf mok_X6_rowOf dX6_move_2 (c_X6_rowOf he hR ht) (by exact he) rfl rfl (by omega) (by simp) ?_
      refine px_astore6 rfl dX6_move_5 ?_
      refine px_aload_n dX6_move_7 rfl ?_
      refine px_iload_n dX6_move_8 rfl ?_
      refine px_callV1 (ν := mX6_rowOf) (ci := 6) rfl rfl lk_X6_228 in_X6_rowOf se_X6_rowOf mok_X6_rowOf dX6_move_9 (c_X6_rowOf_n hk2) (by exact he) rfl rfl (by omega) (by simp) ?_
      refine px_astoreN7 rfl dX6_move_12 ?_
      refine px_aload dX6_move_14 rfl ?_
      refine px_ifnull_f dX6_move_16 ?_
      refine px_aloadN dX6_move_19 rfl ?_
      refine px_ifnonnull_f dX6_move_21 ?_
      refine px_iconst (v := (-1)) dX6_move_24 (by decide) ?_
      exact px_reti dX6_move_25 (by rfl) (by rfl)
    · have hk1' : s_isRow k = false := by simpa using hk1
      by_cases hk2 : s_isRow u = true
      · obtain ⟨s, hs, rfl⟩ := inR.mp hk2
        refine CT.of [some (.ref e), some (.int k), some (.int i), some (.int (nI s)), some (.int j), some (.int m), none, none] rfl (Nat.le_of_ble_eq_true rfl) pl_X6 trivial ?_
        refine px_aload_n dX6_move_0 rfl ?_
        refine px_iload_n dX6_move_1 rfl ?_
        refine px_callV1 (ν := mX6_rowOf) (ci := 6) rfl rfl lk_X6_228 in_X6_rowOf se_X6_rowOf mok_X6_rowOf dX6_move_2 (c_X6_rowOf_n hk1') (by exact he) rfl rfl (by omega) (by simp) ?_
        refine px_astoreN6 rfl dX6_move_5 ?_
        refine px_aload_n dX6_move_7 rfl ?_
        refine px_iload_n dX6_move_8 rfl ?_
        refine px_callV1 (ν := mX6_rowOf) (ci := 6) rfl rfl lk_X6_228 in_X6_rowOf se_X6_rowOf mok_X6_rowOf dX6_move_9 (c_X6_rowOf he hR hs) (by exact he) rfl rfl (by omega) (by simp) ?_
        refine px_astore7 rfl dX6_move_12 ?_
        refine px_aloadN dX6_move_14 rfl ?_
        refine px_ifnull_t (tgt := 24) dX6_move_16 (by decide) ?_
        refine px_iconst (v := (-1)) dX6_move_24 (by decide) ?_
        exact px_reti dX6_move_25 (by rfl) (by rfl)
      · have hk2' : s_isRow u = false := by simpa using hk2
        refine CT.of [some (.ref e), some (.int k), some (.int i), some (.int u), some (.int j), some (.int m), none, none] rfl (Nat.le_of_ble_eq_true rfl) pl_X6 trivial ?_
        refine px_aload_n dX6_move_0 rfl ?_
        refine px_iload_n dX6_move_1 rfl ?_
        refine px_callV1 (ν := mX6_rowOf) (ci := 6) rfl rfl lk_X6_228 in_X6_rowOf se_X6_rowOf mok_X6_rowOf dX6_move_2 (c_X6_rowOf_n hk1') (by exact he) rfl rfl (by omega) (by simp) ?_
        refine px_astoreN6 rfl dX6_move_5 ?_
        refine px_aload_n dX6_move_7 rfl ?_
        refine px_iload_n dX6_move_8 rfl ?_
        refine px_callV1 (ν := mX6_rowOf) (ci := 6) rfl rfl lk_X6_228 in_X6_rowOf se_X6_rowOf mok_X6_rowOf dX6_move_9 (c_X6_rowOf_n hk2') (by exact he) rfl rfl (by omega) (by simp) ?_
        refine px_astoreN7 rfl dX6_move_12 ?_
        refine px_aloadN dX6_move_14 rfl ?_
        refine px_ifnull_t (tgt := 24) dX6_move_16 (by decide) ?_
        refine px_iconst (v := (-1)) dX6_move_24 (by decide) ?_
        exact px_reti dX6_move_25 (by rfl) (by rfl)
end M47
