/-! forget, feed, clear, copy -/
section M36
variable {B : Nat} {D : va_G} {n w : Nat} {f : Nat → Option va_E} {e : Nat} {im : Bool} {A : AW}
theorem l_X6_forget_35 {d a : Nat} (hd : 1 ≤ d) {x y z c l : Int32} {q : Option Nat} {sg fg tk : Nat → Int32} {tp : Nat → Option Nat} {p : Bool} (h1 : IsT f a c q l sg fg tk tp) : EX B D d mX6_forget 35 [some (.ref e), some (.int x), some (.ref a), some (.int (bi p))] [] (n, w, f) (some (.int (bi p))) (n, w, va_up (va_up f a (some (tcell a c none l))) a (some (tcell a c none (-1)))) := by
  have h2 := h1.obj c l none
  refine px_aload_n dX6_forget_35 rfl ?_
  refine px_null dX6_forget_36 ?_
  refine px_putfield fp_X6_192 dX6_forget_37 (by first | exact h1.1 | exact h2.1) rfl rfl (by simp) ?_
  refine px_aload_n dX6_forget_40 rfl ?_
  refine px_callV0 (ν := mX4_dropTrace) (ci := 4) rfl rfl lk_X6_195 in_X4_dropTrace se_X4_dropTrace mok_X4_dropTrace dX6_forget_41 (c_X4_dropTrace h2) (by first | exact h1.1 | exact h2.1) rfl rfl (by omega) (by simp) ?_
  refine px_iload_n dX6_forget_44 rfl ?_
  refine px_ifb_eq (tgt := 52) dX6_forget_45 (by decide) (fun hc45 => ?_) (fun hc45 => ?_)
  · refine px_iconst (v := 0) dX6_forget_52 (by decide) ?_
    exact px_reti dX6_forget_53 (by rw [hc45]; rfl) (by rfl)
  · refine px_iconst (v := 1) dX6_forget_48 (by decide) ?_
    refine px_goto (tgt := 53) dX6_forget_49 (by decide) ?_
    exact px_reti dX6_forget_53 (by rw [hc45]; rfl) (by rfl)
theorem c_X6_forget (he : f e = some (ecell e im)) (hW : IsW f (e + 1 + 1) A) (hwf : wfH f n) (k : Int32) : ∃ g : Nat → Option va_E, CT B D 5 mX6_forget [.ref e, .int k] (n, w, f) (some (.int (v_forget A k).1)) (n, w, g) ∧ IsW g (e + 1 + 1) (v_forget A k).2 ∧ Ch f g n n w w (e + 1 + 1) (e + 1 + 1 + 85) := by
  by_cases hk : s_isTarget k = true
  · obtain ⟨t, ht, rfl⟩ := inT.mp hk
    have hta := hW.2.2.2.2.2 t ht
    have hh := hta.has (B := B) (D := D) (n := n) (w := w)
    obtain ⟨c, q, l, sg, fg, tk, tp, h1, h2, h3, h4, h5, h6⟩ := hta
    have h0 : v_forget A (nI (8 + t)) = (bi ((A.rs (8 + t)).isSome || (A.tr (8 + t)).isSome), A.put (8 + t) (A.ru (8 + t)) none none) := by unfold v_forget; rw [if_pos hk, clamp_lt _ (by omega)]
    rw [h0]
    have hA : ∀ N, Ag f (va_up (va_up f (e + 1 + 1 + 5 + 5 * t) (some (tcell (e + 1 + 1 + 5 + 5 * t) c none l))) (e + 1 + 1 + 5 + 5 * t) (some (tcell (e + 1 + 1 + 5 + 5 * t) c none (-1)))) (e + 1 + 1 + 5 + 5 * t) (e + 1 + 1 + 5 + 5 * t + 5) N := fun N => ((Ag.rf _ _ _ _).up (by omega) (by omega)).up (by omega) (by omega)
    have hK := ag_keeps hA h1
    have hE := l_X6_forget_35 (B := B) (D := D) (n := n) (w := w) (d := 5) (e := e) (x := nI (8 + t)) (y := 0) (z := 0) (p := (A.rs (8 + t)).isSome || (A.tr (8 + t)).isSome) (by omega) h1
    refine ⟨_, ?_, hW.put ht (hW.top hwf) (hA n) hK ⟨c, none, -1, sg, fg, tk, tp, (h1.obj c l none).obj c (-1) none, h2, h3, h4, ⟨rfl, h5.2.keep hK⟩, rfl⟩, (hA n).wide (by omega) (by omega), hK, fun h => (h.up (h.lt h1.1)).up (h.lt h1.1), Nat.le_refl _, by omega, rfl⟩
    cases hr : A.rs (8 + t) with
    | some r =>
      rw [hr] at h5 hE
      obtain ⟨⟨p, rfl, -⟩, -⟩ := h5
      refine CT.of [some (.ref e), some (.int (nI (8 + t))), none, none] rfl (Nat.le_of_ble_eq_true rfl) pl_X6 trivial ?_
      refine px_aload_n dX6_forget_0 rfl ?_
      refine px_getfield fl_X6_25 dX6_forget_1 (by first | exact he | exact hW.1 | exact h1.1) (by rfl) ?_
      refine px_iload_n dX6_forget_4 rfl ?_
      refine px_callV1 (ν := mX5_targetOf) (ci := 5) rfl rfl lk_X6_82 in_X5_targetOf se_X5_targetOf mok_X5_targetOf dX6_forget_5 (c_X5_targetOf hW ht) (by first | exact he | exact hW.1 | exact h1.1) rfl rfl (by omega) (by simp) ?_
      refine px_astore2 rfl dX6_forget_8 ?_
      refine px_aload_n dX6_forget_9 rfl ?_
      refine px_ifnonnull_t (tgt := 15) dX6_forget_10 (by decide) ?_
      refine px_aload_n dX6_forget_15 rfl ?_
      refine px_getfield fl_X6_192 dX6_forget_16 (by first | exact he | exact hW.1 | exact h1.1) (by rfl) ?_
      refine px_ifnonnull_t (tgt := 29) dX6_forget_19 (by decide) ?_
      refine px_iconst (v := 1) dX6_forget_29 (by decide) ?_
      refine px_goto (tgt := 34) dX6_forget_30 (by decide) ?_
      refine px_istore3 rfl dX6_forget_34 ?_
      exact hE
    | none =>
      rw [hr] at h5 hE
      obtain ⟨h5a, -⟩ := h5
      cases h5a
      cases htr : A.tr (8 + t) with
      | none =>
        rw [htr] at hh hE
        refine CT.of [some (.ref e), some (.int (nI (8 + t))), none, none] rfl (Nat.le_of_ble_eq_true rfl) pl_X6 trivial ?_
        refine px_aload_n dX6_forget_0 rfl ?_
        refine px_getfield fl_X6_25 dX6_forget_1 (by first | exact he | exact hW.1 | exact h1.1) (by rfl) ?_
        refine px_iload_n dX6_forget_4 rfl ?_
        refine px_callV1 (ν := mX5_targetOf) (ci := 5) rfl rfl lk_X6_82 in_X5_targetOf se_X5_targetOf mok_X5_targetOf dX6_forget_5 (c_X5_targetOf hW ht) (by first | exact he | exact hW.1 | exact h1.1) rfl rfl (by omega) (by simp) ?_
        refine px_astore2 rfl dX6_forget_8 ?_
        refine px_aload_n dX6_forget_9 rfl ?_
        refine px_ifnonnull_t (tgt := 15) dX6_forget_10 (by decide) ?_
        refine px_aload_n dX6_forget_15 rfl ?_
        refine px_getfield fl_X6_192 dX6_forget_16 (by first | exact he | exact hW.1 | exact h1.1) (by rfl) ?_
        refine px_ifnonnull_f dX6_forget_19 ?_
        refine px_aload_n dX6_forget_22 rfl ?_
        refine px_callV1 (ν := mX4_hasTrace) (ci := 4) rfl rfl lk_X6_161 in_X4_hasTrace se_X4_hasTrace mok_X4_hasTrace dX6_forget_23 (hh) (by first | exact he | exact hW.1 | exact h1.1) rfl rfl (by omega) (by simp) ?_
        refine px_ifb_eq (tgt := 33) dX6_forget_26 (by decide) (fun hc26 => ?_) (fun hc26 => ?_)
        · refine px_iconst (v := 0) dX6_forget_33 (by decide) ?_
          refine px_istore3 rfl dX6_forget_34 ?_
          exact hE
        · cases hc26
      | some T =>
        rw [htr] at hh hE
        refine CT.of [some (.ref e), some (.int (nI (8 + t))), none, none] rfl (Nat.le_of_ble_eq_true rfl) pl_X6 trivial ?_
        refine px_aload_n dX6_forget_0 rfl ?_
        refine px_getfield fl_X6_25 dX6_forget_1 (by first | exact he | exact hW.1 | exact h1.1) (by rfl) ?_
        refine px_iload_n dX6_forget_4 rfl ?_
        refine px_callV1 (ν := mX5_targetOf) (ci := 5) rfl rfl lk_X6_82 in_X5_targetOf se_X5_targetOf mok_X5_targetOf dX6_forget_5 (c_X5_targetOf hW ht) (by first | exact he | exact hW.1 | exact h1.1) rfl rfl (by omega) (by simp) ?_
        refine px_astore2 rfl dX6_forget_8 ?_
        refine px_aload_n dX6_forget_9 rfl ?_
        refine px_ifnonnull_t (tgt := 15) dX6_forget_10 (by decide) ?_
        refine px_aload_n dX6_forget_15 rfl ?_
        refine px_getfield fl_X6_192 dX6_forget_16 (by first | exact he | exact hW.1 | exact h1.1) (by rfl) ?_
        refine px_ifnonnull_f dX6_forget_19 ?_
        refine px_aload_n dX6_forget_22 rfl ?_
        refine px_callV1 (ν := mX4_hasTrace) (ci := 4) rfl rfl lk_X6_161 in_X4_hasTrace se_X4_hasTrace mok_X4_hasTrace dX6_forget_23 (hh) (by first | exact he | exact hW.1 | exact h1.1) rfl rfl (by omega) (by simp) ?_
        refine px_ifb_eq (tgt := 33) dX6_forget_26 (by decide) (fun hc26 => ?_) (fun hc26 => ?_)
        · cases hc26
        · refine px_iconst (v := 1) dX6_forget_29 (by decide) ?_
          refine px_goto (tgt := 34) dX6_forget_30 (by decide) ?_
          refine px_istore3 rfl dX6_forget_34 ?_
          exact hE
  · have hk' : s_isTarget k = false := by simpa using hk
    have h0 : v_forget A k = (-1, A) := by unfold v_forget; rw [if_neg hk]
    rw [h0]
    refine ⟨f, ?_, hW, Ch.rf _ _ _ _ _⟩
    refine CT.of [some (.ref e), some (.int k), none, none] rfl (Nat.le_of_ble_eq_true rfl) pl_X6 trivial ?_
    refine px_aload_n dX6_forget_0 rfl ?_
    refine px_getfield fl_X6_25 dX6_forget_1 (by first | exact he | exact hW.1) (by rfl) ?_
    refine px_iload_n dX6_forget_4 rfl ?_
    refine px_callV1 (ν := mX5_targetOf) (ci := 5) rfl rfl lk_X6_82 in_X5_targetOf se_X5_targetOf mok_X5_targetOf dX6_forget_5 (c_X5_targetOf_n hk') (by first | exact he | exact hW.1) rfl rfl (by omega) (by simp) ?_
    refine px_astoreN2 rfl dX6_forget_8 ?_
    refine px_aload_nN dX6_forget_9 rfl ?_
    refine px_ifnonnull_f dX6_forget_10 ?_
    refine px_iconst (v := (-1)) dX6_forget_13 (by decide) ?_
    exact px_reti dX6_forget_14 (by rfl) (by rfl)
theorem c_X6_clear (he : f e = some (ecell e im)) {T : Nat × (Nat → Int32)} (hP : IsP f (e + 332) T.1 T.2) : ∃ g : Nat → Option va_E, CT B D 5 mX6_clear [.ref e] (n, w, f) (some (.int (nI T.1))) (n, w, g) ∧ IsP g (e + 332) 0 T.2 ∧ Ch f g n n w w (e + 332) (e + 334) := by
  have hK : keeps f (va_up f (e + 332) (some (.inr (3, [.ref (e + 332 + 1), .int 0])))) := keeps_at hP.1 (fun fs e => by cases e)
  refine ⟨_, ?_, ⟨va_up_self _ _ _, by rw [va_up_ne _ _ (by omega)]; exact hP.2.1, Nat.zero_le _⟩, (Ag.rf _ _ _ _).up (by omega) (by omega), hK, fun h => h.up (h.lt hP.1), Nat.le_refl _, by omega, rfl⟩
  refine CT.of [some (.ref e)] rfl (Nat.le_of_ble_eq_true rfl) pl_X6 trivial ?_
  refine px_aload_n dX6_clear_0 rfl ?_
  refine px_getfield fl_X6_35 dX6_clear_1 (by first | exact he | exact hP.1) (by rfl) ?_
  refine px_callV1 (ν := mX3_empty) (ci := 3) rfl rfl lk_X6_78 in_X3_empty se_X3_empty mok_X3_empty dX6_clear_4 (c_X3_empty hP) (by first | exact he | exact hP.1) rfl rfl (by omega) (by simp) ?_
  exact px_reti dX6_clear_7 (by rfl) (by rfl)
theorem c_X6_feed (he : f e = some (ecell e im)) {T : Nat × (Nat → Int32)} (hP : IsP f (e + 332) T.1 T.2) (x : Int32) : ∃ g : Nat → Option va_E, CT B D 5 mX6_feed [.ref e, .int x] (n, w, f) (some (.int (v_feed T x).1)) (n, w, g) ∧ IsP g (e + 332) (v_feed T x).2.1 (v_feed T x).2.2 ∧ Ch f g n n w w (e + 332) (e + 334) := by
  by_cases hx : x < 1 ∨ 127 < x
  · have h0 : v_feed T x = (-2, T) := by unfold v_feed; rw [if_pos hx]
    rw [h0]
    refine ⟨f, ?_, hP, Ch.rf _ _ _ _ _⟩
    refine CT.of [some (.ref e), some (.int x)] rfl (Nat.le_of_ble_eq_true rfl) pl_X6 trivial ?_
    refine px_iload_n dX6_feed_0 rfl ?_
    refine px_iconst (v := 1) dX6_feed_1 (by decide) ?_
    refine px_icmp_lt (tgt := 11) dX6_feed_2 (by decide) (fun hc2 => ?_) (fun hc2 => ?_)
    · refine px_bipush (v := (-2)) dX6_feed_11 (by decide) ?_
      exact px_reti dX6_feed_13 (by rfl) (by rfl)
    · refine px_iload_n dX6_feed_5 rfl ?_
      refine px_bipush (v := 127) dX6_feed_6 (by decide) ?_
      refine px_icmp_le (tgt := 14) dX6_feed_8 (by decide) (fun hc8 => ?_) (fun hc8 => ?_)
      · exact absurd hx (by rintro (z | z); exact hc2 z; rw [Int32.lt_iff_toInt_lt] at z; rw [Int32.le_iff_toInt_le] at hc8; omega)
      · refine px_bipush (v := (-2)) dX6_feed_11 (by decide) ?_
        exact px_reti dX6_feed_13 (by rfl) (by rfl)
  · have hx1 : ¬ x < 1 := fun z => hx (Or.inl z)
    have hx2 : x ≤ 127 := by rw [Int32.le_iff_toInt_le]; have z : ¬ (127 : Int32) < x := fun z => hx (Or.inr z); rw [Int32.lt_iff_toInt_lt] at z; omega
    by_cases hL : T.1 < 50
    · have h0 : v_feed T x = (nI (T.1 + 1), (T.1 + 1, va_up T.2 T.1 x)) := by unfold v_feed; rw [if_neg hx, if_pos hL]
      rw [h0]
      have hK : keeps f (va_up (va_up f (e + 332 + 1) (some (.inl (0, 50, .inl (va_up T.2 T.1 x))))) (e + 332) (some (.inr (3, [.ref (e + 332 + 1), .int (nI (T.1 + 1))])))) := keeps_tr (keeps_at hP.2.1 (fun fs e => by cases e)) (keeps_at (e0 := .inr (3, [.ref (e + 332 + 1), .int (nI T.1)])) (by rw [va_up_ne _ _ (by omega)]; exact hP.1) (fun fs e => by cases e))
      refine ⟨_, ?_, ⟨va_up_self _ _ _, by rw [va_up_ne _ _ (by omega), va_up_self], hL⟩, ((Ag.rf _ _ _ _).up (by omega) (by omega)).up (by omega) (by omega), hK, fun h => (h.up (h.lt hP.2.1)).up (h.lt hP.1), Nat.le_refl _, by omega, rfl⟩
      refine CT.of [some (.ref e), some (.int x)] rfl (Nat.le_of_ble_eq_true rfl) pl_X6 trivial ?_
      refine px_iload_n dX6_feed_0 rfl ?_
      refine px_iconst (v := 1) dX6_feed_1 (by decide) ?_
      refine px_icmp_lt (tgt := 11) dX6_feed_2 (by decide) (fun hc2 => ?_) (fun hc2 => ?_)
      · exact absurd hc2 hx1
      · refine px_iload_n dX6_feed_5 rfl ?_
        refine px_bipush (v := 127) dX6_feed_6 (by decide) ?_
        refine px_icmp_le (tgt := 14) dX6_feed_8 (by decide) (fun hc8 => ?_) (fun hc8 => ?_)
        · refine px_aload_n dX6_feed_14 rfl ?_
          refine px_getfield fl_X6_35 dX6_feed_15 (by first | exact he | exact hP.1 | exact va_up_self _ _ _ | (rw [va_up_ne _ _ (by omega), va_up_ne _ _ (by omega)]; exact he)) (by rfl) ?_
          refine px_iload_n dX6_feed_18 rfl ?_
          refine px_callV1 (ν := mX3_append) (ci := 3) rfl rfl lk_X6_72 in_X3_append se_X3_append mok_X3_append dX6_feed_19 (c_X3_append hP hL x) (by first | exact he | exact hP.1 | exact va_up_self _ _ _ | (rw [va_up_ne _ _ (by omega), va_up_ne _ _ (by omega)]; exact he)) rfl rfl (by omega) (by simp) ?_
          refine px_ifb_eq (tgt := 35) dX6_feed_22 (by decide) (fun hc22 => ?_) (fun hc22 => ?_)
          · cases hc22
          · refine px_aload_n dX6_feed_25 rfl ?_
            refine px_getfield fl_X6_35 dX6_feed_26 (by first | exact he | exact hP.1 | exact va_up_self _ _ _ | (rw [va_up_ne _ _ (by omega), va_up_ne _ _ (by omega)]; exact he)) (by rfl) ?_
            refine px_getfield fl_X6_75 dX6_feed_29 (by first | exact he | exact hP.1 | exact va_up_self _ _ _ | (rw [va_up_ne _ _ (by omega), va_up_ne _ _ (by omega)]; exact he)) (by rfl) ?_
            refine px_goto (tgt := 37) dX6_feed_32 (by decide) ?_
            exact px_reti dX6_feed_37 (by rfl) (by rfl)
        · exact absurd hx2 hc8
    · have hL2 : T.1 = 50 := by have := hP.2.2; omega
      have h0 : v_feed T x = (-4, T) := by unfold v_feed; rw [if_neg hx, if_neg hL]
      rw [h0]
      refine ⟨f, ?_, hP, Ch.rf _ _ _ _ _⟩
      refine CT.of [some (.ref e), some (.int x)] rfl (Nat.le_of_ble_eq_true rfl) pl_X6 trivial ?_
      refine px_iload_n dX6_feed_0 rfl ?_
      refine px_iconst (v := 1) dX6_feed_1 (by decide) ?_
      refine px_icmp_lt (tgt := 11) dX6_feed_2 (by decide) (fun hc2 => ?_) (fun hc2 => ?_)
      · exact absurd hc2 hx1
      · refine px_iload_n dX6_feed_5 rfl ?_
        refine px_bipush (v := 127) dX6_feed_6 (by decide) ?_
        refine px_icmp_le (tgt := 14) dX6_feed_8 (by decide) (fun hc8 => ?_) (fun hc8 => ?_)
        · refine px_aload_n dX6_feed_14 rfl ?_
          refine px_getfield fl_X6_35 dX6_feed_15 (by first | exact he | exact hP.1) (by rfl) ?_
          refine px_iload_n dX6_feed_18 rfl ?_
          refine px_callV1 (ν := mX3_append) (ci := 3) rfl rfl lk_X6_72 in_X3_append se_X3_append mok_X3_append dX6_feed_19 (c_X3_append_full hP hL2 x) (by first | exact he | exact hP.1) rfl rfl (by omega) (by simp) ?_
          refine px_ifb_eq (tgt := 35) dX6_feed_22 (by decide) (fun hc22 => ?_) (fun hc22 => ?_)
          · refine px_bipush (v := (-4)) dX6_feed_35 (by decide) ?_
            exact px_reti dX6_feed_37 (by rfl) (by rfl)
          · cases hc22
        · exact absurd hx2 hc8
end M36
