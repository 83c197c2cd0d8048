/-! World.copyFrom -/
/-- alike in all that a world keeps -/
def AWe (A A2 : AW) : Prop := (∀ k, k < 8 → A.inn k = A2.inn k) ∧ ∀ t, t < 16 → A.ru (8 + t) = A2.ru (8 + t) ∧ A.rs (8 + t) = A2.rs (8 + t) ∧ A.tr (8 + t) = A2.tr (8 + t)
theorem IsW.ext {f : Nat → Option va_E} {a : Nat} {A A2 : AW} (h : IsW f a A) (he : AWe A A2) : IsW f a A2 := by
  obtain ⟨h1, ⟨ct, h2, h2'⟩, h3, h4, h5, h6⟩ := h
  refine ⟨h1, ⟨ct, h2, fun k hk => ?_⟩, h3, h4, h5, fun t ht => ?_⟩
  · rw [← he.1 k hk]; exact h2' k hk
  · obtain ⟨e1, e2, e3⟩ := he.2 t ht
    rw [← e1, ← e2, ← e3]; exact h6 t ht
section M29
variable {B : Nat} {D : va_G} {n w : Nat} {a b : Nat}
theorem l_X5_copyFrom_2 {d : Nat} {A2 : AW} (hab : a + 85 ≤ b ∨ b + 85 ≤ a) (han : a + 85 ≤ n) (hbn : b + 85 ≤ n) : ∀ (k i : Nat) (f : Nat → Option va_E) (A : AW), i + k = 8 → IsW f a A → IsW f b A2 → (∀ j, j < i → A.inn j = A2.inn j) → ∃ (g : Nat → Option va_E) (A' : AW), (∀ h1, EX B D d mX5_copyFrom 26 [some (.ref a), some (.ref b), some (.int (nI 8)), none, none] [] (n, w, g) none h1 → EX B D d mX5_copyFrom 2 [some (.ref a), some (.ref b), some (.int (nI i)), none, none] [] (n, w, f) none h1) ∧ IsW g a A' ∧ IsW g b A2 ∧ (∀ j, j < 8 → A'.inn j = A2.inn j) ∧ (∀ N, Ag f g a (a + 85) N) ∧ keeps f g := by
  intro k
  induction k with
  | zero =>
    intro i f A hi h h2 hj
    have hi2 : i = 8 := by omega
    subst hi2
    refine ⟨f, A, fun h1' hE => ?_, h, h2, hj, fun N => Ag.rf _ _ _ _, keeps_rf _⟩
    refine px_iload_n dX5_copyFrom_2 rfl ?_
    refine px_bipush (v := 8) dX5_copyFrom_3 (by decide) ?_
    refine px_icmp_ge (tgt := 26) dX5_copyFrom_5 (by decide) (fun hc5 => ?_) (fun hc5 => ?_)
    · exact hE
    · exact absurd (show (8 : Int32) ≤ nI 8 by decide) hc5
  | succ k ih =>
    intro i f A hi h h2 hj
    obtain ⟨w1, ⟨ct, w2, w2'⟩, -⟩ := id h
    obtain ⟨v1, ⟨ct2, v2, v2'⟩, -⟩ := id h2
    have hq := v2' i (by omega)
    have hrp : ∀ p, ct2 i = some p → ∃ fs, f p = some (.inr (1, fs)) := fun p e => by
      rw [e] at hq
      cases hz : A2.inn i with
      | none => rw [hz] at hq; cases hq
      | some c =>
        rw [hz] at hq
        obtain ⟨p', e', p0, q0, hp0, hcell, hnil⟩ := hq
        cases e'
        cases hp0
        exact ⟨_, hcell⟩
    have k1 : keeps f (va_up f (a + 1) (some (.inl (3, 8, .inr (.inr (.inr (.inr (va_up ct i (ct2 i))))))))) := keeps_at w2 (fun fs e => by cases e)
    have A1 : ∀ N, Ag f (va_up f (a + 1) (some (.inl (3, 8, .inr (.inr (.inr (.inr (va_up ct i (ct2 i))))))))) (a + 1) (a + 2) N := fun N => (Ag.rf _ _ _ _).up (by omega) (by omega)
    have hW1 := h.give (k := i) (by omega) (c := A2.inn i) (q := ct2 i) han (A1 n) k1 w2 (va_up_self _ _ _) (chO_keep k1 hq)
    have hV1 := h2.ag (A1 n) hbn (by omega) k1
    obtain ⟨g, A', hE, hT, hV, hv, hA, hK⟩ := ih (i + 1) _ (A.give i (A2.inn i)) (by omega) hW1 hV1 (fun j hj2 => by
      show va_up A.inn i (A2.inn i) j = A2.inn j
      by_cases hji : j = i
      · subst hji; exact va_up_self _ _ _
      · rw [va_up_ne _ _ hji]; exact hj j (by omega))
    have h12 : ¬ (8 : Int32) ≤ nI i := nI_ge (b := 8) (by omega) (by omega)
    refine ⟨g, A', fun h1' hX => ?_, hT, hV, hv, fun N => ((A1 N).wide (by omega) (by omega)).tra (hA N) (Nat.le_refl _), keeps_tr k1 hK⟩
    refine px_iload_n dX5_copyFrom_2 rfl ?_
    refine px_bipush (v := 8) dX5_copyFrom_3 (by decide) ?_
    refine px_icmp_ge (tgt := 26) dX5_copyFrom_5 (by decide) (fun hc5 => ?_) (fun hc5 => ?_)
    · exact absurd hc5 h12
    · refine px_aload_n dX5_copyFrom_8 rfl ?_
      refine px_getfield fl_X5_11 dX5_copyFrom_9 (by first | exact w1 | exact v1 | exact w2 | exact v2) (by rfl) ?_
      refine px_iload_n dX5_copyFrom_12 rfl ?_
      refine px_aload_n dX5_copyFrom_13 rfl ?_
      refine px_getfield fl_X5_11 dX5_copyFrom_14 (by first | exact w1 | exact v1 | exact w2 | exact v2) (by rfl) ?_
      refine px_iload_n dX5_copyFrom_17 rfl ?_
      refine px_aaload rfl dX5_copyFrom_18 (by first | exact w1 | exact v1 | exact w2 | exact v2) (by decide) (by exact ixn (by omega) (by omega)) ?_
      rw [nI_clamp (show i < 2 ^ 31 by omega)]
      refine px_aastoreQ (ci := 1) rfl rfl dX5_copyFrom_19 (by first | exact w1 | exact v1 | exact w2 | exact v2) (by decide) (by exact ixn (by omega) (by omega)) (hrp) ?_
      rw [nI_clamp (show i < 2 ^ 31 by omega)]
      refine px_iinc2 rfl (nI_inc i) dX5_copyFrom_20 ?_
      refine px_goto (tgt := 2) dX5_copyFrom_23 (by decide) ?_
      exact hE _ hX
theorem l_X5_copyFrom_28 {d : Nat} (hd : 3 ≤ d) {A2 : AW} (hab : a + 85 ≤ b ∨ b + 85 ≤ a) (han : a + 85 ≤ n) (hbn : b + 85 ≤ n) : ∀ (k i : Nat) (f : Nat → Option va_E) (A : AW) (y z : Option Value), i + k = 16 → IsW f a A → IsW f b A2 → (∀ j, j < 8 → A.inn j = A2.inn j) → (∀ t, t < i → A.ru (8 + t) = A2.ru (8 + t) ∧ A.rs (8 + t) = A2.rs (8 + t) ∧ A.tr (8 + t) = A2.tr (8 + t)) → ∃ (g : Nat → Option va_E), EX B D d mX5_copyFrom 28 [some (.ref a), some (.ref b), some (.int (nI i)), y, z] [] (n, w, f) none (n, w, g) ∧ IsW g a A2 ∧ (∀ N, Ag f g a (a + 85) N) ∧ keeps f g := by
  intro k
  induction k with
  | zero =>
    intro i f A y z hi h h2 hj hJ
    have hi2 : i = 16 := by omega
    subst hi2
    refine ⟨f, ?_, h.ext ⟨hj, hJ⟩, fun N => Ag.rf _ _ _ _, keeps_rf _⟩
    refine px_iload_n dX5_copyFrom_28 rfl ?_
    refine px_bipush (v := 16) dX5_copyFrom_29 (by decide) ?_
    refine px_icmp_ge (tgt := 70) dX5_copyFrom_31 (by decide) (fun hc31 => ?_) (fun hc31 => ?_)
    · exact px_retv dX5_copyFrom_70 rfl (by rfl)
    · exact absurd (show (16 : Int32) ≤ nI 16 by decide) hc31
  | succ k ih =>
    intro i f A y z hi h h2 hj hJ
    obtain ⟨w1, -, ⟨tg, w2, w2'⟩, -, -, w6⟩ := id h
    obtain ⟨v1, -, ⟨tg2, v2, v2'⟩, -, -, v6⟩ := id h2
    have hi16 : i < 16 := by omega
    obtain ⟨g1, hC, t1, A1, k1⟩ := c_X4_copyFrom (B := B) (D := D) (n := n) (w := w) (a := a + 5 + 5 * i) (b := b + 5 + 5 * i) (by omega) (w6 i hi16) (v6 i hi16)
    have hW1 := h.put hi16 han (A1 n) k1 t1
    have hV1 := h2.ag (A1 n) hbn (by omega) k1
    obtain ⟨c, q, l, sg, fg, tk, tp, u1, -⟩ := id (w6 i hi16)
    obtain ⟨g, hE, hT, hA, hK⟩ := ih (i + 1) g1 _ (some (.ref (a + 5 + 5 * i))) (some (.ref (b + 5 + 5 * i))) (by omega) hW1 hV1 hj (fun t ht => by
      by_cases hti : t = i
      · subst hti
        exact ⟨va_up_self _ _ _, va_up_self _ _ _, va_up_self _ _ _⟩
      · have hne : 8 + t ≠ 8 + i := by omega
        obtain ⟨e1, e2, e3⟩ := hJ t (by omega)
        exact ⟨(va_up_ne _ _ hne).trans e1, (va_up_ne _ _ hne).trans e2, (va_up_ne _ _ hne).trans e3⟩)
    have h12 : ¬ (16 : Int32) ≤ nI i := nI_ge (b := 16) (by omega) (by omega)
    refine ⟨g, ?_, hT, fun N => ((A1 N).wide (by omega) (by omega)).tra (hA N) (Nat.le_refl _), keeps_tr k1 hK⟩
    refine px_iload_n dX5_copyFrom_28 rfl ?_
    refine px_bipush (v := 16) dX5_copyFrom_29 (by decide) ?_
    refine px_icmp_ge (tgt := 70) dX5_copyFrom_31 (by decide) (fun hc31 => ?_) (fun hc31 => ?_)
    · exact absurd hc31 h12
    · refine px_aload_n dX5_copyFrom_34 rfl ?_
      refine px_getfield fl_X5_19 dX5_copyFrom_35 (by first | exact w1 | exact v1 | exact w2 | exact v2 | exact u1.1) (by rfl) ?_
      refine px_iload_n dX5_copyFrom_38 rfl ?_
      refine px_aaload rfl dX5_copyFrom_39 (by first | exact w1 | exact v1 | exact w2 | exact v2 | exact u1.1) (by decide) (by exact ixn (by omega) (by omega)) ?_
      rw [nI_clamp (show i < 2 ^ 31 by omega), w2' i hi16]
      refine px_astore3 rfl dX5_copyFrom_40 ?_
      refine px_aload_n dX5_copyFrom_41 rfl ?_
      refine px_getfield fl_X5_19 dX5_copyFrom_42 (by first | exact w1 | exact v1 | exact w2 | exact v2 | exact u1.1) (by rfl) ?_
      refine px_iload_n dX5_copyFrom_45 rfl ?_
      refine px_aaload rfl dX5_copyFrom_46 (by first | exact w1 | exact v1 | exact w2 | exact v2 | exact u1.1) (by decide) (by exact ixn (by omega) (by omega)) ?_
      rw [nI_clamp (show i < 2 ^ 31 by omega), v2' i hi16]
      refine px_astore4 rfl dX5_copyFrom_47 ?_
      refine px_aload_n dX5_copyFrom_49 rfl ?_
      refine px_ifnull_f dX5_copyFrom_50 ?_
      refine px_aload dX5_copyFrom_53 rfl ?_
      refine px_ifnull_f dX5_copyFrom_55 ?_
      refine px_aload_n dX5_copyFrom_58 rfl ?_
      refine px_aload dX5_copyFrom_59 rfl ?_
      refine px_callV0 (ν := mX4_copyFrom) (ci := 4) rfl rfl lk_X5_134 in_X4_copyFrom se_X4_copyFrom mok_X4_copyFrom dX5_copyFrom_61 (hC) (by first | exact w1 | exact v1 | exact w2 | exact v2 | exact u1.1) rfl rfl (by omega) (by simp) ?_
      refine px_iinc2 rfl (nI_inc i) dX5_copyFrom_64 ?_
      refine px_goto (tgt := 28) dX5_copyFrom_67 (by decide) ?_
      exact hE
theorem c_X5_copyFrom {f : Nat → Option va_E} {A A2 : AW} (hab : a + 85 ≤ b ∨ b + 85 ≤ a) (han : a + 85 ≤ n) (hbn : b + 85 ≤ n) (h : IsW f a A) (h2 : IsW f b A2) : ∃ g : Nat → Option va_E, CT B D 3 mX5_copyFrom [.ref a, .ref b] (n, w, f) none (n, w, g) ∧ IsW g a A2 ∧ (∀ N, Ag f g a (a + 85) N) ∧ keeps f g := by
  obtain ⟨g1, A', hE, hT, hV, hv, hA, hK⟩ := l_X5_copyFrom_2 (B := B) (D := D) (n := n) (w := w) (d := 3) hab han hbn 8 0 f A (by omega) h h2 (fun j hj => absurd hj (Nat.not_lt_zero _))
  obtain ⟨g2, hE2, hT2, hA2, hK2⟩ := l_X5_copyFrom_28 (B := B) (D := D) (n := n) (w := w) (d := 3) (Nat.le_refl _) hab han hbn 16 0 g1 A' none none (by omega) hT hV hv (fun j hj => absurd hj (Nat.not_lt_zero _))
  refine ⟨g2, ?_, hT2, fun N => (hA N).tra (hA2 N) (Nat.le_refl _), keeps_tr hK hK2⟩
  refine CT.of [some (.ref a), some (.ref b), none, none, none] rfl (Nat.le_of_ble_eq_true rfl) pl_X5 trivial ?_
  refine px_iconst (v := 0) dX5_copyFrom_0 (by decide) ?_
  refine px_istore2 rfl dX5_copyFrom_1 ?_
  refine hE _ ?_
  refine px_iconst (v := 0) dX5_copyFrom_26 (by decide) ?_
  refine px_istore2 rfl dX5_copyFrom_27 ?_
  exact hE2
end M29
