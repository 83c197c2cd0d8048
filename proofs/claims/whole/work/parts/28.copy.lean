/-! Target.copyFrom, World.copyFrom -/
section M28
variable {B : Nat} {D : va_G}
section AQ
variable {d : Nat} {μ : pm_M} {pc : Nat} {ls : pm_Ls} {st : List Value} {n w : Nat} {f : Nat → Option va_E} {r : Option Value} {h1 : pm_H}
theorem px_aastoreQ {a t m ci : Nat} {u : vw_C} {v : Option Nat} {g : Nat → Option Nat} {i : Int32} (hq0 : pm_cl[ci]? = some u) (hC : pm_ty t = .object u.1) (hd : decode μ.2.1 pc = .ok (.aastore, 1)) (ha : f a = some (.inl (t, m, .inr (.inr (.inr (.inr g)))))) (ht : t ≠ 9) (hi : 0 ≤ i.toInt ∧ i.toInt < m) (hv : ∀ p, v = some p → ∃ fs, f p = some (.inr (ci, fs))) (kk : EX B D d μ (pc + 1) ls st (n, w, va_up f a (some (.inl (t, m, .inr (.inr (.inr (.inr (va_up g i.toNatClampNeg v)))))))) r h1) : EX B D d μ pc ls (va_rf v :: .int i :: .ref a :: st) (n, w, f) r h1 := by
  cases v with
  | none => exact px_aastoreN hC hd ha ht hi kk
  | some p =>
    obtain ⟨fs, hf⟩ := hv p rfl
    exact px_aastore hq0 hC hd ha ht hi hf kk
end AQ
variable {n w : Nat} {a b : Nat}
theorem IsT.trs {f : Nat → Option va_E} {c l : Int32} {q : Option Nat} {sg fg tk : Nat → Int32} {tr : Nat → Option Nat} (h : IsT f a c q l sg fg tk tr) (tr' : Nat → Option Nat) : IsT (va_up f (a + 4) (some (.inl (3, 12, .inr (.inr (.inr (.inr tr')))))))  a c q l sg fg tk tr' := ⟨by rw [va_up_ne _ _ (by omega)]; exact h.1, by rw [va_up_ne _ _ (by omega)]; exact h.2.1, by rw [va_up_ne _ _ (by omega)]; exact h.2.2.1, by rw [va_up_ne _ _ (by omega)]; exact h.2.2.2.1, va_up_self _ _ _⟩
theorem IsT.tks {f : Nat → Option va_E} {c l : Int32} {q : Option Nat} {sg fg tk : Nat → Int32} {tr : Nat → Option Nat} (h : IsT f a c q l sg fg tk tr) (tk' : Nat → Int32) : IsT (va_up f (a + 3) (some (.inl (0, 12, .inl tk'))))  a c q l sg fg tk' tr := ⟨by rw [va_up_ne _ _ (by omega)]; exact h.1, by rw [va_up_ne _ _ (by omega)]; exact h.2.1, by rw [va_up_ne _ _ (by omega)]; exact h.2.2.1, va_up_self _ _ _, by rw [va_up_ne _ _ (by omega)]; exact h.2.2.2.2⟩
theorem IsT.obj {f : Nat → Option va_E} {c l : Int32} {q : Option Nat} {sg fg tk : Nat → Int32} {tr : Nat → Option Nat} (h : IsT f a c q l sg fg tk tr) (c' l' : Int32) (q' : Option Nat) : IsT (va_up f a (some (tcell a c' q' l'))) a c' q' l' sg fg tk tr := ⟨va_up_self _ _ _, by rw [va_up_ne _ _ (by omega)]; exact h.2.1, by rw [va_up_ne _ _ (by omega)]; exact h.2.2.1, by rw [va_up_ne _ _ (by omega)]; exact h.2.2.2.1, by rw [va_up_ne _ _ (by omega)]; exact h.2.2.2.2⟩
theorem IsT.out {f : Nat → Option va_E} {x : Nat} {e : Option va_E} {c l : Int32} {q : Option Nat} {sg fg tk : Nat → Int32} {tr : Nat → Option Nat} (h : IsT f a c q l sg fg tk tr) (hx : x < a ∨ a + 5 ≤ x) : IsT (va_up f x e) a c q l sg fg tk tr := ⟨by rw [va_up_ne _ _ (by omega)]; exact h.1, by rw [va_up_ne _ _ (by omega)]; exact h.2.1, by rw [va_up_ne _ _ (by omega)]; exact h.2.2.1, by rw [va_up_ne _ _ (by omega)]; exact h.2.2.2.1, by rw [va_up_ne _ _ (by omega)]; exact h.2.2.2.2⟩
theorem l_X4_copyFrom_38 {d : Nat} {c l c2 l2 : Int32} {q q2 : Option Nat} {sg fg tk sg2 fg2 tk2 : Nat → Int32} {tr2 : Nat → Option Nat} (hab : a + 5 ≤ b ∨ b + 5 ≤ a) : ∀ (k i : Nat) (f : Nat → Option va_E) (tr : Nat → Option Nat), i + k = 12 → IsT f a c q l sg fg tk tr → IsT f b c2 q2 l2 sg2 fg2 tk2 tr2 → isRP f tr2 → (∀ j, j < i → tr j = tr2 j) → isRP f tr → ∃ (g : Nat → Option va_E) (tr' : Nat → Option Nat), EX B D d mX4_copyFrom 38 [some (.ref a), some (.ref b), some (.int (nI i))] [] (n, w, f) none (n, w, g) ∧ IsT g a c q l sg fg tk tr' ∧ (∀ j, j < 12 → tr' j = tr2 j) ∧ isRP g tr' ∧ (∀ N, Ag f g a (a + 5) N) := by
  intro k
  induction k with
  | zero =>
    intro i f tr hi h h2 hr hj hr1
    have hi2 : i = 12 := by omega
    subst hi2
    refine ⟨f, tr, ?_, h, hj, hr1, fun N => Ag.rf _ _ _ _⟩
    refine px_iload_n dX4_copyFrom_38 rfl ?_
    refine px_bipush (v := 12) dX4_copyFrom_39 (by decide) ?_
    refine px_icmp_ge (tgt := 62) dX4_copyFrom_41 (by decide) (fun hc41 => ?_) (fun hc41 => ?_)
    · exact px_retv dX4_copyFrom_62 rfl (by rfl)
    · exact absurd (show (12 : Int32) ≤ nI 12 by decide) hc41
  | succ k ih =>
    intro i f tr hi h h2 hr hj hr1
    have k1 : keeps f (va_up f (a + 4) (some (.inl (3, 12, .inr (.inr (.inr (.inr (va_up tr i (tr2 i))))))))) := keeps_at h.2.2.2.2 (fun fs e => by cases e)
    obtain ⟨g, tr', hE, hT, hv, hR, hA⟩ := ih (i + 1) _ _ (by omega) (h.trs (va_up tr i (tr2 i))) (h2.out (by omega)) (hr.keep k1) (fun j hj2 => by
      by_cases hji : j = i
      · subst hji; exact va_up_self _ _ _
      · rw [va_up_ne _ _ hji]; exact hj j (by omega)) (fun j p e => by
        by_cases hji : j = i
        · subst hji; rw [va_up_self] at e; exact (hr.keep k1) j p e
        · rw [va_up_ne _ _ hji] at e; exact (hr1.keep k1) j p e)
    have h12 : ¬ (12 : Int32) ≤ nI i := nI_ge (b := 12) (by omega) (by omega)
    refine ⟨g, tr', ?_, hT, hv, hR, fun N => ((Ag.rf _ _ _ _).up (by omega) (by omega)).tra (hA N) (Nat.le_refl _)⟩
    refine px_iload_n dX4_copyFrom_38 rfl ?_
    refine px_bipush (v := 12) dX4_copyFrom_39 (by decide) ?_
    refine px_icmp_ge (tgt := 62) dX4_copyFrom_41 (by decide) (fun hc41 => ?_) (fun hc41 => ?_)
    · exact absurd hc41 h12
    · refine px_aload_n dX4_copyFrom_44 rfl ?_
      refine px_getfield fl_X4_27 dX4_copyFrom_45 (by first | exact h.1 | exact h2.1 | exact h.2.2.2.2 | exact h2.2.2.2.2) (by rfl) ?_
      refine px_iload_n dX4_copyFrom_48 rfl ?_
      refine px_aload_n dX4_copyFrom_49 rfl ?_
      refine px_getfield fl_X4_27 dX4_copyFrom_50 (by first | exact h.1 | exact h2.1 | exact h.2.2.2.2 | exact h2.2.2.2.2) (by rfl) ?_
      refine px_iload_n dX4_copyFrom_53 rfl ?_
      refine px_aaload rfl dX4_copyFrom_54 (by first | exact h.1 | exact h2.1 | exact h.2.2.2.2 | exact h2.2.2.2.2) (by decide) (by exact ixn (by omega) (by omega)) ?_
      rw [nI_clamp (show i < 2 ^ 31 by omega)]
      refine px_aastoreQ (ci := 1) rfl rfl dX4_copyFrom_55 (by first | exact h.1 | exact h2.1 | exact h.2.2.2.2 | exact h2.2.2.2.2) (by decide) (by exact ixn (by omega) (by omega)) (hr i) ?_
      rw [nI_clamp (show i < 2 ^ 31 by omega)]
      refine px_iinc2 rfl (nI_inc i) dX4_copyFrom_56 ?_
      refine px_goto (tgt := 38) dX4_copyFrom_59 (by decide) ?_
      exact hE
theorem c_X4_copyFrom {f : Nat → Option va_E} {ru rs tr ru2 rs2 tr2} (hab : a + 5 ≤ b ∨ b + 5 ≤ a) (h : IsTA f a ru rs tr) (h2 : IsTA f b ru2 rs2 tr2) : ∃ g : Nat → Option va_E, CT B D 2 mX4_copyFrom [.ref a, .ref b] (n, w, f) none (n, w, g) ∧ IsTA g a ru2 rs2 tr2 ∧ (∀ N, Ag f g a (a + 5) N) ∧ keeps f g := by
  obtain ⟨c, q, l, sg, fg, tk, tp, h1, hb2, hb3, hb4, hb5, hb6⟩ := h
  obtain ⟨c2, q2, l2, sg2, fg2, tk2, tp2, i1, i2, i3, i4, i5, i6⟩ := h2
  have hC := c_X4_copyRule (B := B) (D := D) (n := n) (w := w) h1 i1 hab
  obtain ⟨g1, hg1⟩ : ∃ g1, g1 = va_up (va_up (va_up f a (some (tcell a c2 q l))) (a + 1) (some (.inl (0, 12, .inl (cp12 sg2 sg))))) (a + 2) (some (.inl (0, 12, .inl (cp12 fg2 fg)))) := ⟨_, rfl⟩
  rw [← hg1] at hC
  have t1 := IsT_rule h1 g1 hg1
  have A1 : ∀ N, Ag f g1 a (a + 5) N := fun N => by rw [hg1]; exact (((Ag.rf _ _ _ _).up (by omega) (by omega)).up (by omega) (by omega)).up (by omega) (by omega)
  have t1b : IsT g1 b c2 q2 l2 sg2 fg2 tk2 tp2 := i1.ag (A1 (b + 5)) (Nat.le_refl _) (by omega)
  have t2 := (t1.obj c2 l q2).obj c2 l2 q2
  have t2b := (t1b.out (x := a) (e := some (tcell a c2 q2 l)) (by omega)).out (x := a) (e := some (tcell a c2 q2 l2)) (by omega)
  have t3 := t2.tks (cp12 tk2 tk)
  have t3b := t2b.out (x := a + 3) (e := some (.inl (0, 12, .inl (cp12 tk2 tk)))) (by omega)
  have A2 : ∀ N, Ag f (va_up (va_up (va_up g1 a (some (tcell a c2 q2 l))) a (some (tcell a c2 q2 l2))) (a + 3) (some (.inl (0, 12, .inl (cp12 tk2 tk))))) a (a + 5) N := fun N => (((A1 N).up (by omega) (by omega)).up (by omega) (by omega)).up (by omega) (by omega)
  have k2 := ag_keeps A2 h1
  obtain ⟨g, tr', hE, hT, hv, hR, hA⟩ := l_X4_copyFrom_38 (B := B) (D := D) (n := n) (w := w) (d := 2) hab 12 0 _ _ (by omega) t3 t3b (i5.2.keep k2) (fun j hj => absurd hj (Nat.not_lt_zero _)) (hb5.2.keep k2)
  have A3 : ∀ N, Ag f g a (a + 5) N := fun N => (A2 N).tra (hA N) (Nat.le_refl _)
  have k3 := ag_keeps A3 h1
  have ecp : ∀ {α : Type} (x y : Nat → α) (j : Nat), j < 12 → cp12 x y j = x j := fun x y j hj => by unfold cp12 va_cpy; simp; omega
  refine ⟨g, ?_, ⟨c2, q2, l2, cp12 sg2 sg, cp12 fg2 fg, cp12 tk2 tk, tr', hT, i2, i3, fun i x hx => ?_, ⟨chO_keep k3 i5.1, hR⟩, ?_⟩, A3, k3⟩
  · refine CT.of [some (.ref a), some (.ref b), none] rfl (Nat.le_of_ble_eq_true rfl) pl_X4 trivial ?_
    refine px_aload_n dX4_copyFrom_0 rfl ?_
    refine px_aload_n dX4_copyFrom_1 rfl ?_
    refine px_callV0 (ν := mX4_copyRule) (ci := 4) rfl rfl lk_X4_55 in_X4_copyRule se_X4_copyRule mok_X4_copyRule dX4_copyFrom_2 (hC) (by first | exact h1.1 | exact t1.1 | exact i1.1 | exact t1b.1 | exact t2b.1 | exact t2.1 | exact t2.2.2.2.1 | exact t2b.2.2.2.1 | exact va_up_self _ _ _ | (rw [va_up_ne _ _ (by omega)]; first | exact t1b.1 | exact t2b.1 | exact t1.1)) rfl rfl (by omega) (by simp) ?_
    refine px_aload_n dX4_copyFrom_5 rfl ?_
    refine px_aload_n dX4_copyFrom_6 rfl ?_
    refine px_getfield fl_X4_72 dX4_copyFrom_7 (by first | exact h1.1 | exact t1.1 | exact i1.1 | exact t1b.1 | exact t2b.1 | exact t2.1 | exact t2.2.2.2.1 | exact t2b.2.2.2.1 | exact va_up_self _ _ _ | (rw [va_up_ne _ _ (by omega)]; first | exact t1b.1 | exact t2b.1 | exact t1.1)) (by rfl) ?_
    refine px_putfield fp_X4_72 dX4_copyFrom_10 (by first | exact h1.1 | exact t1.1 | exact i1.1 | exact t1b.1 | exact t2b.1 | exact t2.1 | exact t2.2.2.2.1 | exact t2b.2.2.2.1 | exact va_up_self _ _ _ | (rw [va_up_ne _ _ (by omega)]; first | exact t1b.1 | exact t2b.1 | exact t1.1)) (nar_rf _ _) (fit_rf _ _) (by simp) ?_
    refine px_aload_n dX4_copyFrom_13 rfl ?_
    refine px_aload_n dX4_copyFrom_14 rfl ?_
    refine px_getfield fl_X4_18 dX4_copyFrom_15 (by first | exact h1.1 | exact t1.1 | exact i1.1 | exact t1b.1 | exact t2b.1 | exact t2.1 | exact t2.2.2.2.1 | exact t2b.2.2.2.1 | exact va_up_self _ _ _ | (rw [va_up_ne _ _ (by omega)]; first | exact t1b.1 | exact t2b.1 | exact t1.1)) (by rfl) ?_
    refine px_putfield fp_X4_18 dX4_copyFrom_18 (by first | exact h1.1 | exact t1.1 | exact i1.1 | exact t1b.1 | exact t2b.1 | exact t2.1 | exact t2.2.2.2.1 | exact t2b.2.2.2.1 | exact va_up_self _ _ _ | (rw [va_up_ne _ _ (by omega)]; first | exact t1b.1 | exact t2b.1 | exact t1.1)) rfl rfl (by simp) ?_
    refine px_aload_n dX4_copyFrom_21 rfl ?_
    refine px_getfield fl_X4_22 dX4_copyFrom_22 (by first | exact h1.1 | exact t1.1 | exact i1.1 | exact t1b.1 | exact t2b.1 | exact t2.1 | exact t2.2.2.2.1 | exact t2b.2.2.2.1 | exact va_up_self _ _ _ | (rw [va_up_ne _ _ (by omega)]; first | exact t1b.1 | exact t2b.1 | exact t1.1)) (by rfl) ?_
    refine px_iconst (v := 0) dX4_copyFrom_25 (by decide) ?_
    refine px_aload_n dX4_copyFrom_26 rfl ?_
    refine px_getfield fl_X4_22 dX4_copyFrom_27 (by first | exact h1.1 | exact t1.1 | exact i1.1 | exact t1b.1 | exact t2b.1 | exact t2.1 | exact t2.2.2.2.1 | exact t2b.2.2.2.1 | exact va_up_self _ _ _ | (rw [va_up_ne _ _ (by omega)]; first | exact t1b.1 | exact t2b.1 | exact t1.1)) (by rfl) ?_
    refine px_iconst (v := 0) dX4_copyFrom_30 (by decide) ?_
    refine px_bipush (v := 12) dX4_copyFrom_31 (by decide) ?_
    refine px_copyi lk_X4_59 dX4_copyFrom_33 (by first | exact h1.1 | exact t1.1 | exact i1.1 | exact t1b.1 | exact t2b.1 | exact t2.1 | exact t2.2.2.2.1 | exact t2b.2.2.2.1 | exact va_up_self _ _ _ | (rw [va_up_ne _ _ (by omega)]; first | exact t1b.1 | exact t2b.1 | exact t1.1)) (by first | exact h1.1 | exact t1.1 | exact i1.1 | exact t1b.1 | exact t2b.1 | exact t2.1 | exact t2.2.2.2.1 | exact t2b.2.2.2.1 | exact va_up_self _ _ _ | (rw [va_up_ne _ _ (by omega)]; first | exact t1b.1 | exact t2b.1 | exact t1.1)) (by decide) (by decide) (by decide) (by decide) (by decide) (by omega) (by simp) ?_
    refine px_iconst (v := 0) dX4_copyFrom_36 (by decide) ?_
    refine px_istore2 rfl dX4_copyFrom_37 ?_
    exact hE
  · have hil := (List.getElem?_eq_some_iff.mp hx).1
    rw [ecp _ _ _ (by omega), ecp _ _ _ (by omega)]
    exact i4 i x hx
  · cases tr2 with
    | none => exact i6
    | some T =>
      refine ⟨i6.1, i6.2.1, fun i x hx => ?_⟩
      have hil := (List.getElem?_eq_some_iff.mp hx).1
      have h12 := i6.1
      obtain ⟨e1, e2, p, e3, e4⟩ := i6.2.2 i x hx
      exact ⟨e1, by rw [ecp _ _ _ (by omega)]; exact e2, p, by rw [hv i (by omega)]; exact e3, ch_keep k3 _ _ e4⟩
end M28
