/-! a RULE read from THE TAPE; copies -/
def ruleOf (L : Nat) (lt : Nat → Int32) (m : Nat) : List (Int32 × Nat) := (List.range m).map (fun i => (lt (3 * i), (tp_num L lt (3 * i + 1)).toNatClampNeg))
theorem nI_nat {x : Int32} (h : ¬ x < 0) : nI x.toNatClampNeg = x := by
  obtain ⟨j, hj, rfl⟩ := nI_of h
  rw [nI_clamp hj]
section M17
variable {B : Nat} {D : va_G} {n w : Nat} {a : Nat} {A : AW}
theorem ag_keeps {f g : Nat → Option va_E} {a : Nat} {c l : Int32} {q : Option Nat} {sg fg tk : Nat → Int32} {tr : Nat → Option Nat} (hA : ∀ N, Ag f g a (a + 5) N) (h : IsT f a c q l sg fg tk tr) : keeps f g := by
  intro b fs hb
  rw [hA (b + 1) b (by omega) ?_]
  · exact hb
  · rcases Nat.lt_or_ge b a with h1 | h1
    · exact Or.inl h1
    · rcases Nat.lt_or_ge b (a + 5) with h2 | h2
      · exfalso
        rcases (show b = a ∨ b = a + 1 ∨ b = a + 2 ∨ b = a + 3 ∨ b = a + 4 by omega) with e | e | e | e | e
        · rw [e, h.1] at hb; unfold tcell at hb; cases hb
        · rw [e, h.2.1] at hb; cases hb
        · rw [e, h.2.2.1] at hb; cases hb
        · rw [e, h.2.2.2.1] at hb; cases hb
        · rw [e, h.2.2.2.2] at hb; cases hb
      · exact Or.inr h2
theorem l_X4_readRule_17 {d : Nat} (hd : 2 ≤ d) {b M L : Nat} {lt : Nat → Int32} {q : Option Nat} {l : Int32} {tk : Nat → Int32} {tr : Nat → Option Nat} (hM : M ≤ 12) (hL : L = 3 * M) (hab : a + 5 ≤ b ∨ b + 2 ≤ a) : ∀ (k i : Nat) (f : Nat → Option va_E) (sg fg : Nat → Int32), i + k = M → IsT f a (nI M) q l sg fg tk tr → IsP f b L lt → (∀ j, j < i → sg j = lt (3 * j) ∧ fg j = tp_num L lt (3 * j + 1)) →
    ∃ (g : Nat → Option va_E) (sg' fg' : Nat → Int32), EX B D d mX4_readRule 17 [some (.ref a), some (.ref b), some (.int (nI i))] [] (n, w, f) none (n, w, g) ∧ IsT g a (nI M) q (-1) sg' fg' tk tr ∧ (∀ j, j < M → sg' j = lt (3 * j) ∧ fg' j = tp_num L lt (3 * j + 1)) ∧ ∀ N, Ag f g a (a + 5) N := by
  intro k
  induction k with
  | zero =>
    intro i f sg fg hi h hp hj
    refine ⟨_, sg, fg, ?_, ⟨va_up_self f a (some (tcell a (nI M) q (-1))), by rw [va_up_ne _ _ (by omega)]; exact h.2.1, by rw [va_up_ne _ _ (by omega)]; exact h.2.2.1, by rw [va_up_ne _ _ (by omega)]; exact h.2.2.2.1, by rw [va_up_ne _ _ (by omega)]; exact h.2.2.2.2⟩, fun j h1 => hj j (by omega), fun N => (Ag.rf _ _ _ _).up (by omega) (by omega)⟩
    refine px_iload_n dX4_readRule_17 rfl ?_
    refine px_aload_n dX4_readRule_18 rfl ?_
    refine px_getfield fl_X4_31 dX4_readRule_19 (by exact h.1) (by rfl) ?_
    refine px_icmp_ge (tgt := 59) dX4_readRule_22 (by decide) (fun hc22 => ?_) (fun hc22 => ?_)
    · refine px_aload_n dX4_readRule_59 rfl ?_
      refine px_callV0 (ν := mX4_dropTrace) (ci := 4) rfl rfl lk_X4_52 in_X4_dropTrace se_X4_dropTrace mok_X4_dropTrace dX4_readRule_60 (c_X4_dropTrace h) (by exact h.1) rfl rfl (by omega) (by simp) ?_
      exact px_retv dX4_readRule_63 rfl (by rfl)
    · exact absurd (nI_le (by omega) (by omega)) hc22
  | succ k ih =>
    intro i f sg fg hi h hp hj
    have h2 : IsT (va_up (va_up f (a + 1) (some (.inl (0, 12, .inl (va_up sg i (lt (3 * i))))))) (a + 2) (some (.inl (0, 12, .inl (va_up fg i (tp_num L lt (3 * i + 1))))))) a (nI M) q l (va_up sg i (lt (3 * i))) (va_up fg i (tp_num L lt (3 * i + 1))) tk tr := ⟨by rw [va_up_ne _ _ (by omega), va_up_ne _ _ (by omega)]; exact h.1, by rw [va_up_ne _ _ (by omega), va_up_self], va_up_self _ _ _, by rw [va_up_ne _ _ (by omega), va_up_ne _ _ (by omega)]; exact h.2.2.2.1, by rw [va_up_ne _ _ (by omega), va_up_ne _ _ (by omega)]; exact h.2.2.2.2⟩
    have hp1 : IsP (va_up f (a + 1) (some (.inl (0, 12, .inl (va_up sg i (lt (3 * i))))))) b L lt := ⟨by rw [va_up_ne _ _ (by omega)]; exact hp.1, by rw [va_up_ne _ _ (by omega)]; exact hp.2.1, hp.2.2⟩
    have hp2 : IsP (va_up (va_up f (a + 1) (some (.inl (0, 12, .inl (va_up sg i (lt (3 * i))))))) (a + 2) (some (.inl (0, 12, .inl (va_up fg i (tp_num L lt (3 * i + 1))))))) b L lt := ⟨by rw [va_up_ne _ _ (by omega)]; exact hp1.1, by rw [va_up_ne _ _ (by omega)]; exact hp1.2.1, hp1.2.2⟩
    obtain ⟨g, sg', fg', hE, hT, hv, hA⟩ := ih (i + 1) _ _ _ (by omega) h2 hp2 (fun j hj2 => by
      by_cases hji : j = i
      · subst hji; exact ⟨va_up_self _ _ _, va_up_self _ _ _⟩
      · rw [va_up_ne _ _ hji, va_up_ne _ _ hji]; exact hj j (by omega))
    refine ⟨g, sg', fg', ?_, hT, hv, fun N => (((Ag.rf _ _ _ _).up (by omega) (by omega)).up (by omega) (by omega)).tra (hA N) (Nat.le_refl _)⟩
    refine px_iload_n dX4_readRule_17 rfl ?_
    refine px_aload_n dX4_readRule_18 rfl ?_
    refine px_getfield fl_X4_31 dX4_readRule_19 (by first | exact h.1 | exact h.2.1 | exact hp.1 | exact hp1.1 | (rw [va_up_ne _ _ (by omega)]; first | exact h.1 | exact h.2.2.1)) (by rfl) ?_
    refine px_icmp_ge (tgt := 59) dX4_readRule_22 (by decide) (fun hc22 => ?_) (fun hc22 => ?_)
    · exact absurd hc22 (nI_ge (by omega) (by omega))
    · refine px_aload_n dX4_readRule_25 rfl ?_
      refine px_getfield fl_X4_9 dX4_readRule_26 (by first | exact h.1 | exact h.2.1 | exact hp.1 | exact hp1.1 | (rw [va_up_ne _ _ (by omega)]; first | exact h.1 | exact h.2.2.1)) (by rfl) ?_
      refine px_iload_n dX4_readRule_29 rfl ?_
      refine px_aload_n dX4_readRule_30 rfl ?_
      refine px_iload_n dX4_readRule_31 rfl ?_
      refine px_iconst (v := 3) dX4_readRule_32 (by decide) ?_
      refine px_imul dX4_readRule_33 ?_
      rw [show nI i * 3 = nI (3 * i) by rw [show (3 : Int32) = nI 3 from rfl, pk_mul, Nat.mul_comm]]
      refine px_callV1 (ν := mX3_letterAt) (ci := 3) rfl rfl lk_X4_45 in_X3_letterAt se_X3_letterAt mok_X3_letterAt dX4_readRule_34 (c_X3_letterAt (k := 3 * i) hp (by omega)) (by first | exact h.1 | exact h.2.1 | exact hp.1 | exact hp1.1 | (rw [va_up_ne _ _ (by omega)]; first | exact h.1 | exact h.2.2.1)) rfl rfl (by omega) (by simp) ?_
      rw [show tp_la L lt (3 * i) = lt (3 * i) from if_pos (by omega)]
      refine px_iastore dX4_readRule_37 (by first | exact h.1 | exact h.2.1 | exact hp.1 | exact hp1.1 | (rw [va_up_ne _ _ (by omega)]; first | exact h.1 | exact h.2.2.1)) (by exact ixn (by omega) (by omega)) ?_
      rw [nI_clamp (show i < 2 ^ 31 by omega)]
      refine px_aload_n dX4_readRule_38 rfl ?_
      refine px_getfield fl_X4_15 dX4_readRule_39 (by first | exact h.1 | exact h.2.1 | exact hp.1 | exact hp1.1 | (rw [va_up_ne _ _ (by omega)]; first | exact h.1 | exact h.2.2.1)) (by rfl) ?_
      refine px_iload_n dX4_readRule_42 rfl ?_
      refine px_aload_n dX4_readRule_43 rfl ?_
      refine px_iload_n dX4_readRule_44 rfl ?_
      refine px_iconst (v := 3) dX4_readRule_45 (by decide) ?_
      refine px_imul dX4_readRule_46 ?_
      refine px_iconst (v := 1) dX4_readRule_47 (by decide) ?_
      refine px_iadd dX4_readRule_48 ?_
      rw [show nI i * 3 + 1 = nI (3 * i + 1) by rw [show (3 : Int32) = nI 3 from rfl, pk_mul, nI_1, Nat.mul_comm]]
      refine px_callV1 (ν := mX3_numberAt) (ci := 3) rfl rfl lk_X4_49 in_X3_numberAt se_X3_numberAt mok_X3_numberAt dX4_readRule_49 (c_X3_numberAt (k := 3 * i + 1) hp1 (by omega)) (by first | exact h.1 | exact h.2.1 | exact hp.1 | exact hp1.1 | (rw [va_up_ne _ _ (by omega)]; first | exact h.1 | exact h.2.2.1)) rfl rfl (by omega) (by simp) ?_
      refine px_iastore dX4_readRule_52 (by first | exact h.1 | exact h.2.1 | exact hp.1 | exact hp1.1 | (rw [va_up_ne _ _ (by omega)]; first | exact h.1 | exact h.2.2.1)) (by exact ixn (by omega) (by omega)) ?_
      rw [nI_clamp (show i < 2 ^ 31 by omega)]
      refine px_iinc2 rfl (nI_inc i) dX4_readRule_53 ?_
      refine px_goto (tgt := 17) dX4_readRule_56 (by decide) ?_
      exact hE
theorem c_X4_readRule {f : Nat → Option va_E} {b M L : Nat} {lt : Nat → Int32} {ru rs tr} (hM : M ≤ 12) (hL : L = 3 * M) (hab : a + 5 ≤ b ∨ b + 2 ≤ a) (h : IsTA f a ru rs tr) (hp : IsP f b L lt) (hfig : ∀ j, j < M → ¬ tp_num L lt (3 * j + 1) < 0) : ∃ g, CT B D 2 mX4_readRule [.ref a, .ref b] (n, w, f) none (n, w, g) ∧ IsTA g a (ruleOf L lt M) rs none ∧ (∀ N, Ag f g a (a + 5) N) ∧ keeps f g := by
  obtain ⟨c, q, l, sg, fg, tk, tp, h1, h2, h3, h4, h5, h6⟩ := h
  have hmin : (if (12 : Int32) < nI M then (12 : Int32) else nI M) = nI M := if_neg (nI_nlt (a := 12) (b := M) (by omega) (by omega))
  have hdiv : nI L / 3 = nI M := by rw [show (3 : Int32) = nI 3 from rfl, pk_div (by omega) (by omega) (by omega)]; congr 1; omega
  have h1' : IsT (va_up f a (some (tcell a (nI M) q l))) a (nI M) q l sg fg tk tp := ⟨va_up_self _ _ _, by rw [va_up_ne _ _ (by omega)]; exact h1.2.1, by rw [va_up_ne _ _ (by omega)]; exact h1.2.2.1, by rw [va_up_ne _ _ (by omega)]; exact h1.2.2.2.1, by rw [va_up_ne _ _ (by omega)]; exact h1.2.2.2.2⟩
  have hp' : IsP (va_up f a (some (tcell a (nI M) q l))) b L lt := ⟨by rw [va_up_ne _ _ (by omega)]; exact hp.1, by rw [va_up_ne _ _ (by omega)]; exact hp.2.1, hp.2.2⟩
  obtain ⟨g, sg', fg', hE, hT, hv, hA⟩ := l_X4_readRule_17 (B := B) (D := D) (n := n) (w := w) (d := 2) (by omega) hM hL hab M 0 _ sg fg (by omega) h1' hp' (fun j hj => by omega)
  have hAg : ∀ N, Ag f g a (a + 5) N := fun N => ((Ag.rf _ _ _ _).up (by omega) (by omega)).tra (hA N) (Nat.le_refl _)
  have hk : keeps f g := ag_keeps hAg h1
  refine ⟨g, ?_, ⟨nI M, q, -1, sg', fg', tk, tp, hT, by simp [ruleOf]; exact hM, by simp [ruleOf], fun i x hx => ?_, ⟨chO_keep hk h5.1, h5.2.keep hk⟩, rfl⟩, hAg, hk⟩
  · refine CT.of [some (.ref a), some (.ref b), none] rfl (Nat.le_of_ble_eq_true rfl) pl_X4 trivial ?_
    refine px_aload_n dX4_readRule_0 rfl ?_
    refine px_aload_n dX4_readRule_1 rfl ?_
    refine px_getfield fl_X4_34 dX4_readRule_2 (by first | exact h1.1 | exact hp.1) (by rfl) ?_
    refine px_iconst (v := 3) dX4_readRule_5 (by decide) ?_
    refine px_idiv dX4_readRule_6 (by decide) ?_
    refine px_bipush (v := 12) dX4_readRule_7 (by decide) ?_
    rw [hdiv]
    refine px_mmin lk_X4_39 (by omega) (by simp) dX4_readRule_9 ?_
    rw [hmin]
    refine px_putfield fp_X4_31 dX4_readRule_12 (by first | exact h1.1 | exact hp.1) rfl rfl (by simp) ?_
    refine px_iconst (v := 0) dX4_readRule_15 (by decide) ?_
    refine px_istore2 rfl dX4_readRule_16 ?_
    exact hE
  · simp only [ruleOf, List.getElem?_map, List.getElem?_range'] at hx
    rcases Nat.lt_or_ge i M with hi | hi
    · rw [List.getElem?_range hi] at hx
      simp at hx
      subst hx
      exact ⟨(hv i hi).1, by rw [(hv i hi).2]; exact (nI_nat (hfig i hi)).symm⟩
    · rw [List.getElem?_eq_none (by simp; exact hi)] at hx
      simp at hx
end M17
