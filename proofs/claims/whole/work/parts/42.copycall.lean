/-! copy -/
def v_copy (A : AW) (k j : Int32) : Int32 × AW := if s_isTarget k = true ∧ s_isTarget j = true then (if (A.ru k.toNatClampNeg).isEmpty = true then (-3, A) else (nI (A.ru k.toNatClampNeg).length, A.put j.toNatClampNeg (A.ru k.toNatClampNeg) (A.rs j.toNatClampNeg) none)) else (-1, A)
section M42
variable {B : Nat} {D : va_G} {n w : Nat} {f : Nat → Option va_E} {e : Nat} {im : Bool} {A : AW} {a : Nat} {c l : Int32} {q : Option Nat} {sg fg tk : Nat → Int32} {tr : Nat → Option Nat}
theorem c_X4_copyRule_self (h : IsT f a c q l sg fg tk tr) : CT B D 1 mX4_copyRule [.ref a, .ref a] (n, w, f) none (n, w, va_up (va_up (va_up f a (some (tcell a c q l))) (a + 1) (some (.inl (0, 12, .inl (cp12 sg sg))))) (a + 2) (some (.inl (0, 12, .inl (cp12 fg fg))))) := by
  refine CT.of [some (.ref a), some (.ref a)] rfl (Nat.le_of_ble_eq_true rfl) pl_X4 trivial ?_
  refine px_aload_n dX4_copyRule_0 rfl ?_
  refine px_aload_n dX4_copyRule_1 rfl ?_
  refine px_getfield fl_X4_31 dX4_copyRule_2 (by first | exact h.1 | exact h.2.1 | exact h.2.2.1 | exact h.2.2.2.1 | exact h.2.2.2.2 | exact va_up_self _ _ _ | (rw [va_up_ne _ _ (by omega)]; first | exact h.1 | exact h.2.1 | exact h.2.2.1 | exact h.2.2.2.1 | exact h.2.2.2.2 | exact va_up_self _ _ _) | (rw [va_up_ne _ _ (by omega)]; rw [va_up_ne _ _ (by omega)]; first | exact h.1 | exact h.2.1 | exact h.2.2.1 | exact h.2.2.2.1 | exact h.2.2.2.2 | exact va_up_self _ _ _)) (by rfl) ?_
  refine px_putfield fp_X4_31 dX4_copyRule_5 (by first | exact h.1 | exact h.2.1 | exact h.2.2.1 | exact h.2.2.2.1 | exact h.2.2.2.2 | exact va_up_self _ _ _ | (rw [va_up_ne _ _ (by omega)]; first | exact h.1 | exact h.2.1 | exact h.2.2.1 | exact h.2.2.2.1 | exact h.2.2.2.2 | exact va_up_self _ _ _) | (rw [va_up_ne _ _ (by omega)]; rw [va_up_ne _ _ (by omega)]; first | exact h.1 | exact h.2.1 | exact h.2.2.1 | exact h.2.2.2.1 | exact h.2.2.2.2 | exact va_up_self _ _ _)) rfl rfl (by simp) ?_
  refine px_aload_n dX4_copyRule_8 rfl ?_
  refine px_getfield fl_X4_9 dX4_copyRule_9 (by first | exact h.1 | exact h.2.1 | exact h.2.2.1 | exact h.2.2.2.1 | exact h.2.2.2.2 | exact va_up_self _ _ _ | (rw [va_up_ne _ _ (by omega)]; first | exact h.1 | exact h.2.1 | exact h.2.2.1 | exact h.2.2.2.1 | exact h.2.2.2.2 | exact va_up_self _ _ _) | (rw [va_up_ne _ _ (by omega)]; rw [va_up_ne _ _ (by omega)]; first | exact h.1 | exact h.2.1 | exact h.2.2.1 | exact h.2.2.2.1 | exact h.2.2.2.2 | exact va_up_self _ _ _)) (by rfl) ?_
  refine px_iconst (v := 0) dX4_copyRule_12 (by decide) ?_
  refine px_aload_n dX4_copyRule_13 rfl ?_
  refine px_getfield fl_X4_9 dX4_copyRule_14 (by first | exact h.1 | exact h.2.1 | exact h.2.2.1 | exact h.2.2.2.1 | exact h.2.2.2.2 | exact va_up_self _ _ _ | (rw [va_up_ne _ _ (by omega)]; first | exact h.1 | exact h.2.1 | exact h.2.2.1 | exact h.2.2.2.1 | exact h.2.2.2.2 | exact va_up_self _ _ _) | (rw [va_up_ne _ _ (by omega)]; rw [va_up_ne _ _ (by omega)]; first | exact h.1 | exact h.2.1 | exact h.2.2.1 | exact h.2.2.2.1 | exact h.2.2.2.2 | exact va_up_self _ _ _)) (by rfl) ?_
  refine px_iconst (v := 0) dX4_copyRule_17 (by decide) ?_
  refine px_bipush (v := 12) dX4_copyRule_18 (by decide) ?_
  refine px_copyi lk_X4_59 dX4_copyRule_20 (by first | exact h.1 | exact h.2.1 | exact h.2.2.1 | exact h.2.2.2.1 | exact h.2.2.2.2 | exact va_up_self _ _ _ | (rw [va_up_ne _ _ (by omega)]; first | exact h.1 | exact h.2.1 | exact h.2.2.1 | exact h.2.2.2.1 | exact h.2.2.2.2 | exact va_up_self _ _ _) | (rw [va_up_ne _ _ (by omega)]; rw [va_up_ne _ _ (by omega)]; first | exact h.1 | exact h.2.1 | exact h.2.2.1 | exact h.2.2.2.1 | exact h.2.2.2.2 | exact va_up_self _ _ _)) (by first | exact h.1 | exact h.2.1 | exact h.2.2.1 | exact h.2.2.2.1 | exact h.2.2.2.2 | exact va_up_self _ _ _ | (rw [va_up_ne _ _ (by omega)]; first | exact h.1 | exact h.2.1 | exact h.2.2.1 | exact h.2.2.2.1 | exact h.2.2.2.2 | exact va_up_self _ _ _) | (rw [va_up_ne _ _ (by omega)]; rw [va_up_ne _ _ (by omega)]; first | exact h.1 | exact h.2.1 | exact h.2.2.1 | exact h.2.2.2.1 | exact h.2.2.2.2 | exact va_up_self _ _ _)) (by decide) (by decide) (by decide) (by decide) (by decide) (by omega) (by simp) ?_
  refine px_aload_n dX4_copyRule_23 rfl ?_
  refine px_getfield fl_X4_15 dX4_copyRule_24 (by first | exact h.1 | exact h.2.1 | exact h.2.2.1 | exact h.2.2.2.1 | exact h.2.2.2.2 | exact va_up_self _ _ _ | (rw [va_up_ne _ _ (by omega)]; first | exact h.1 | exact h.2.1 | exact h.2.2.1 | exact h.2.2.2.1 | exact h.2.2.2.2 | exact va_up_self _ _ _) | (rw [va_up_ne _ _ (by omega)]; rw [va_up_ne _ _ (by omega)]; first | exact h.1 | exact h.2.1 | exact h.2.2.1 | exact h.2.2.2.1 | exact h.2.2.2.2 | exact va_up_self _ _ _)) (by rfl) ?_
  refine px_iconst (v := 0) dX4_copyRule_27 (by decide) ?_
  refine px_aload_n dX4_copyRule_28 rfl ?_
  refine px_getfield fl_X4_15 dX4_copyRule_29 (by first | exact h.1 | exact h.2.1 | exact h.2.2.1 | exact h.2.2.2.1 | exact h.2.2.2.2 | exact va_up_self _ _ _ | (rw [va_up_ne _ _ (by omega)]; first | exact h.1 | exact h.2.1 | exact h.2.2.1 | exact h.2.2.2.1 | exact h.2.2.2.2 | exact va_up_self _ _ _) | (rw [va_up_ne _ _ (by omega)]; rw [va_up_ne _ _ (by omega)]; first | exact h.1 | exact h.2.1 | exact h.2.2.1 | exact h.2.2.2.1 | exact h.2.2.2.2 | exact va_up_self _ _ _)) (by rfl) ?_
  refine px_iconst (v := 0) dX4_copyRule_32 (by decide) ?_
  refine px_bipush (v := 12) dX4_copyRule_33 (by decide) ?_
  refine px_copyi lk_X4_59 dX4_copyRule_35 (by first | exact h.1 | exact h.2.1 | exact h.2.2.1 | exact h.2.2.2.1 | exact h.2.2.2.2 | exact va_up_self _ _ _ | (rw [va_up_ne _ _ (by omega)]; first | exact h.1 | exact h.2.1 | exact h.2.2.1 | exact h.2.2.2.1 | exact h.2.2.2.2 | exact va_up_self _ _ _) | (rw [va_up_ne _ _ (by omega)]; rw [va_up_ne _ _ (by omega)]; first | exact h.1 | exact h.2.1 | exact h.2.2.1 | exact h.2.2.2.1 | exact h.2.2.2.2 | exact va_up_self _ _ _)) (by first | exact h.1 | exact h.2.1 | exact h.2.2.1 | exact h.2.2.2.1 | exact h.2.2.2.2 | exact va_up_self _ _ _ | (rw [va_up_ne _ _ (by omega)]; first | exact h.1 | exact h.2.1 | exact h.2.2.1 | exact h.2.2.2.1 | exact h.2.2.2.2 | exact va_up_self _ _ _) | (rw [va_up_ne _ _ (by omega)]; rw [va_up_ne _ _ (by omega)]; first | exact h.1 | exact h.2.1 | exact h.2.2.1 | exact h.2.2.2.1 | exact h.2.2.2.2 | exact va_up_self _ _ _)) (by decide) (by decide) (by decide) (by decide) (by decide) (by omega) (by simp) ?_
  exact px_retv dX4_copyRule_38 rfl (by rfl)
theorem c_X4_takeRule_self (h : IsT f a c q l sg fg tk tr) : ∃ g, CT B D 2 mX4_takeRule [.ref a, .ref a] (n, w, f) none (n, w, g) ∧ IsT g a c q (-1) (cp12 sg sg) (cp12 fg fg) tk tr ∧ ∀ lo hi k, lo ≤ a → a + 5 ≤ hi → Ag f g lo hi k := by
  have h3 := IsT_rule (c2 := c) (sg2 := sg) (fg2 := fg) h _ rfl
  refine ⟨_, ?_, ⟨va_up_self _ _ _, by rw [va_up_ne _ _ (by omega)]; exact h3.2.1, by rw [va_up_ne _ _ (by omega)]; exact h3.2.2.1, by rw [va_up_ne _ _ (by omega)]; exact h3.2.2.2.1, by rw [va_up_ne _ _ (by omega)]; exact h3.2.2.2.2⟩, fun lo hi k h4 h5 => ((((Ag.rf _ _ _ _).up (by omega) (by omega)).up (by omega) (by omega)).up (by omega) (by omega)).up (by omega) (by omega)⟩
  refine CT.of [some (.ref a), some (.ref a)] rfl (Nat.le_of_ble_eq_true rfl) pl_X4 trivial ?_
  refine px_aload_n dX4_takeRule_0 rfl ?_
  refine px_aload_n dX4_takeRule_1 rfl ?_
  refine px_callV0 (ν := mX4_copyRule) (ci := 4) rfl rfl lk_X4_55 in_X4_copyRule se_X4_copyRule mok_X4_copyRule dX4_takeRule_2 (c_X4_copyRule_self h) (by first | exact h.1 | exact h3.1) rfl rfl (by omega) (by simp) ?_
  refine px_aload_n dX4_takeRule_5 rfl ?_
  refine px_callV0 (ν := mX4_dropTrace) (ci := 4) rfl rfl lk_X4_52 in_X4_dropTrace se_X4_dropTrace mok_X4_dropTrace dX4_takeRule_6 (c_X4_dropTrace h3) (by first | exact h.1 | exact h3.1) rfl rfl (by omega) (by simp) ?_
  exact px_retv dX4_takeRule_9 rfl (by rfl)
theorem cp12_in {α : Type} (x y : Nat → α) (j : Nat) (hj : j < 12) : cp12 x y j = x j := by unfold cp12 va_cpy; simp; omega
/-- a RULE taken from another TARGET, or from the same -/
theorem c_take {t u : Nat} (ht : t < 16) (hu : u < 16) (hW : IsW f a A) : ∃ (g : Nat → Option va_E) (q : Option Nat), CT B D 2 mX4_takeRule [.ref (a + 5 + 5 * u), .ref (a + 5 + 5 * t)] (n, w, f) none (n, w, g) ∧ IsTA g (a + 5 + 5 * u) (A.ru (8 + t)) (A.rs (8 + u)) none ∧ (∀ N, Ag f g (a + 5 + 5 * u) (a + 5 + 5 * u + 5) N) ∧ keeps f g ∧ g (a + 5 + 5 * u) = some (tcell (a + 5 + 5 * u) (nI (A.ru (8 + t)).length) q (-1)) := by
  obtain ⟨c, q, l, sg, fg, tk, tp, h1, h2, h3, h4, h5, h6⟩ := hW.2.2.2.2.2 u hu
  obtain ⟨c2, q2, l2, sg2, fg2, tk2, tp2, i1, i2, i3, i4, i5, i6⟩ := hW.2.2.2.2.2 t ht
  have key : ∃ g, CT B D 2 mX4_takeRule [.ref (a + 5 + 5 * u), .ref (a + 5 + 5 * t)] (n, w, f) none (n, w, g) ∧ IsT g (a + 5 + 5 * u) c2 q (-1) (cp12 sg2 sg) (cp12 fg2 fg) tk tp ∧ ∀ lo hi k, lo ≤ a + 5 + 5 * u → a + 5 + 5 * u + 5 ≤ hi → Ag f g lo hi k := by
    by_cases htu : t = u
    · subst htu
      have e1 := h1.1.symm.trans i1.1
      have e2 := h1.2.1.symm.trans i1.2.1
      have e3 := h1.2.2.1.symm.trans i1.2.2.1
      unfold tcell at e1
      cases e2
      cases e3
      have hc : c = c2 := by injection e1 with e1; injection e1 with e1; injection e1 with _ e1; injection e1 with e1; injection e1
      subst hc
      exact c_X4_takeRule_self h1
    · exact c_X4_takeRule h1 i1 (by omega)
  obtain ⟨g, hC, hT, hA⟩ := key
  have hA2 : ∀ N, Ag f g (a + 5 + 5 * u) (a + 5 + 5 * u + 5) N := fun N => hA _ _ _ (Nat.le_refl _) (Nat.le_refl _)
  have hK := ag_keeps hA2 h1
  refine ⟨g, q, hC, ⟨c2, q, -1, cp12 sg2 sg, cp12 fg2 fg, tk, tp, hT, i2, i3, fun i x hx => ?_, ⟨chO_keep hK h5.1, h5.2.keep hK⟩, rfl⟩, hA2, hK, by rw [← i3]; exact hT.1⟩
  have hil := (List.getElem?_eq_some_iff.mp hx).1
  rw [cp12_in _ _ _ (by omega), cp12_in _ _ _ (by omega)]
  exact i4 i x hx
theorem c_X6_copy (he : f e = some (ecell e im)) (hW : IsW f (e + 1 + 1) A) (hwf : wfH f n) (k j : Int32) : ∃ g : Nat → Option va_E, CT B D 5 mX6_copy [.ref e, .int k, .int j] (n, w, f) (some (.int (v_copy A k j).1)) (n, w, g) ∧ IsW g (e + 1 + 1) (v_copy A k j).2 ∧ Ch f g n n w w (e + 1 + 1) (e + 1 + 1 + 85) := by
  by_cases hk : s_isTarget k = true ∧ s_isTarget j = true
  · obtain ⟨hk1, hk2⟩ := id hk
    obtain ⟨t, ht, rfl⟩ := inT.mp hk1
    obtain ⟨u, hu, rfl⟩ := inT.mp hk2
    obtain ⟨h12, q, l, hcell⟩ := (hW.2.2.2.2.2 t ht).cell
    have hz : (nI (A.ru (8 + t)).length = 0) = ((A.ru (8 + t)).isEmpty = true) := propext ((nI_eq (a := (A.ru (8 + t)).length) (b := 0) (by omega) (by omega)).trans (by rw [List.isEmpty_iff_length_eq_zero]))
    by_cases hem : (A.ru (8 + t)).isEmpty = true
    · have h0 : v_copy A (nI (8 + t)) (nI (8 + u)) = (-3, A) := by unfold v_copy; rw [if_pos hk, clamp_lt _ (by omega), if_pos hem]
      rw [h0]
      refine ⟨f, ?_, hW, Ch.rf _ _ _ _ _⟩
      refine CT.of [some (.ref e), some (.int (nI (8 + t))), some (.int (nI (8 + u))), none, none] rfl (Nat.le_of_ble_eq_true rfl) pl_X6 trivial ?_
      refine px_aload_n dX6_copy_0 rfl ?_
      refine px_getfield fl_X6_25 dX6_copy_1 (by first | exact he | exact hW.1 | exact hcell) (by rfl) ?_
      refine px_iload_n dX6_copy_4 rfl ?_
      refine px_callV1 (ν := mX5_targetOf) (ci := 5) rfl rfl lk_X6_82 in_X5_targetOf se_X5_targetOf mok_X5_targetOf dX6_copy_5 (c_X5_targetOf hW ht) (by first | exact he | exact hW.1 | exact hcell) rfl rfl (by omega) (by simp) ?_
      refine px_astore3 rfl dX6_copy_8 ?_
      refine px_aload_n dX6_copy_9 rfl ?_
      refine px_getfield fl_X6_25 dX6_copy_10 (by first | exact he | exact hW.1 | exact hcell) (by rfl) ?_
      refine px_iload_n dX6_copy_13 rfl ?_
      refine px_callV1 (ν := mX5_targetOf) (ci := 5) rfl rfl lk_X6_82 in_X5_targetOf se_X5_targetOf mok_X5_targetOf dX6_copy_14 (c_X5_targetOf hW hu) (by first | exact he | exact hW.1 | exact hcell) rfl rfl (by omega) (by simp) ?_
      refine px_astore4 rfl dX6_copy_17 ?_
      refine px_aload_n dX6_copy_19 rfl ?_
      refine px_ifnull_f dX6_copy_20 ?_
      refine px_aload dX6_copy_23 rfl ?_
      refine px_ifnonnull_t (tgt := 30) dX6_copy_25 (by decide) ?_
      refine px_aload_n dX6_copy_30 rfl ?_
      refine px_getfield fl_X6_95 dX6_copy_31 (by first | exact he | exact hW.1 | exact hcell) (by rfl) ?_
      refine px_if_ne (tgt := 40) dX6_copy_34 (by decide) (fun hc34 => ?_) (fun hc34 => ?_)
      · exact absurd (hz.mpr hem) hc34
      · refine px_bipush (v := (-3)) dX6_copy_37 (by decide) ?_
        exact px_reti dX6_copy_39 (by rfl) (by rfl)
    · have h0 : v_copy A (nI (8 + t)) (nI (8 + u)) = (nI (A.ru (8 + t)).length, A.put (8 + u) (A.ru (8 + t)) (A.rs (8 + u)) none) := by unfold v_copy; rw [if_pos hk, clamp_lt _ (by omega), clamp_lt _ (by omega), if_neg hem]
      rw [h0]
      obtain ⟨g, q1, hC, hT, hA, hK, hg1⟩ := c_take (B := B) (D := D) (n := n) (w := w) ht hu hW
      have hwf2 := hwf.ag hA (by have := hW.top hwf; omega)
      refine ⟨g, ?_, hW.put hu (hW.top hwf) (hA n) hK hT, (hA n).wide (by omega) (by omega), hK, fun _ => hwf2, Nat.le_refl _, by omega, rfl⟩
      obtain ⟨h12u, qu, lu, hcellu⟩ := (hW.2.2.2.2.2 u hu).cell
      refine CT.of [some (.ref e), some (.int (nI (8 + t))), some (.int (nI (8 + u))), none, none] rfl (Nat.le_of_ble_eq_true rfl) pl_X6 trivial ?_
      refine px_aload_n dX6_copy_0 rfl ?_
      refine px_getfield fl_X6_25 dX6_copy_1 (by first | exact he | exact hW.1 | exact hcell | exact hg1 | exact hcellu) (by rfl) ?_
      refine px_iload_n dX6_copy_4 rfl ?_
      refine px_callV1 (ν := mX5_targetOf) (ci := 5) rfl rfl lk_X6_82 in_X5_targetOf se_X5_targetOf mok_X5_targetOf dX6_copy_5 (c_X5_targetOf hW ht) (by first | exact he | exact hW.1 | exact hcell | exact hg1 | exact hcellu) rfl rfl (by omega) (by simp) ?_
      refine px_astore3 rfl dX6_copy_8 ?_
      refine px_aload_n dX6_copy_9 rfl ?_
      refine px_getfield fl_X6_25 dX6_copy_10 (by first | exact he | exact hW.1 | exact hcell | exact hg1 | exact hcellu) (by rfl) ?_
      refine px_iload_n dX6_copy_13 rfl ?_
      refine px_callV1 (ν := mX5_targetOf) (ci := 5) rfl rfl lk_X6_82 in_X5_targetOf se_X5_targetOf mok_X5_targetOf dX6_copy_14 (c_X5_targetOf hW hu) (by first | exact he | exact hW.1 | exact hcell | exact hg1 | exact hcellu) rfl rfl (by omega) (by simp) ?_
      refine px_astore4 rfl dX6_copy_17 ?_
      refine px_aload_n dX6_copy_19 rfl ?_
      refine px_ifnull_f dX6_copy_20 ?_
      refine px_aload dX6_copy_23 rfl ?_
      refine px_ifnonnull_t (tgt := 30) dX6_copy_25 (by decide) ?_
      refine px_aload_n dX6_copy_30 rfl ?_
      refine px_getfield fl_X6_95 dX6_copy_31 (by first | exact he | exact hW.1 | exact hcell | exact hg1 | exact hcellu) (by rfl) ?_
      refine px_if_ne (tgt := 40) dX6_copy_34 (by decide) (fun hc34 => ?_) (fun hc34 => ?_)
      · refine px_aload dX6_copy_40 rfl ?_
        refine px_aload_n dX6_copy_42 rfl ?_
        refine px_callV0 (ν := mX4_takeRule) (ci := 4) rfl rfl lk_X6_101 in_X4_takeRule se_X4_takeRule mok_X4_takeRule dX6_copy_43 (hC) (by first | exact he | exact hW.1 | exact hcell | exact hg1 | exact hcellu) rfl rfl (by omega) (by simp) ?_
        refine px_aload dX6_copy_46 rfl ?_
        refine px_getfield fl_X6_95 dX6_copy_48 (by first | exact he | exact hW.1 | exact hcell | exact hg1 | exact hcellu) (by rfl) ?_
        exact px_reti dX6_copy_51 (by rfl) (by rfl)
      · exact absurd (hz.mp hc34) hem
  · have h0 : v_copy A k j = (-1, A) := by unfold v_copy; rw [if_neg hk]
    rw [h0]
    refine ⟨f, ?_, hW, Ch.rf _ _ _ _ _⟩
    by_cases hk1 : s_isTarget k = true
    · have hk2 : s_isTarget j = false := by simpa using fun z => hk ⟨hk1, z⟩
      obtain ⟨t, ht, rfl⟩ := inT.mp hk1
      refine CT.of [some (.ref e), some (.int (nI (8 + t))), some (.int j), none, none] rfl (Nat.le_of_ble_eq_true rfl) pl_X6 trivial ?_
      refine px_aload_n dX6_copy_0 rfl ?_
      refine px_getfield fl_X6_25 dX6_copy_1 (by first | exact he | exact hW.1) (by rfl) ?_
      refine px_iload_n dX6_copy_4 rfl ?_
      refine px_callV1 (ν := mX5_targetOf) (ci := 5) rfl rfl lk_X6_82 in_X5_targetOf se_X5_targetOf mok_X5_targetOf dX6_copy_5 (c_X5_targetOf hW ht) (by first | exact he | exact hW.1) rfl rfl (by omega) (by simp) ?_
      refine px_astore3 rfl dX6_copy_8 ?_
      refine px_aload_n dX6_copy_9 rfl ?_
      refine px_getfield fl_X6_25 dX6_copy_10 (by first | exact he | exact hW.1) (by rfl) ?_
      refine px_iload_n dX6_copy_13 rfl ?_
      refine px_callV1 (ν := mX5_targetOf) (ci := 5) rfl rfl lk_X6_82 in_X5_targetOf se_X5_targetOf mok_X5_targetOf dX6_copy_14 (c_X5_targetOf_n hk2) (by first | exact he | exact hW.1) rfl rfl (by omega) (by simp) ?_
      refine px_astoreN4 rfl dX6_copy_17 ?_
      refine px_aload_n dX6_copy_19 rfl ?_
      refine px_ifnull_f dX6_copy_20 ?_
      refine px_aloadN dX6_copy_23 rfl ?_
      refine px_ifnonnull_f dX6_copy_25 ?_
      refine px_iconst (v := (-1)) dX6_copy_28 (by decide) ?_
      exact px_reti dX6_copy_29 (by rfl) (by rfl)
    · have hk1' : s_isTarget k = false := by simpa using hk1
      by_cases hk2 : s_isTarget j = true
      · obtain ⟨u, hu, rfl⟩ := inT.mp hk2
        refine CT.of [some (.ref e), some (.int k), some (.int (nI (8 + u))), none, none] rfl (Nat.le_of_ble_eq_true rfl) pl_X6 trivial ?_
        refine px_aload_n dX6_copy_0 rfl ?_
        refine px_getfield fl_X6_25 dX6_copy_1 (by first | exact he | exact hW.1) (by rfl) ?_
        refine px_iload_n dX6_copy_4 rfl ?_
        refine px_callV1 (ν := mX5_targetOf) (ci := 5) rfl rfl lk_X6_82 in_X5_targetOf se_X5_targetOf mok_X5_targetOf dX6_copy_5 (c_X5_targetOf_n hk1') (by first | exact he | exact hW.1) rfl rfl (by omega) (by simp) ?_
        refine px_astoreN3 rfl dX6_copy_8 ?_
        refine px_aload_n dX6_copy_9 rfl ?_
        refine px_getfield fl_X6_25 dX6_copy_10 (by first | exact he | exact hW.1) (by rfl) ?_
        refine px_iload_n dX6_copy_13 rfl ?_
        refine px_callV1 (ν := mX5_targetOf) (ci := 5) rfl rfl lk_X6_82 in_X5_targetOf se_X5_targetOf mok_X5_targetOf dX6_copy_14 (c_X5_targetOf hW hu) (by first | exact he | exact hW.1) rfl rfl (by omega) (by simp) ?_
        refine px_astore4 rfl dX6_copy_17 ?_
        refine px_aload_nN dX6_copy_19 rfl ?_
        refine px_ifnull_t (tgt := 28) dX6_copy_20 (by decide) ?_
        refine px_iconst (v := (-1)) dX6_copy_28 (by decide) ?_
        exact px_reti dX6_copy_29 (by rfl) (by rfl)
      · have hk2' : s_isTarget j = false := by simpa using hk2
        refine CT.of [some (.ref e), some (.int k), some (.int j), none, none] rfl (Nat.le_of_ble_eq_true rfl) pl_X6 trivial ?_
        refine px_aload_n dX6_copy_0 rfl ?_
        refine px_getfield fl_X6_25 dX6_copy_1 (by first | exact he | exact hW.1) (by rfl) ?_
        refine px_iload_n dX6_copy_4 rfl ?_
        refine px_callV1 (ν := mX5_targetOf) (ci := 5) rfl rfl lk_X6_82 in_X5_targetOf se_X5_targetOf mok_X5_targetOf dX6_copy_5 (c_X5_targetOf_n hk1') (by first | exact he | exact hW.1) rfl rfl (by omega) (by simp) ?_
        refine px_astoreN3 rfl dX6_copy_8 ?_
        refine px_aload_n dX6_copy_9 rfl ?_
        refine px_getfield fl_X6_25 dX6_copy_10 (by first | exact he | exact hW.1) (by rfl) ?_
        refine px_iload_n dX6_copy_13 rfl ?_
        refine px_callV1 (ν := mX5_targetOf) (ci := 5) rfl rfl lk_X6_82 in_X5_targetOf se_X5_targetOf mok_X5_targetOf dX6_copy_14 (c_X5_targetOf_n hk2') (by first | exact he | exact hW.1) rfl rfl (by omega) (by simp) ?_
        refine px_astoreN4 rfl dX6_copy_17 ?_
        refine px_aload_nN dX6_copy_19 rfl ?_
        refine px_ifnull_t (tgt := 28) dX6_copy_20 (by decide) ?_
        refine px_iconst (v := (-1)) dX6_copy_28 (by decide) ?_
        exact px_reti dX6_copy_29 (by rfl) (by rfl)
end M42
