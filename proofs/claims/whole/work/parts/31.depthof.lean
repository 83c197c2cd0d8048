/-! World.depthOf -/
theorem nI_max {a b : Nat} (ha : a < 2 ^ 31) (hb : b < 2 ^ 31) : (if nI a < nI b then nI b else nI a) = nI (max a b) := by
  by_cases h : a < b
  · rw [if_pos ((nI_ltI ha hb).mpr h)]; congr 1; omega
  · rw [if_neg (fun e => h ((nI_ltI ha hb).mp e))]; congr 1; omega
/-- the array of the depths -/
def IsD (f : Nat → Option va_E) (a : Nat) (E : Nat → Nat) : Prop := ∃ dp : Nat → Int32, f (a + 4) = some (.inl (0, 24, .inl dp)) ∧ ∀ k, k < 24 → dp k = nI (E k)
theorem IsW.dp {f : Nat → Option va_E} {a : Nat} {A : AW} (h : IsW f a A) (dp' : Nat → Int32) : IsW (va_up f (a + 4) (some (.inl (0, 24, .inl dp')))) a A ∧ keeps f (va_up f (a + 4) (some (.inl (0, 24, .inl dp')))) ∧ ∀ N, Ag f (va_up f (a + 4) (some (.inl (0, 24, .inl dp')))) (a + 4) (a + 5) N := by
  obtain ⟨h1, ⟨ct, h2, h2'⟩, ⟨tg, h3, h3'⟩, ⟨em, h4, h4'⟩, ⟨dp, h5⟩, h6⟩ := h
  have hk : keeps f (va_up f (a + 4) (some (.inl (0, 24, .inl dp')))) := keeps_at h5 (fun fs e => by cases e)
  have hA : ∀ N, Ag f (va_up f (a + 4) (some (.inl (0, 24, .inl dp')))) (a + 4) (a + 5) N := fun N => (Ag.rf _ _ _ _).up (by omega) (by omega)
  refine ⟨⟨?_, ⟨ct, ?_, fun k hk' => chO_keep hk (h2' k hk')⟩, ⟨tg, ?_, h3'⟩, ⟨em, ?_, fun k hk' => ?_⟩, ⟨dp', va_up_self _ _ _⟩, fun t ht => (h6 t ht).ag (hA (a + 5 + 5 * t + 5)) (by omega) (by omega) hk⟩, hk, hA⟩
  · rw [va_up_ne _ _ (by omega)]; exact h1
  · rw [va_up_ne _ _ (by omega)]; exact h2
  · rw [va_up_ne _ _ (by omega)]; exact h3
  · rw [va_up_ne _ _ (by omega)]; exact h4
  · obtain ⟨p, g1, g2⟩ := h4' k hk'; exact ⟨p, g1, ch_keep hk _ _ g2⟩
section M31
variable {B : Nat} {D : va_G} {n w : Nat} {f : Nat → Option va_E} {a : Nat} {A : AW} {E : Nat → Nat}
theorem l_X5_depthByTrace_18 {d x : Nat} (hd : 1 ≤ d) {ru rs} {T : aAcc} (hW : IsW f a A) (hE : IsD f a E) (hb : ∀ k, k < 24 → E k ≤ 16) (hT : IsTA f x ru rs (some T)) : ∀ (U : aAcc) (i g : Nat) (z : Option Value), i ≤ T.length → T.drop i = U → g ≤ 16 → EX B D d mX5_depthByTrace 18 [some (.ref a), some (.ref x), some (.int (nI g)), some (.int (nI i)), z] [] (n, w, f) (some (.int (nI (max g (aMx E U) + 1)))) (n, w, f) := by
  obtain ⟨h12, c, q, hcell⟩ := hT.tlen
  obtain ⟨dp, hdp, hdE⟩ := hE
  intro U
  induction U with
  | nil =>
    intro i g z hi hU hg
    have hi2 : T.length ≤ i := by have := congrArg List.length hU; rw [List.length_drop] at this; simp at this; omega
    have hi3 : i = T.length := by omega
    subst hi3
    have e0 : max g (aMx E []) + 1 = g + 1 := by show max g 0 + 1 = g + 1; omega
    rw [e0]
    refine px_iload_n dX5_depthByTrace_18 rfl ?_
    refine px_aload_n dX5_depthByTrace_19 rfl ?_
    refine px_getfield fl_X5_95 dX5_depthByTrace_20 (by exact hcell) (by rfl) ?_
    refine px_icmp_ge (tgt := 59) dX5_depthByTrace_23 (by decide) (fun hc23 => ?_) (fun hc23 => ?_)
    · refine px_iload_n dX5_depthByTrace_59 rfl ?_
      refine px_iconst (v := 1) dX5_depthByTrace_60 (by decide) ?_
      refine px_iadd dX5_depthByTrace_61 ?_
      exact px_reti dX5_depthByTrace_62 (by rw [nI_succ]) (by rfl)
    · exact absurd (nI_le (Nat.le_refl _) (by omega)) hc23
  | cons y U ih =>
    obtain ⟨k, r⟩ := y
    intro i g z hi hU hg
    have hx : T[i]? = some (k, r) := by rw [← List.head?_drop, hU]; rfl
    have hilt : i < T.length := (List.getElem?_eq_some_iff.mp hx).1
    have hU2 : T.drop (i + 1) = U := by rw [← List.tail_drop, hU]; rfl
    obtain ⟨hk24, hkey⟩ := hT.tkey (B := B) (D := D) (n := n) (w := w) hx
    dsimp only at hk24 hkey
    have hbk := hb k hk24
    have e1 : max g (aMx E ((k, r) :: U)) = max (max g (E k)) (aMx E U) := by show max g (max (E k) (aMx E U)) = _; omega
    rw [e1]
    have hI := ih (i + 1) (max g (E k)) (some (.int (nI k))) (by omega) hU2 (by omega)
    refine px_iload_n dX5_depthByTrace_18 rfl ?_
    refine px_aload_n dX5_depthByTrace_19 rfl ?_
    refine px_getfield fl_X5_95 dX5_depthByTrace_20 (by first | exact hcell | exact hW.1 | exact hdp) (by rfl) ?_
    refine px_icmp_ge (tgt := 59) dX5_depthByTrace_23 (by decide) (fun hc23 => ?_) (fun hc23 => ?_)
    · exact absurd hc23 (nI_ge (by omega) (by omega))
    · refine px_aload_n dX5_depthByTrace_26 rfl ?_
      refine px_iload_n dX5_depthByTrace_27 rfl ?_
      refine px_callV1 (ν := mX4_tracedKey) (ci := 4) rfl rfl lk_X5_98 in_X4_tracedKey se_X4_tracedKey mok_X4_tracedKey dX5_depthByTrace_28 (hkey) (by first | exact hcell | exact hW.1 | exact hdp) rfl rfl (by omega) (by simp) ?_
      refine px_istore4 rfl dX5_depthByTrace_31 ?_
      refine px_iload dX5_depthByTrace_33 rfl ?_
      refine px_callSN1 (ν := mX6_isKey) lk_X5_53 st_X6_isKey mok_X6_isKey dX5_depthByTrace_35 (c_X6_isKey _) rfl rfl (by omega) (by simp) ?_
      refine px_ifb_eq (tgt := 53) dX5_depthByTrace_38 (by decide) (fun hc38 => ?_) (fun hc38 => ?_)
      · rw [inK_k hk24] at hc38; cases hc38
      · refine px_iload_n dX5_depthByTrace_41 rfl ?_
        refine px_aload_n dX5_depthByTrace_42 rfl ?_
        refine px_getfield fl_X5_26 dX5_depthByTrace_43 (by first | exact hcell | exact hW.1 | exact hdp) (by rfl) ?_
        refine px_iload dX5_depthByTrace_46 rfl ?_
        refine px_iaload dX5_depthByTrace_48 (by first | exact hcell | exact hW.1 | exact hdp) (by exact ixn (by omega) (by omega)) ?_
        rw [nI_clamp (show k < 2 ^ 31 by omega), hdE k hk24]
        refine px_mmax lk_X5_122 (by omega) (by simp) dX5_depthByTrace_49 ?_
        rw [nI_max (by omega) (by omega)]
        refine px_istore2 rfl dX5_depthByTrace_52 ?_
        refine px_iinc3 rfl (nI_inc i) dX5_depthByTrace_53 ?_
        refine px_goto (tgt := 18) dX5_depthByTrace_56 (by decide) ?_
        exact hI
theorem c_X5_depthByTrace {x : Nat} {ru rs tr} (hW : IsW f a A) (hE : IsD f a E) (hb : ∀ k, k < 24 → E k ≤ 16) (hT : IsTA f x ru rs tr) : CT B D 1 mX5_depthByTrace [.ref a, .ref x] (n, w, f) (some (.int (nI (aDe E tr)))) (n, w, f) := by
  match tr, hT with
  | none, hT =>
    obtain ⟨c, q, l, sg, fg, tk, tp, h1, h2, h3, h4, h5, h6⟩ := id hT
    subst h6
    refine CT.of [some (.ref a), some (.ref x), none, none, none] rfl (Nat.le_of_ble_eq_true rfl) pl_X5 trivial ?_
    refine px_aload_n dX5_depthByTrace_0 rfl ?_
    refine px_ifnull_f dX5_depthByTrace_1 ?_
    refine px_aload_n dX5_depthByTrace_4 rfl ?_
    refine px_getfield fl_X5_95 dX5_depthByTrace_5 (by exact h1.1) (by rfl) ?_
    refine px_iconst (v := 1) dX5_depthByTrace_8 (by decide) ?_
    refine px_icmp_ge (tgt := 14) dX5_depthByTrace_9 (by decide) (fun hc9 => ?_) (fun hc9 => ?_)
    · exact absurd hc9 (by decide)
    · refine px_iconst (v := 0) dX5_depthByTrace_12 (by decide) ?_
      exact px_reti dX5_depthByTrace_13 (by rfl) (by rfl)
  | some [], hT =>
    obtain ⟨h12, c, q, hcell⟩ := hT.tlen
    refine CT.of [some (.ref a), some (.ref x), none, none, none] rfl (Nat.le_of_ble_eq_true rfl) pl_X5 trivial ?_
    refine px_aload_n dX5_depthByTrace_0 rfl ?_
    refine px_ifnull_f dX5_depthByTrace_1 ?_
    refine px_aload_n dX5_depthByTrace_4 rfl ?_
    refine px_getfield fl_X5_95 dX5_depthByTrace_5 (by exact hcell) (by rfl) ?_
    refine px_iconst (v := 1) dX5_depthByTrace_8 (by decide) ?_
    refine px_icmp_ge (tgt := 14) dX5_depthByTrace_9 (by decide) (fun hc9 => ?_) (fun hc9 => ?_)
    · exact absurd hc9 (show ¬ (1 : Int32) ≤ nI 0 by decide)
    · refine px_iconst (v := 0) dX5_depthByTrace_12 (by decide) ?_
      exact px_reti dX5_depthByTrace_13 (by rfl) (by rfl)
  | some (y :: U), hT =>
    obtain ⟨h12, c, q, hcell⟩ := hT.tlen
    have hL := l_X5_depthByTrace_18 (B := B) (D := D) (n := n) (w := w) (d := 1) (Nat.le_refl _) hW hE hb hT (y :: U) 0 0 none (Nat.zero_le _) rfl (Nat.zero_le _)
    have e0 : max 0 (aMx E (y :: U)) + 1 = aDe E (some (y :: U)) := by show max 0 (aMx E (y :: U)) + 1 = aMx E (y :: U) + 1; omega
    rw [e0] at hL
    have h1n : (1 : Int32) ≤ nI (y :: U).length := nI_le (a := 1) (Nat.succ_le_succ (Nat.zero_le _)) (by omega)
    refine CT.of [some (.ref a), some (.ref x), none, none, none] rfl (Nat.le_of_ble_eq_true rfl) pl_X5 trivial ?_
    refine px_aload_n dX5_depthByTrace_0 rfl ?_
    refine px_ifnull_f dX5_depthByTrace_1 ?_
    refine px_aload_n dX5_depthByTrace_4 rfl ?_
    refine px_getfield fl_X5_95 dX5_depthByTrace_5 (by exact hcell) (by rfl) ?_
    refine px_iconst (v := 1) dX5_depthByTrace_8 (by decide) ?_
    refine px_icmp_ge (tgt := 14) dX5_depthByTrace_9 (by decide) (fun hc9 => ?_) (fun hc9 => ?_)
    · refine px_iconst (v := 0) dX5_depthByTrace_14 (by decide) ?_
      refine px_istore2 rfl dX5_depthByTrace_15 ?_
      refine px_iconst (v := 0) dX5_depthByTrace_16 (by decide) ?_
      refine px_istore3 rfl dX5_depthByTrace_17 ?_
      exact hL
    · exact absurd h1n hc9
theorem l_X5_deepenAll_4 {d : Nat} (hd : 2 ≤ d) (hok : trOk A.tr) (hno : noRing A.tr) : ∀ (k : Nat) (E : Nat → Nat) (b : Bool) (f : Nat → Option va_E) (z : Option Value), k ≤ 16 → IsW f a A → IsD f a E → (∀ j, j < 24 → E j ≤ aDep A.tr j) → ∃ g : Nat → Option va_E, EX B D d mX5_deepenAll 4 [some (.ref a), some (.int (bi b)), some (.int (nI (16 - k))), z] [] (n, w, f) (some (.int (bi (aDps A.tr k E b).2))) (n, w, g) ∧ IsW g a A ∧ IsD g a (aDps A.tr k E b).1 ∧ keeps f g ∧ (∀ N, Ag f g (a + 4) (a + 5) N) := by
  intro k
  induction k with
  | zero =>
    intro E b f z _ hW hE hb
    refine ⟨f, ?_, hW, hE, keeps_rf _, fun N => Ag.rf _ _ _ _⟩
    refine px_iload_n dX5_deepenAll_4 rfl ?_
    refine px_bipush (v := 16) dX5_deepenAll_5 (by decide) ?_
    refine px_icmp_ge (tgt := 52) dX5_deepenAll_7 (by decide) (fun hc7 => ?_) (fun hc7 => ?_)
    · refine px_iload_n dX5_deepenAll_52 rfl ?_
      exact px_reti dX5_deepenAll_53 (by rfl) (by rfl)
    · exact absurd (show (16 : Int32) ≤ nI (16 - 0) by decide) hc7
  | succ k ih =>
    intro E b f z hk hW hE hb
    obtain ⟨t, ht, hkt⟩ : ∃ t, t < 16 ∧ 15 - k = t := ⟨15 - k, by omega, rfl⟩
    have e1 : 16 - (k + 1) = t := by omega
    have e2 : 16 - k = t + 1 := by omega
    have hinc : nI t + Int32.ofInt 1 = nI (16 - k) := by rw [nI_inc, e2]
    have h16 : ¬ (16 : Int32) ≤ nI t := nI_ge (b := 16) (by omega) (by omega)
    have h8t : (8 : Int32) + nI t = nI (8 + t) := nI_add 8 t
    obtain ⟨w1, -, ⟨tg, w2, w2'⟩, -, -, w6⟩ := id hW
    have hb16 : ∀ j, j < 24 → E j ≤ 16 := fun j hj => Nat.le_trans (hb j hj) (aDp_b _ _ _)
    have hC := c_X5_depthByTrace (B := B) (D := D) (n := n) (w := w) hW hE hb16 (w6 t ht)
    obtain ⟨dp, hdp, hdE⟩ := id hE
    have hle := dLe (E := E) hok ht (fun t ht => aDep_eq hok hno ht) hb
    have hle2 : aDep A.tr (8 + t) ≤ 16 := aDp_b _ _ _
    have hE8 := hb16 (8 + t) (by omega)
    rw [e1]
    by_cases hlt : E (8 + t) < aDe E (A.tr (8 + t))
    · have ez : aDps A.tr (k + 1) E b = aDps A.tr k (va_up E (8 + t) (aDe E (A.tr (8 + t)))) true := by rw [aDps, hkt, if_pos hlt]
      obtain ⟨i1, i2, i3⟩ := hW.dp (va_up dp (8 + t) (nI (aDe E (A.tr (8 + t)))))
      obtain ⟨g, hX, g1, g2, g3, g4⟩ := ih (va_up E (8 + t) (aDe E (A.tr (8 + t)))) true _ (some (.int (nI (aDe E (A.tr (8 + t)))))) (by omega) i1 ⟨_, va_up_self _ _ _, fun j hj => by
        by_cases e : j = 8 + t
        · subst e; rw [va_up_self, va_up_self]
        · rw [va_up_ne _ _ e, va_up_ne _ _ e]; exact hdE j hj⟩ (fun j hj => by
        by_cases e : j = 8 + t
        · subst e; rw [va_up_self]; exact hle
        · rw [va_up_ne _ _ e]; exact hb j hj)
      rw [ez]
      refine ⟨g, ?_, g1, g2, keeps_tr i2 g3, fun N => (i3 N).tra (g4 N) (Nat.le_refl _)⟩
      refine px_iload_n dX5_deepenAll_4 rfl ?_
      refine px_bipush (v := 16) dX5_deepenAll_5 (by decide) ?_
      refine px_icmp_ge (tgt := 52) dX5_deepenAll_7 (by decide) (fun hc7 => ?_) (fun hc7 => ?_)
      · exact absurd hc7 h16
      · refine px_aload_n dX5_deepenAll_10 rfl ?_
        refine px_aload_n dX5_deepenAll_11 rfl ?_
        refine px_getfield fl_X5_19 dX5_deepenAll_12 (by first | exact w1 | exact w2 | exact hdp) (by rfl) ?_
        refine px_iload_n dX5_deepenAll_15 rfl ?_
        refine px_aaload rfl dX5_deepenAll_16 (by first | exact w1 | exact w2 | exact hdp) (by decide) (by first | exact ixn ht (by omega) | exact ixn (by omega) (by omega)) ?_
        rw [nI_clamp (show t < 2 ^ 31 by omega), w2' t ht]
        refine px_callV1 (ν := mX5_depthByTrace) (ci := 5) rfl rfl lk_X5_118 in_X5_depthByTrace se_X5_depthByTrace mok_X5_depthByTrace dX5_deepenAll_17 (hC) (by first | exact w1 | exact w2 | exact hdp) rfl rfl (by omega) (by simp) ?_
        refine px_istore3 rfl dX5_deepenAll_20 ?_
        refine px_iload_n dX5_deepenAll_21 rfl ?_
        refine px_aload_n dX5_deepenAll_22 rfl ?_
        refine px_getfield fl_X5_26 dX5_deepenAll_23 (by first | exact w1 | exact w2 | exact hdp) (by rfl) ?_
        refine px_bipush (v := 8) dX5_deepenAll_26 (by decide) ?_
        refine px_iload_n dX5_deepenAll_28 rfl ?_
        refine px_iadd dX5_deepenAll_29 ?_
        rw [h8t]
        refine px_iaload dX5_deepenAll_30 (by first | exact w1 | exact w2 | exact hdp) (by first | exact ixn ht (by omega) | exact ixn (by omega) (by omega)) ?_
        rw [nI_clamp (show 8 + t < 2 ^ 31 by omega), hdE (8 + t) (by omega)]
        refine px_icmp_le (tgt := 46) dX5_deepenAll_31 (by decide) (fun hc31 => ?_) (fun hc31 => ?_)
        · exact absurd ((nI_leI (by omega) (by omega)).mp hc31) (by omega)
        · refine px_aload_n dX5_deepenAll_34 rfl ?_
          refine px_getfield fl_X5_26 dX5_deepenAll_35 (by first | exact w1 | exact w2 | exact hdp) (by rfl) ?_
          refine px_bipush (v := 8) dX5_deepenAll_38 (by decide) ?_
          refine px_iload_n dX5_deepenAll_40 rfl ?_
          refine px_iadd dX5_deepenAll_41 ?_
          rw [h8t]
          refine px_iload_n dX5_deepenAll_42 rfl ?_
          refine px_iastore dX5_deepenAll_43 (by first | exact w1 | exact w2 | exact hdp) (by first | exact ixn ht (by omega) | exact ixn (by omega) (by omega)) ?_
          rw [nI_clamp (show 8 + t < 2 ^ 31 by omega)]
          refine px_iconst (v := 1) dX5_deepenAll_44 (by decide) ?_
          refine px_istore1 rfl dX5_deepenAll_45 ?_
          refine px_iinc2 rfl hinc dX5_deepenAll_46 ?_
          refine px_goto (tgt := 4) dX5_deepenAll_49 (by decide) ?_
          exact hX
    · have ez : aDps A.tr (k + 1) E b = aDps A.tr k E b := by rw [aDps, hkt, if_neg hlt]
      obtain ⟨g, hX, g1, g2, g3, g4⟩ := ih E b f (some (.int (nI (aDe E (A.tr (8 + t)))))) (by omega) hW hE hb
      rw [ez]
      refine ⟨g, ?_, g1, g2, g3, g4⟩
      refine px_iload_n dX5_deepenAll_4 rfl ?_
      refine px_bipush (v := 16) dX5_deepenAll_5 (by decide) ?_
      refine px_icmp_ge (tgt := 52) dX5_deepenAll_7 (by decide) (fun hc7 => ?_) (fun hc7 => ?_)
      · exact absurd hc7 h16
      · refine px_aload_n dX5_deepenAll_10 rfl ?_
        refine px_aload_n dX5_deepenAll_11 rfl ?_
        refine px_getfield fl_X5_19 dX5_deepenAll_12 (by first | exact w1 | exact w2 | exact hdp) (by rfl) ?_
        refine px_iload_n dX5_deepenAll_15 rfl ?_
        refine px_aaload rfl dX5_deepenAll_16 (by first | exact w1 | exact w2 | exact hdp) (by decide) (by first | exact ixn ht (by omega) | exact ixn (by omega) (by omega)) ?_
        rw [nI_clamp (show t < 2 ^ 31 by omega), w2' t ht]
        refine px_callV1 (ν := mX5_depthByTrace) (ci := 5) rfl rfl lk_X5_118 in_X5_depthByTrace se_X5_depthByTrace mok_X5_depthByTrace dX5_deepenAll_17 (hC) (by first | exact w1 | exact w2 | exact hdp) rfl rfl (by omega) (by simp) ?_
        refine px_istore3 rfl dX5_deepenAll_20 ?_
        refine px_iload_n dX5_deepenAll_21 rfl ?_
        refine px_aload_n dX5_deepenAll_22 rfl ?_
        refine px_getfield fl_X5_26 dX5_deepenAll_23 (by first | exact w1 | exact w2 | exact hdp) (by rfl) ?_
        refine px_bipush (v := 8) dX5_deepenAll_26 (by decide) ?_
        refine px_iload_n dX5_deepenAll_28 rfl ?_
        refine px_iadd dX5_deepenAll_29 ?_
        rw [h8t]
        refine px_iaload dX5_deepenAll_30 (by first | exact w1 | exact w2 | exact hdp) (by first | exact ixn ht (by omega) | exact ixn (by omega) (by omega)) ?_
        rw [nI_clamp (show 8 + t < 2 ^ 31 by omega), hdE (8 + t) (by omega)]
        refine px_icmp_le (tgt := 46) dX5_deepenAll_31 (by decide) (fun hc31 => ?_) (fun hc31 => ?_)
        · refine px_iinc2 rfl hinc dX5_deepenAll_46 ?_
          refine px_goto (tgt := 4) dX5_deepenAll_49 (by decide) ?_
          exact hX
        · exact absurd ((nI_leI (by omega) (by omega)).mpr (by omega)) hc31
theorem c_X5_deepenAll (hok : trOk A.tr) (hno : noRing A.tr) (hW : IsW f a A) (hE : IsD f a E) (hb : ∀ j, j < 24 → E j ≤ aDep A.tr j) : ∃ g : Nat → Option va_E, CT B D 2 mX5_deepenAll [.ref a] (n, w, f) (some (.int (bi (aDps A.tr 16 E false).2))) (n, w, g) ∧ IsW g a A ∧ IsD g a (aDps A.tr 16 E false).1 ∧ keeps f g ∧ (∀ N, Ag f g (a + 4) (a + 5) N) := by
  obtain ⟨g, hX, hr⟩ := l_X5_deepenAll_4 (B := B) (D := D) (n := n) (w := w) (d := 2) (Nat.le_refl _) hok hno 16 E false f none (Nat.le_refl _) hW hE hb
  refine ⟨g, ?_, hr⟩
  refine CT.of [some (.ref a), none, none, none] rfl (Nat.le_of_ble_eq_true rfl) pl_X5 (bi_01 _) ?_
  refine px_iconst (v := 0) dX5_deepenAll_0 (by decide) ?_
  refine px_istore1 rfl dX5_deepenAll_1 ?_
  refine px_iconst (v := 0) dX5_deepenAll_2 (by decide) ?_
  refine px_istore2 rfl dX5_deepenAll_3 ?_
  exact hX
theorem l_X5_depthOf_33 {d k : Nat} (hd : 1 ≤ d) (hk : k < 24) (hW : IsW f a A) (hE : IsD f a E) (y z : Option Value) : EX B D d mX5_depthOf 33 [some (.ref a), some (.int (nI k)), y, z] [] (n, w, f) (some (.int (nI (E k)))) (n, w, f) := by
  obtain ⟨dp, hdp, hdE⟩ := hE
  refine px_iload_n dX5_depthOf_33 rfl ?_
  refine px_callSN1 (ν := mX6_isKey) lk_X5_53 st_X6_isKey mok_X6_isKey dX5_depthOf_34 (c_X6_isKey _) rfl rfl (by omega) (by simp) ?_
  refine px_ifb_eq (tgt := 49) dX5_depthOf_37 (by decide) (fun hc37 => ?_) (fun hc37 => ?_)
  · rw [inK_k hk] at hc37; cases hc37
  · refine px_aload_n dX5_depthOf_40 rfl ?_
    refine px_getfield fl_X5_26 dX5_depthOf_41 (by first | exact hW.1 | exact hdp) (by rfl) ?_
    refine px_iload_n dX5_depthOf_44 rfl ?_
    refine px_iaload dX5_depthOf_45 (by first | exact hW.1 | exact hdp) (by exact ixn hk (by omega)) ?_
    refine px_goto (tgt := 50) dX5_depthOf_46 (by decide) ?_
    exact px_reti dX5_depthOf_50 (by rw [nI_clamp (by omega), hdE k hk]) (by rfl)
theorem l_X5_depthOf_12 {d k : Nat} (hd : 3 ≤ d) (hk : k < 24) (hok : trOk A.tr) (hno : noRing A.tr) : ∀ (m : Nat) (E : Nat → Nat) (f : Nat → Option va_E), m ≤ 16 → IsW f a A → IsD f a E → (∀ j, j < 24 → E j ≤ aDep A.tr j) → ∃ g : Nat → Option va_E, EX B D d mX5_depthOf 12 [some (.ref a), some (.int (nI k)), some (.int (bi true)), some (.int (nI (16 - m)))] [] (n, w, f) (some (.int (nI (aDrs A.tr m E k)))) (n, w, g) ∧ IsW g a A ∧ keeps f g ∧ (∀ N, Ag f g (a + 4) (a + 5) N) := by
  intro m
  induction m with
  | zero =>
    intro E f _ hW hE hb
    refine ⟨f, ?_, hW, keeps_rf _, fun N => Ag.rf _ _ _ _⟩
    have hX := l_X5_depthOf_33 (B := B) (D := D) (n := n) (w := w) (d := d) (by omega) hk hW hE (some (.int (bi true))) (some (.int (nI (16 - 0))))
    refine px_iload_n dX5_depthOf_12 rfl ?_
    refine px_ifb_eq (tgt := 33) dX5_depthOf_13 (by decide) (fun hc13 => ?_) (fun hc13 => ?_)
    · cases hc13
    · refine px_iload_n dX5_depthOf_16 rfl ?_
      refine px_bipush (v := 16) dX5_depthOf_17 (by decide) ?_
      refine px_icmp_ge (tgt := 33) dX5_depthOf_19 (by decide) (fun hc19 => ?_) (fun hc19 => ?_)
      · exact hX
      · exact absurd (show (16 : Int32) ≤ nI (16 - 0) by decide) hc19
  | succ m ih =>
    intro E f hm hW hE hb
    have h16 : ¬ (16 : Int32) ≤ nI (16 - (m + 1)) := nI_ge (b := 16) (by omega) (by omega)
    have hinc : nI (16 - (m + 1)) + Int32.ofInt 1 = nI (16 - m) := by rw [nI_inc]; congr 1; omega
    obtain ⟨g1, hC, a1, a2, a3, a4⟩ := c_X5_deepenAll (B := B) (D := D) (n := n) (w := w) hok hno hW hE hb
    by_cases hbl : (aDps A.tr 16 E false).2 = true
    · rw [aDrs, if_pos hbl]
      obtain ⟨g, hX, b1, b2, b3⟩ := ih _ g1 (by omega) a1 a2 (aDps_b 16 E false (aDep A.tr) (Nat.le_refl _) hok (fun t ht => aDep_eq hok hno ht) hb)
      refine ⟨g, ?_, b1, keeps_tr a3 b2, fun N => (a4 N).tra (b3 N) (Nat.le_refl _)⟩
      rw [hbl] at hC
      refine px_iload_n dX5_depthOf_12 rfl ?_
      refine px_ifb_eq (tgt := 33) dX5_depthOf_13 (by decide) (fun hc13 => ?_) (fun hc13 => ?_)
      · cases hc13
      · refine px_iload_n dX5_depthOf_16 rfl ?_
        refine px_bipush (v := 16) dX5_depthOf_17 (by decide) ?_
        refine px_icmp_ge (tgt := 33) dX5_depthOf_19 (by decide) (fun hc19 => ?_) (fun hc19 => ?_)
        · exact absurd hc19 h16
        · refine px_aload_n dX5_depthOf_22 rfl ?_
          refine px_callV1 (ν := mX5_deepenAll) (ci := 5) rfl rfl lk_X5_115 in_X5_deepenAll se_X5_deepenAll mok_X5_deepenAll dX5_depthOf_23 (hC) (by exact hW.1) rfl rfl (by omega) (by simp) ?_
          refine px_istore2 rfl dX5_depthOf_26 ?_
          refine px_iinc3 rfl hinc dX5_depthOf_27 ?_
          refine px_goto (tgt := 12) dX5_depthOf_30 (by decide) ?_
          exact hX
    · rw [aDrs, if_neg hbl]
      have hbf : (aDps A.tr 16 E false).2 = false := by simpa using hbl
      rw [hbf] at hC
      have hX := l_X5_depthOf_33 (B := B) (D := D) (n := n) (w := w) (d := d) (by omega) hk a1 a2 (some (.int (bi false))) (some (.int (nI (16 - m))))
      refine ⟨g1, ?_, a1, a3, a4⟩
      refine px_iload_n dX5_depthOf_12 rfl ?_
      refine px_ifb_eq (tgt := 33) dX5_depthOf_13 (by decide) (fun hc13 => ?_) (fun hc13 => ?_)
      · cases hc13
      · refine px_iload_n dX5_depthOf_16 rfl ?_
        refine px_bipush (v := 16) dX5_depthOf_17 (by decide) ?_
        refine px_icmp_ge (tgt := 33) dX5_depthOf_19 (by decide) (fun hc19 => ?_) (fun hc19 => ?_)
        · exact absurd hc19 h16
        · refine px_aload_n dX5_depthOf_22 rfl ?_
          refine px_callV1 (ν := mX5_deepenAll) (ci := 5) rfl rfl lk_X5_115 in_X5_deepenAll se_X5_deepenAll mok_X5_deepenAll dX5_depthOf_23 (hC) (by exact hW.1) rfl rfl (by omega) (by simp) ?_
          refine px_istore2 rfl dX5_depthOf_26 ?_
          refine px_iinc3 rfl hinc dX5_depthOf_27 ?_
          refine px_goto (tgt := 12) dX5_depthOf_30 (by decide) ?_
          refine px_iload_n dX5_depthOf_12 rfl ?_
          exact px_ifb_eq (tgt := 33) dX5_depthOf_13 (by decide) (fun _ => hX) (fun hc => by cases hc)
theorem c_X5_depthOf {k : Nat} (hk : k < 24) (hok : trOk A.tr) (hno : noRing A.tr) (hW : IsW f a A) : ∃ g : Nat → Option va_E, CT B D 3 mX5_depthOf [.ref a, .int (nI k)] (n, w, f) (some (.int (nI (aDep A.tr k)))) (n, w, g) ∧ IsW g a A ∧ keeps f g ∧ (∀ N, Ag f g (a + 4) (a + 5) N) := by
  obtain ⟨dp, hdp⟩ := hW.2.2.2.2.1
  obtain ⟨i1, i2, i3⟩ := hW.dp (fun j => if j < 24 then 0 else dp j)
  obtain ⟨g, hX, b1, b2, b3⟩ := l_X5_depthOf_12 (B := B) (D := D) (n := n) (w := w) (d := 3) (Nat.le_refl _) hk hok hno 16 (fun _ => 0) _ (Nat.le_refl _) i1 ⟨_, va_up_self _ _ _, fun j hj => by dsimp only; rw [if_pos hj]; rfl⟩ (fun _ _ => Nat.zero_le _)
  rw [aDrs_dep hok hno hk] at hX
  refine ⟨g, ?_, b1, keeps_tr i2 b2, fun N => (i3 N).tra (b3 N) (Nat.le_refl _)⟩
  refine CT.of [some (.ref a), some (.int (nI k)), none, none] rfl (Nat.le_of_ble_eq_true rfl) pl_X5 trivial ?_
  refine px_aload_n dX5_depthOf_0 rfl ?_
  refine px_getfield fl_X5_26 dX5_depthOf_1 (by exact hW.1) (by rfl) ?_
  refine px_iconst (v := 0) dX5_depthOf_4 (by decide) ?_
  refine px_callS0 (ν := mJ7_fill_53178) lk_X5_109 st_J7_fill_53178 mok_J7_fill_53178 dX5_depthOf_5 (c_J7_fill_53178 (by decide) hdp 0) rfl rfl (by omega) (by simp) ?_
  refine px_iconst (v := 1) dX5_depthOf_8 (by decide) ?_
  refine px_istore2 rfl dX5_depthOf_9 ?_
  refine px_iconst (v := 0) dX5_depthOf_10 (by decide) ?_
  refine px_istore3 rfl dX5_depthOf_11 ?_
  exact hX
end M31
