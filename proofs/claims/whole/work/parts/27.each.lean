/-! a BUILD of a set of TARGETS -/
def aEach (set : Int32) (stop : Bool) : Nat → BS → BS × Option Nat
  | 0, S => (S, none)
  | k + 1, S => if s_isIn set (nI (8 + (15 - k))) = true then
      (if stop = true ∧ (aFail (aNeed (aBuild 16) (8 + (15 - k)) S).A (8 + (15 - k))).isSome = true then (aNeed (aBuild 16) (8 + (15 - k)) S, some (8 + (15 - k))) else aEach set stop k (aNeed (aBuild 16) (8 + (15 - k)) S))
    else aEach set stop k S
def sbO : Option Nat → Int32
  | none => -5
  | some k => nI k
def aForget (S : BS) : BS := (S.A, (fun _ => false), (fun _ => false), [], S.st, S.po, S.sp, S.cu)
def aAll (set : Int32) (stop : Bool) (S : BS) : BS × Option Nat := aEach set stop 16 (aForget S)
section M27
variable {B : Nat} {D : va_G} {b : Nat}
/-- what a BUILD leaves -/
def Bq (f g : Nat → Option va_E) (n n' w w' b : Nat) (S : BS) (z : BS × Option Nat) : Prop := IsB g b (sbO z.2) z.1 ∧ wfH g n' ∧ Ag f g b (b + 111) n ∧ keeps f g ∧ n ≤ n' ∧ w' + 5 * n = w + 5 * n' ∧ n' + cd S.dn ≤ n + cd z.1.dn
theorem Bq.after {f g k : Nat → Option va_E} {n n' n2 w w' w2 : Nat} {sb : Int32} {S T : BS} {z : BS × Option Nat} (h1 : Bd f g n n' w w' b sb S T 0) (h2 : Bq g k n' n2 w' w2 b T z) : Bq f k n n2 w w2 b S z := by
  obtain ⟨a1, a2, a3, a4, a5, a6, a7⟩ := h1
  obtain ⟨b1, b2, b3, b4, b5, b6, b7⟩ := h2
  exact ⟨b1, b2, a3.tra b3 a5, keeps_tr a4 b4, by omega, by omega, by omega⟩
theorem l_X0_buildEach_7 {d : Nat} (hd : 41 ≤ d) {set : Int32} {stop : Bool} : ∀ (k n w : Nat) (f : Nat → Option va_E) (S : BS), k ≤ 16 → IsB f b (-5) S → wfH f n → vRu S.A → ∃ (n' w' : Nat) (g : Nat → Option va_E), EX B D d mX0_buildEach 7 [some (.ref b), some (.int set), some (.int (bi stop)), some (.int (nI (8 + (16 - k))))] [] (n, w, f) (some (.int (nI (aEach set stop k S).1.ord.length))) (n', w', g) ∧ Bq f g n n' w w' b S (aEach set stop k S) := by
  intro k
  induction k with
  | zero =>
    intro n w f S _ h hwf hv
    obtain ⟨dn, op, wt, dk, h1, h2, h3, h4, h5, h6, h7⟩ := id h
    refine ⟨n, w, f, ?_, h, hwf, Ag.rf _ _ _ _, keeps_rf _, Nat.le_refl _, rfl, Nat.le_refl _⟩
    refine px_iload_n dX0_buildEach_7 rfl ?_
    refine px_bipush (v := 24) dX0_buildEach_8 (by decide) ?_
    refine px_icmp_ge (tgt := 59) dX0_buildEach_10 (by decide) (fun hc10 => ?_) (fun hc10 => ?_)
    · refine px_aload_n dX0_buildEach_59 rfl ?_
      refine px_getfield fl_X0_26 dX0_buildEach_60 (by exact h1) (by rfl) ?_
      exact px_reti dX0_buildEach_63 (by rfl) (by rfl)
    · exact absurd (show (24 : Int32) ≤ nI (8 + (16 - 0)) by decide) hc10
  | succ k ih =>
    intro n w f S hk h hwf hv
    obtain ⟨t, ht, hkt⟩ : ∃ t, t < 16 ∧ 15 - k = t := ⟨15 - k, by omega, rfl⟩
    have e1 : 16 - (k + 1) = t := by omega
    have e2 : 16 - k = t + 1 := by omega
    have hinc : nI (8 + t) + Int32.ofInt 1 = nI (8 + (16 - k)) := by rw [nI_inc, e2]; rfl
    have h24 : ¬ (24 : Int32) ≤ nI (8 + t) := nI_ge (b := 24) (by omega) (by omega)
    obtain ⟨dn, op, wt, dk, h1, h2, h3, h4, h5, h6, h7⟩ := id h
    by_cases hin : s_isIn set (nI (8 + t)) = true
    · obtain ⟨n1, w1, g1, hC, hBd⟩ := c_need (n := n) (w := w) (f := f) (m := 8 + t) (by omega) (hb_all (B := B) (D := D) (b := b) 16 (Nat.le_refl _)) h hwf hv (by omega)
      rw [show nI (17 - 16) = 1 by decide] at hC
      obtain ⟨dn1, op1, wt1, dk1, i1, i2, i3, i4, i5, i6, i7⟩ := id hBd.1
      have hkp := Kp_need (Kp_build 16) (8 + t) S
      obtain ⟨q, hq, hqc⟩ := c_X5_failureOf (B := B) (D := D) (n := n1) (w := w1) i7 (k := 8 + t) (by omega)
      by_cases hst : stop = true ∧ (aFail (aNeed (aBuild 16) (8 + t) S).A (8 + t)).isSome = true
      · obtain ⟨rfl, hfl⟩ := hst
        have ez : aEach set true (k + 1) S = (aNeed (aBuild 16) (8 + t) S, some (8 + t)) := by rw [aEach, hkt, if_pos hin, if_pos ⟨rfl, hfl⟩]
        obtain ⟨x, hx⟩ := Option.isSome_iff_exists.mp hfl
        rw [hx] at hqc
        obtain ⟨p, rfl, -⟩ := hqc
        obtain ⟨p1, p2, p3, p4⟩ := hBd.1.cell (sb' := -5) (sb := nI (8 + t)) (T := aNeed (aBuild 16) (8 + t) S) (cn := (aNeed (aBuild 16) (8 + t) S).ord.length) (dn := dn1) (op := op1) (st := (aNeed (aBuild 16) (8 + t) S).st) (po := (aNeed (aBuild 16) (8 + t) S).po) (sp := (aNeed (aBuild 16) (8 + t) S).sp) (cu := (aNeed (aBuild 16) (8 + t) S).cu) (wt := wt1) hBd.2.1 rfl rfl rfl rfl rfl rfl rfl i4 i5
        rw [ez, e1]
        refine ⟨n1, w1, _, ?_, p1, p2, hBd.2.2.1.tra ((p3 n1).wide (Nat.le_refl _) (by omega)) hBd.2.2.2.2.1, keeps_tr hBd.2.2.2.1 p4, hBd.2.2.2.2.1, hBd.2.2.2.2.2.1, hBd.2.2.2.2.2.2⟩
        refine px_iload_n dX0_buildEach_7 rfl ?_
        refine px_bipush (v := 24) dX0_buildEach_8 (by decide) ?_
        refine px_icmp_ge (tgt := 59) dX0_buildEach_10 (by decide) (fun hc10 => ?_) (fun hc10 => ?_)
        · exact absurd hc10 h24
        · refine px_iload_n dX0_buildEach_13 rfl ?_
          refine px_iload_n dX0_buildEach_14 rfl ?_
          refine px_callS1 (ν := mX0_isIn) lk_X0_45 st_X0_isIn mok_X0_isIn dX0_buildEach_15 (c_X0_isIn _ _) rfl rfl (by omega) (by simp) ?_
          refine px_ifb_ne (tgt := 24) dX0_buildEach_18 (by decide) (fun hc18 => ?_) (fun hc18 => ?_)
          · refine px_aload_n dX0_buildEach_24 rfl ?_
            refine px_iload_n dX0_buildEach_25 rfl ?_
            refine px_iconst (v := 1) dX0_buildEach_26 (by decide) ?_
            refine px_callV0 (ν := mX0_buildTarget) (ci := 0) rfl rfl lk_X0_41 in_X0_buildTarget se_X0_buildTarget mok_X0_buildTarget dX0_buildEach_27 (hC) (by first | exact h1 | exact i1 | exact i7.1 | exact va_up_self _ _ _) rfl rfl (by omega) (by simp) ?_
            refine px_iload_n dX0_buildEach_30 rfl ?_
            refine px_ifb_eq (tgt := 53) dX0_buildEach_31 (by decide) (fun hc31 => ?_) (fun hc31 => ?_)
            · cases hc31
            · refine px_aload_n dX0_buildEach_34 rfl ?_
              refine px_getfield fl_X0_12 dX0_buildEach_35 (by first | exact h1 | exact i1 | exact i7.1 | exact va_up_self _ _ _) (by rfl) ?_
              refine px_iload_n dX0_buildEach_38 rfl ?_
              refine px_callV1 (ν := mX5_failureOf) (ci := 5) rfl rfl lk_X0_49 in_X5_failureOf se_X5_failureOf mok_X5_failureOf dX0_buildEach_39 (hq) (by first | exact h1 | exact i1 | exact i7.1 | exact va_up_self _ _ _) rfl rfl (by omega) (by simp) ?_
              refine px_ifnull_f dX0_buildEach_42 ?_
              refine px_aload_n dX0_buildEach_45 rfl ?_
              refine px_iload_n dX0_buildEach_46 rfl ?_
              refine px_putfield fp_X0_22 dX0_buildEach_47 (by first | exact h1 | exact i1 | exact i7.1 | exact va_up_self _ _ _) rfl rfl (by simp) ?_
              refine px_goto (tgt := 59) dX0_buildEach_50 (by decide) ?_
              refine px_aload_n dX0_buildEach_59 rfl ?_
              refine px_getfield fl_X0_26 dX0_buildEach_60 (by first | exact h1 | exact i1 | exact i7.1 | exact va_up_self _ _ _) (by rfl) ?_
              exact px_reti dX0_buildEach_63 (by rfl) (by rfl)
          · rw [hin] at hc18; cases hc18
      · have ez : aEach set stop (k + 1) S = aEach set stop k (aNeed (aBuild 16) (8 + t) S) := by rw [aEach, hkt, if_pos hin, if_neg hst]
        obtain ⟨n2, w2, g2, hE, hBq⟩ := ih n1 w1 g1 _ (by omega) hBd.1 hBd.2.1 (hv.of hkp.2.2.1)
        rw [ez, e1]
        refine ⟨n2, w2, g2, ?_, hBq.after hBd⟩
        refine px_iload_n dX0_buildEach_7 rfl ?_
        refine px_bipush (v := 24) dX0_buildEach_8 (by decide) ?_
        refine px_icmp_ge (tgt := 59) dX0_buildEach_10 (by decide) (fun hc10 => ?_) (fun hc10 => ?_)
        · exact absurd hc10 h24
        · refine px_iload_n dX0_buildEach_13 rfl ?_
          refine px_iload_n dX0_buildEach_14 rfl ?_
          refine px_callS1 (ν := mX0_isIn) lk_X0_45 st_X0_isIn mok_X0_isIn dX0_buildEach_15 (c_X0_isIn _ _) rfl rfl (by omega) (by simp) ?_
          refine px_ifb_ne (tgt := 24) dX0_buildEach_18 (by decide) (fun hc18 => ?_) (fun hc18 => ?_)
          · refine px_aload_n dX0_buildEach_24 rfl ?_
            refine px_iload_n dX0_buildEach_25 rfl ?_
            refine px_iconst (v := 1) dX0_buildEach_26 (by decide) ?_
            refine px_callV0 (ν := mX0_buildTarget) (ci := 0) rfl rfl lk_X0_41 in_X0_buildTarget se_X0_buildTarget mok_X0_buildTarget dX0_buildEach_27 (hC) (by first | exact h1 | exact i1 | exact i7.1 | exact va_up_self _ _ _) rfl rfl (by omega) (by simp) ?_
            refine px_iload_n dX0_buildEach_30 rfl ?_
            refine px_ifb_eq (tgt := 53) dX0_buildEach_31 (by decide) (fun hc31 => ?_) (fun hc31 => ?_)
            · refine px_iinc3 rfl hinc dX0_buildEach_53 ?_
              refine px_goto (tgt := 7) dX0_buildEach_56 (by decide) ?_
              exact hE
            · refine px_aload_n dX0_buildEach_34 rfl ?_
              refine px_getfield fl_X0_12 dX0_buildEach_35 (by first | exact h1 | exact i1 | exact i7.1 | exact va_up_self _ _ _) (by rfl) ?_
              refine px_iload_n dX0_buildEach_38 rfl ?_
              refine px_callV1 (ν := mX5_failureOf) (ci := 5) rfl rfl lk_X0_49 in_X5_failureOf se_X5_failureOf mok_X5_failureOf dX0_buildEach_39 (hq) (by first | exact h1 | exact i1 | exact i7.1 | exact va_up_self _ _ _) rfl rfl (by omega) (by simp) ?_
              refine px_ifnull_Q (tgt := 53) dX0_buildEach_42 (by decide) (fun ha42 => ?_) (fun a42 ha42 => ?_)
              · first | subst ha42 | rw [ha42] | skip
                refine px_iinc3 rfl hinc dX0_buildEach_53 ?_
                refine px_goto (tgt := 7) dX0_buildEach_56 (by decide) ?_
                exact hE
              · subst ha42; exact absurd ⟨hc31, by cases hz : aFail (aNeed (aBuild 16) (8 + t) S).A (8 + t) with | none => (rw [hz] at hqc; cases hqc) | some x => rfl⟩ hst
          · rw [hin] at hc18; cases hc18
    · have ez : aEach set stop (k + 1) S = aEach set stop k S := by rw [aEach, hkt, if_neg hin]
      obtain ⟨n2, w2, g2, hE, hBq⟩ := ih n w f S (by omega) h hwf hv
      rw [ez, e1]
      refine ⟨n2, w2, g2, ?_, hBq⟩
      refine px_iload_n dX0_buildEach_7 rfl ?_
      refine px_bipush (v := 24) dX0_buildEach_8 (by decide) ?_
      refine px_icmp_ge (tgt := 59) dX0_buildEach_10 (by decide) (fun hc10 => ?_) (fun hc10 => ?_)
      · exact absurd hc10 h24
      · refine px_iload_n dX0_buildEach_13 rfl ?_
        refine px_iload_n dX0_buildEach_14 rfl ?_
        refine px_callS1 (ν := mX0_isIn) lk_X0_45 st_X0_isIn mok_X0_isIn dX0_buildEach_15 (c_X0_isIn _ _) rfl rfl (by omega) (by simp) ?_
        refine px_ifb_ne (tgt := 24) dX0_buildEach_18 (by decide) (fun hc18 => ?_) (fun hc18 => ?_)
        · exact absurd hc18 hin
        · refine px_goto (tgt := 53) dX0_buildEach_21 (by decide) ?_
          refine px_iinc3 rfl hinc dX0_buildEach_53 ?_
          refine px_goto (tgt := 7) dX0_buildEach_56 (by decide) ?_
          exact hE
theorem cd_none : cd (fun _ => false) = 0 := by decide
theorem IsB.forget {f : Nat → Option va_E} {n w : Nat} {sb : Int32} {S : BS} (h : IsB f b sb S) (hwf : wfH f n) : ∃ g : Nat → Option va_E, CT B D 0 mX0_forgetBuild [.ref b] (n, w, f) none (n, w, g) ∧ IsB g b (-5) (aForget S) ∧ wfH g n ∧ (∀ N, Ag f g b (b + 111) N) ∧ keeps f g := by
  obtain ⟨dn, op, wt, dk, h1, h2, h3, h4, h5, h6, h7⟩ := id h
  have hz : IsSet 0 (fun _ => false) := fun t ht => by unfold s_isIn; simp
  have hbn := hwf.lt h1
  have A1 : ∀ N, Ag f (va_up f b (some (bcell b 0 0 0 (-5) S.st S.po S.sp S.cu wt))) b (b + 1) N := fun N => (Ag.rf _ _ _ _).up (Nat.le_refl _) (by omega)
  have k1 : keeps f (va_up f b (some (bcell b 0 0 0 (-5) S.st S.po S.sp S.cu wt))) := keeps_at h1 (fun fs e => by cases e)
  exact ⟨_, c_X0_forgetBuild h1, ⟨0, 0, wt, dk, va_up_self _ _ _, by rw [va_up_ne _ _ (by omega)]; exact h2, Nat.zero_le _, hz, hz, fun i x hx => by simp [aForget, BS.ord] at hx, h7.ag (A1 n) (h7.top hwf) (Or.inr (Nat.le_refl _)) k1⟩, hwf.up hbn, fun N => (A1 N).wide (Nat.le_refl _) (by omega), k1⟩
theorem c_X0_buildEach {d : Nat} (hd : 41 ≤ d) {f : Nat → Option va_E} {n w : Nat} {sb : Int32} {S : BS} (h : IsB f b sb S) (hwf : wfH f n) (hv : vRu S.A) (set : Int32) (stop : Bool) : ∃ (n' w' : Nat) (g : Nat → Option va_E), CT B D d mX0_buildEach [.ref b, .int set, .int (bi stop)] (n, w, f) (some (.int (nI (aAll set stop S).1.ord.length))) (n', w', g) ∧ Bq f g n n' w w' b (aForget S) (aAll set stop S) := by
  obtain ⟨g0, hC, a1, a2, a3, a4⟩ := h.forget (B := B) (D := D) (w := w) hwf
  obtain ⟨n1, w1, g1, hE, hB⟩ := l_X0_buildEach_7 (B := B) (D := D) (set := set) (stop := stop) hd 16 n w g0 (aForget S) (Nat.le_refl _) a1 a2 hv
  obtain ⟨dn, op, wt, dk, h1, h2, h3, h4, h5, h6, h7⟩ := id h
  obtain ⟨b1, b2, b3, b4, b5, b6, b7⟩ := hB
  refine ⟨n1, w1, g1, ?_, b1, b2, (a3 n).tra b3 (Nat.le_refl _), keeps_tr a4 b4, b5, b6, b7⟩
  refine CT.of [some (.ref b), some (.int set), some (.int (bi stop)), none] rfl (Nat.le_of_ble_eq_true rfl) pl_X0 trivial ?_
  refine px_aload_n dX0_buildEach_0 rfl ?_
  refine px_callV0 (ν := mX0_forgetBuild) (ci := 0) rfl rfl lk_X0_38 in_X0_forgetBuild se_X0_forgetBuild mok_X0_forgetBuild dX0_buildEach_1 (hC) (by exact h1) rfl rfl (by omega) (by simp) ?_
  refine px_bipush (v := 8) dX0_buildEach_4 (by decide) ?_
  refine px_istore3 rfl dX0_buildEach_6 ?_
  exact hE
theorem isIn_one {t u : Nat} (ht : t < 16) (hu : u < 16) : s_isIn (s_bitOf (nI (8 + t))) (nI (8 + u)) = decide (u = t) := by
  unfold s_isIn
  by_cases h : u = t
  · subst h
    rw [i32_and_self, decide_eq_false (bit_self hu), decide_eq_true rfl]; rfl
  · rw [bit_ne ht hu (fun e => h e.symm), decide_eq_true rfl, decide_eq_false h]; rfl
theorem aEach_one {t : Nat} (ht : t < 16) : ∀ (k : Nat) (S : BS), k ≤ 16 → aEach (s_bitOf (nI (8 + t))) false k S = if 16 - k ≤ t then (aNeed (aBuild 16) (8 + t) S, none) else (S, none) := by
  intro k
  induction k with
  | zero => intro S _; rw [if_neg (by omega)]; rfl
  | succ k ih =>
    intro S hk
    have hone := isIn_one ht (u := 15 - k) (by omega)
    rw [aEach, hone]
    by_cases hkt : 15 - k = t
    · rw [hkt, decide_eq_true rfl, if_pos rfl, if_neg (by rintro ⟨e, -⟩; cases e), ih _ (by omega), if_neg (by omega), if_pos (by omega)]
    · rw [decide_eq_false hkt, if_neg (by decide), ih _ (by omega)]
      by_cases h2 : 16 - k ≤ t
      · rw [if_pos h2, if_pos (by omega)]
      · rw [if_neg h2, if_neg (by omega)]
theorem aAll_one {t : Nat} (ht : t < 16) (S : BS) : aAll (s_bitOf (nI (8 + t))) false S = (aNeed (aBuild 16) (8 + t) (aForget S), none) := by
  unfold aAll
  rw [aEach_one ht 16 _ (Nat.le_refl _), if_pos (by omega)]
theorem c_X0_startsFor {d : Nat} (hd : 42 ≤ d) {f : Nat → Option va_E} {n w t : Nat} {sb : Int32} {S : BS} (ht : t < 16) (h : IsB f b sb S) (hwf : wfH f n) (hv : vRu S.A) : ∃ (n' w' : Nat) (g : Nat → Option va_E), CT B D d mX0_startsFor [.ref b, .int (nI (8 + t))] (n, w, f) (some (.int ((aAll (s_bitOf (nI (8 + t))) false S).1.st - S.st))) (n', w', g) ∧ Bq f g n n' w w' b (aForget S) (aAll (s_bitOf (nI (8 + t))) false S) := by
  rw [aAll_one ht]
  obtain ⟨g0, hF, a1, a2, a3, a4⟩ := h.forget (B := B) (D := D) (w := w) hwf
  obtain ⟨n1, w1, g1, hC, hBd⟩ := c_need (n := n) (w := w) (f := g0) (m := 8 + t) (by omega) (hb_all (B := B) (D := D) (b := b) 16 (Nat.le_refl _)) a1 a2 hv (by omega)
  rw [show nI (17 - 16) = 1 by decide] at hC
  obtain ⟨dn, op, wt, dk, h1, h2, h3, h4, h5, h6, h7⟩ := id h
  obtain ⟨dn0, op0, wt0, dk0, j1, -⟩ := id a1
  obtain ⟨dn1, op1, wt1, dk1, i1, i2, i3, i4, i5, i6, i7⟩ := id hBd.1
  refine ⟨n1, w1, g1, ?_, hBd.1, hBd.2.1, (a3 n).tra hBd.2.2.1 (Nat.le_refl _), keeps_tr a4 hBd.2.2.2.1, hBd.2.2.2.2.1, hBd.2.2.2.2.2.1, hBd.2.2.2.2.2.2⟩
  refine CT.of [some (.ref b), some (.int (nI (8 + t))), none] rfl (Nat.le_of_ble_eq_true rfl) pl_X0 trivial ?_
  refine px_aload_n dX0_startsFor_0 rfl ?_
  refine px_getfield fl_X0_35 dX0_startsFor_1 (by first | exact h1 | exact j1 | exact i1) (by rfl) ?_
  refine px_istore2 rfl dX0_startsFor_4 ?_
  refine px_aload_n dX0_startsFor_5 rfl ?_
  refine px_callV0 (ν := mX0_forgetBuild) (ci := 0) rfl rfl lk_X0_38 in_X0_forgetBuild se_X0_forgetBuild mok_X0_forgetBuild dX0_startsFor_6 (hF) (by first | exact h1 | exact j1 | exact i1) rfl rfl (by omega) (by simp) ?_
  refine px_aload_n dX0_startsFor_9 rfl ?_
  refine px_iload_n dX0_startsFor_10 rfl ?_
  refine px_iconst (v := 1) dX0_startsFor_11 (by decide) ?_
  refine px_callV0 (ν := mX0_buildTarget) (ci := 0) rfl rfl lk_X0_41 in_X0_buildTarget se_X0_buildTarget mok_X0_buildTarget dX0_startsFor_12 (hC) (by first | exact h1 | exact j1 | exact i1) rfl rfl (by omega) (by simp) ?_
  refine px_aload_n dX0_startsFor_15 rfl ?_
  refine px_getfield fl_X0_35 dX0_startsFor_16 (by first | exact h1 | exact j1 | exact i1) (by rfl) ?_
  refine px_iload_n dX0_startsFor_19 rfl ?_
  refine px_isub dX0_startsFor_20 ?_
  exact px_reti dX0_startsFor_21 (by rfl) (by rfl)
end M27
