/-! to BUILD what a TRACE has; looking it through -/
def HB (B : Nat) (D : va_G) (dd F b : Nat) : Prop := ∀ (S : BS) (t n w : Nat) (f : Nat → Option va_E) (sb : Int32), t < 16 → IsB f b sb S → wfH f n → vRu S.A → S.dn (8 + t) = false → S.op (8 + t) = false → ∃ (n' w' : Nat) (g : Nat → Option va_E), CT B D dd mX0_buildTarget [.ref b, .int (nI (8 + t)), .int (nI (17 - F))] (n, w, f) none (n', w', g) ∧ Bd f g n n' w w' b sb S (aBuild F (8 + t) S) 0
theorem vRu.of {A A' : AW} (h : vRu A) (he : A'.ru = A.ru) : vRu A' := fun k x hx => h k x (by rw [he] at hx; exact hx)
section M23
variable {B : Nat} {D : va_G} {n w : Nat} {f : Nat → Option va_E} {b : Nat}
theorem IsTA.tlen {a : Nat} {ru rs} {T : aAcc} (h : IsTA f a ru rs (some T)) : T.length ≤ 12 ∧ ∃ (c : Int32) (q : Option Nat), f a = some (tcell a c q (nI T.length)) := by
  obtain ⟨c, q, l, sg, fg, tk, tp, h1, h2, h3, h4, h5, h6⟩ := h
  exact ⟨h6.1, c, q, by rw [← h6.2.1]; exact h1.1⟩
theorem IsTA.tkey {a : Nat} {ru rs} {T : aAcc} (h : IsTA f a ru rs (some T)) {i : Nat} {x : Nat × List Q4} (hx : T[i]? = some x) : x.1 < 24 ∧ CT B D 0 mX4_tracedKey [.ref a, .int (nI i)] (n, w, f) (some (.int (nI x.1))) (n, w, f) := by
  obtain ⟨c, q, l, sg, fg, tk, tp, h1, h2, h3, h4, h5, h6⟩ := h
  have hil := (List.getElem?_eq_some_iff.mp hx).1
  obtain ⟨g1, g2, p, g3, g4⟩ := h6.2.2 i x hx
  have h12 := h6.1
  have hk := c_X4_tracedKey (B := B) (D := D) (n := n) (w := w) h1 (by rw [h6.2.1, nI_toInt (by omega)]; omega) (nI i)
  rw [if_neg (by rw [h6.2.1]; rintro (z | z); exact nI_pos (by omega) z; exact nI_ge (by omega) (by omega) z), nI_clamp (by omega), g2] at hk
  exact ⟨g1, hk⟩
theorem IsTA.tres {a : Nat} {ru rs} {T : aAcc} (h : IsTA f a ru rs (some T)) {i : Nat} {x : Nat × List Q4} (hx : T[i]? = some x) : ∃ p, CT B D 0 mX4_tracedResult [.ref a, .int (nI i)] (n, w, f) (some (va_rf (some p))) (n, w, f) ∧ ch f x.2 (some p) := by
  obtain ⟨c, q, l, sg, fg, tk, tp, h1, h2, h3, h4, h5, h6⟩ := h
  have hil := (List.getElem?_eq_some_iff.mp hx).1
  obtain ⟨g1, g2, p, g3, g4⟩ := h6.2.2 i x hx
  have h12 := h6.1
  have hk := c_X4_tracedResult (B := B) (D := D) (n := n) (w := w) h1 (by rw [h6.2.1, nI_toInt (by omega)]; omega) (nI i)
  rw [if_neg (by rw [h6.2.1]; rintro (z | z); exact nI_pos (by omega) z; exact nI_ge (by omega) (by omega) z), nI_clamp (by omega), g3] at hk
  exact ⟨p, hk, g4⟩
theorem c_X0_buildTarget_i {d : Nat} (hd : 3 ≤ d) {cn : Nat} {dn op sb st po sp cu wt : Int32} (h : f b = some (bcell b cn dn op sb st po sp cu wt)) {A : AW} (hW : IsW f (b + 1) A) {k : Nat} (hk : k < 8) (x : Int32) : CT B D d mX0_buildTarget [.ref b, .int (nI k), .int x] (n, w, f) none (n, w, f) := by
  refine CT.of [some (.ref b), some (.int (nI k)), some (.int x), none] rfl (Nat.le_of_ble_eq_true rfl) pl_X0 trivial ?_
  refine px_aload_n dX0_buildTarget_0 rfl ?_
  refine px_getfield fl_X0_12 dX0_buildTarget_1 (by first | exact h | exact hW.1) (by rfl) ?_
  refine px_iload_n dX0_buildTarget_4 rfl ?_
  refine px_callV1 (ν := mX5_targetOf) (ci := 5) rfl rfl lk_X0_53 in_X5_targetOf se_X5_targetOf mok_X5_targetOf dX0_buildTarget_5 (c_X5_targetOf_n (inT_i hk)) (by first | exact h | exact hW.1) rfl rfl (by omega) (by simp) ?_
  refine px_astoreN3 rfl dX0_buildTarget_8 ?_
  refine px_aload_nN dX0_buildTarget_9 rfl ?_
  refine px_ifnull_t (tgt := 35) dX0_buildTarget_10 (by decide) ?_
  exact px_retv dX0_buildTarget_35 rfl (by rfl)
theorem c_X0_buildTarget_done {d : Nat} (hd : 3 ≤ d) {cn : Nat} {dn op sb st po sp cu wt : Int32} (h : f b = some (bcell b cn dn op sb st po sp cu wt)) {A : AW} (hW : IsW f (b + 1) A) {t : Nat} (ht : t < 16) {Sd So : Nat → Bool} (h1 : IsSet dn Sd) (h2 : IsSet op So) (hdo : (Sd (8 + t) || So (8 + t)) = true) (x : Int32) : CT B D d mX0_buildTarget [.ref b, .int (nI (8 + t)), .int x] (n, w, f) none (n, w, f) := by
  refine CT.of [some (.ref b), some (.int (nI (8 + t))), some (.int x), none] rfl (Nat.le_of_ble_eq_true rfl) pl_X0 trivial ?_
  refine px_aload_n dX0_buildTarget_0 rfl ?_
  refine px_getfield fl_X0_12 dX0_buildTarget_1 (by first | exact h | exact hW.1) (by rfl) ?_
  refine px_iload_n dX0_buildTarget_4 rfl ?_
  refine px_callV1 (ν := mX5_targetOf) (ci := 5) rfl rfl lk_X0_53 in_X5_targetOf se_X5_targetOf mok_X5_targetOf dX0_buildTarget_5 (c_X5_targetOf hW ht) (by first | exact h | exact hW.1) rfl rfl (by omega) (by simp) ?_
  refine px_astore3 rfl dX0_buildTarget_8 ?_
  refine px_aload_n dX0_buildTarget_9 rfl ?_
  refine px_ifnull_f dX0_buildTarget_10 ?_
  refine px_aload_n dX0_buildTarget_13 rfl ?_
  refine px_getfield fl_X0_29 dX0_buildTarget_14 (by first | exact h | exact hW.1) (by rfl) ?_
  refine px_aload_n dX0_buildTarget_17 rfl ?_
  refine px_getfield fl_X0_32 dX0_buildTarget_18 (by first | exact h | exact hW.1) (by rfl) ?_
  refine px_ior dX0_buildTarget_21 ?_
  refine px_iload_n dX0_buildTarget_22 rfl ?_
  refine px_callS1 (ν := mX0_isIn) lk_X0_45 st_X0_isIn mok_X0_isIn dX0_buildTarget_23 (c_X0_isIn _ _) rfl rfl (by omega) (by simp) ?_
  refine px_ifb_ne (tgt := 35) dX0_buildTarget_26 (by decide) (fun hc26 => ?_) (fun hc26 => ?_)
  · exact px_retv dX0_buildTarget_35 rfl (by rfl)
  · rw [h1.union h2 ht, hdo] at hc26; cases hc26
theorem c_need {dd F : Nat} (hdd : 3 ≤ dd) (hB : HB B D dd F b) {S : BS} {sb : Int32} (h : IsB f b sb S) (hwf : wfH f n) (hv : vRu S.A) {m : Nat} (hm : m < 24) : ∃ (n' w' : Nat) (g : Nat → Option va_E), CT B D dd mX0_buildTarget [.ref b, .int (nI m), .int (nI (17 - F))] (n, w, f) none (n', w', g) ∧ Bd f g n n' w w' b sb S (aNeed (aBuild F) m S) 0 := by
  obtain ⟨dn, op, wt, dk, h1, h2, h3, h4, h5, h6, h7⟩ := id h
  by_cases h8 : m < 8
  · have hn : aNeed (aBuild F) m S = S := by unfold aNeed; rw [if_neg (by omega)]
    rw [hn]
    exact ⟨n, w, f, c_X0_buildTarget_i hdd h1 h7 h8 _, Bd.rf h hwf⟩
  · obtain ⟨t, ht, rfl⟩ : ∃ t, t < 16 ∧ m = 8 + t := ⟨m - 8, by omega, by omega⟩
    by_cases hdo : (S.dn (8 + t) || S.op (8 + t)) = true
    · have hn : aNeed (aBuild F) (8 + t) S = S := by
        unfold aNeed
        rw [if_neg]
        rintro ⟨-, e1, e2⟩
        rw [e1, e2] at hdo
        cases hdo
      rw [hn]
      exact ⟨n, w, f, c_X0_buildTarget_done hdd h1 h7 ht h4 h5 hdo _, Bd.rf h hwf⟩
    · have e : S.dn (8 + t) = false ∧ S.op (8 + t) = false := by
        cases e1 : S.dn (8 + t) <;> cases e2 : S.op (8 + t) <;> simp [e1, e2] at hdo ⊢
      have hn : aNeed (aBuild F) (8 + t) S = aBuild F (8 + t) S := by unfold aNeed; rw [if_pos ⟨by omega, e.1, e.2⟩]
      rw [hn]
      exact hB S t n w f sb ht h hwf hv e.1 e.2
theorem l_X0_isStillSame_11 {dd F d : Nat} (hdd : 4 ≤ dd) (hd : dd + 1 ≤ d) (hF : F ≤ 16) (hB : HB B D dd F b) {t : Nat} (ht : t < 16) {T : aAcc} {sb : Int32} : ∀ (U : aAcc) (i n w : Nat) (f : Nat → Option va_E) (S : BS) (z : Option Value), i ≤ T.length → T.drop i = U → IsB f b sb S → wfH f n → vRu S.A → S.A.tr (8 + t) = some T → S.op (8 + t) = true →
    ∃ (n' w' : Nat) (g : Nat → Option va_E), EX B D d mX0_isStillSame 11 [some (.ref b), some (.ref (b + 1 + 5 + 5 * t)), some (.int (nI (16 - F))), some (.int (nI i)), z] [] (n, w, f) (some (.int (bi (aLook (aBuild F) U S).2))) (n', w', g) ∧ Bd f g n n' w w' b sb S (aLook (aBuild F) U S).1 0 := by
  intro U
  induction U with
  | nil =>
    intro i n w f S z hi hU h hwf hv hT hop
    have hi2 : T.length ≤ i := by have := congrArg List.length hU; rw [List.length_drop] at this; simp at this; omega
    have hi3 : i = T.length := by omega
    subst hi3
    obtain ⟨dn, op, wt, dk, h1, h2, h3, h4, h5, h6, h7⟩ := id h
    have hta := h7.2.2.2.2.2 t ht
    rw [hT] at hta
    obtain ⟨h12, c, q, hcell⟩ := hta.tlen
    refine ⟨n, w, f, ?_, Bd.rf h hwf⟩
    refine px_iload_n dX0_isStillSame_11 rfl ?_
    refine px_aload_n dX0_isStillSame_12 rfl ?_
    refine px_getfield fl_X0_92 dX0_isStillSame_13 (by exact hcell) (by rfl) ?_
    refine px_icmp_ge (tgt := 77) dX0_isStillSame_16 (by decide) (fun hc16 => ?_) (fun hc16 => ?_)
    · refine px_iconst (v := 1) dX0_isStillSame_77 (by decide) ?_
      exact px_reti dX0_isStillSame_78 (by rfl) (by rfl)
    · exact absurd (nI_le (Nat.le_refl _) (by omega)) hc16
  | cons y U ih =>
    obtain ⟨k, r⟩ := y
    intro i n w f S z hi hU h hwf hv hT hop
    have hx : T[i]? = some (k, r) := by rw [← List.head?_drop, hU]; rfl
    have hilt : i < T.length := (List.getElem?_eq_some_iff.mp hx).1
    have hU2 : T.drop (i + 1) = U := by rw [← List.tail_drop, hU]; rfl
    obtain ⟨dn, op, wt, dk, h1, h2, h3, h4, h5, h6, h7⟩ := id h
    have hta := h7.2.2.2.2.2 t ht
    rw [hT] at hta
    obtain ⟨h12, c, q, hcell⟩ := hta.tlen
    obtain ⟨hk24, hkey⟩ := hta.tkey (B := B) (D := D) (n := n) (w := w) hx
    dsimp only at hk24 hkey
    by_cases hop2 : 8 ≤ k ∧ S.op k = true
    · have hl : aLook (aBuild F) ((k, r) :: U) S = (S, false) := by rw [aLook, if_pos hop2]
      rw [hl]
      refine ⟨n, w, f, ?_, Bd.rf h hwf⟩
      refine px_iload_n dX0_isStillSame_11 rfl ?_
      refine px_aload_n dX0_isStillSame_12 rfl ?_
      refine px_getfield fl_X0_92 dX0_isStillSame_13 (by first | exact hcell | exact h1) (by rfl) ?_
      refine px_icmp_ge (tgt := 77) dX0_isStillSame_16 (by decide) (fun hc16 => ?_) (fun hc16 => ?_)
      · exact absurd hc16 (nI_ge (by omega) (by omega))
      · refine px_aload_n dX0_isStillSame_19 rfl ?_
        refine px_iload_n dX0_isStillSame_20 rfl ?_
        refine px_callV1 (ν := mX4_tracedKey) (ci := 4) rfl rfl lk_X0_95 in_X4_tracedKey se_X4_tracedKey mok_X4_tracedKey dX0_isStillSame_21 (hkey) (by first | exact hcell | exact h1) rfl rfl (by omega) (by simp) ?_
        refine px_istore4 rfl dX0_isStillSame_24 ?_
        refine px_aload_n dX0_isStillSame_26 rfl ?_
        refine px_getfield fl_X0_32 dX0_isStillSame_27 (by first | exact hcell | exact h1) (by rfl) ?_
        refine px_iload dX0_isStillSame_30 rfl ?_
        refine px_callS1 (ν := mX0_isIn) lk_X0_45 st_X0_isIn mok_X0_isIn dX0_isStillSame_32 (c_X0_isIn _ _) rfl rfl (by omega) (by simp) ?_
        refine px_ifb_eq (tgt := 40) dX0_isStillSame_35 (by decide) (fun hc35 => ?_) (fun hc35 => ?_)
        · rw [isIn_key h5 hk24, hop2.2] at hc35; simp at hc35; omega
        · refine px_iconst (v := 0) dX0_isStillSame_38 (by decide) ?_
          exact px_reti dX0_isStillSame_39 (by rfl) (by rfl)
    · have hinf : s_isIn op (nI k) = false := by
        rw [isIn_key h5 hk24]
        cases hso : S.op k with
        | false => simp
        | true => simp; rcases Nat.lt_or_ge k 8 with q | q; exact q; exact absurd ⟨q, hso⟩ hop2
      obtain ⟨n1, w1, g1, hC, hBd⟩ := c_need (n := n) (w := w) (by omega) hB h hwf hv hk24
      have hkp := Kp_need (Kp_build F) k S
      obtain ⟨b1, b2, b3, b4, b5, b6, b7⟩ := id hBd
      obtain ⟨dn1, op1, wt1, dk1, i1, i2, i3, i4, i5, i6, i7⟩ := id b1
      have hT1 : (aNeed (aBuild F) k S).A.tr (8 + t) = some T := by rw [(hkp.2.2.2.1 _ hop).1]; exact hT
      have hta1 := i7.2.2.2.2.2 t ht
      rw [hT1] at hta1
      obtain ⟨q1, hq1, hc1⟩ := c_X5_resultOf (B := B) (D := D) (n := n1) (w := w1) i7 hk24
      obtain ⟨p, hp, hch⟩ := hta1.tres (B := B) (D := D) (n := n1) (w := w1) hx
      have hlev : nI (16 - F) + 1 = nI (17 - F) := by rw [nI_1]; congr 1; omega
      by_cases hsm : oSame (aHas (aNeed (aBuild F) k S).A k) (some r) = true
      · have hl : aLook (aBuild F) ((k, r) :: U) S = aLook (aBuild F) U (aNeed (aBuild F) k S) := by rw [aLook, if_neg hop2, if_pos hsm]
        rw [hl]
        obtain ⟨n2, w2, g2, hE, hBd2⟩ := ih (i + 1) n1 w1 g1 _ (some (.int (nI k))) (by omega) hU2 b1 b2 (hv.of hkp.2.2.1) hT1 (by rw [hkp.1]; exact hop)
        refine ⟨n2, w2, g2, ?_, hBd.tra hBd2 (Nat.le_refl _)⟩
        refine px_iload_n dX0_isStillSame_11 rfl ?_
        refine px_aload_n dX0_isStillSame_12 rfl ?_
        refine px_getfield fl_X0_92 dX0_isStillSame_13 (by first | exact hcell | exact h1 | exact i1 | exact i7.1 | exact hta1.cell.2.choose_spec.choose_spec) (by rfl) ?_
        refine px_icmp_ge (tgt := 77) dX0_isStillSame_16 (by decide) (fun hc16 => ?_) (fun hc16 => ?_)
        · exact absurd hc16 (nI_ge (by omega) (by omega))
        · refine px_aload_n dX0_isStillSame_19 rfl ?_
          refine px_iload_n dX0_isStillSame_20 rfl ?_
          refine px_callV1 (ν := mX4_tracedKey) (ci := 4) rfl rfl lk_X0_95 in_X4_tracedKey se_X4_tracedKey mok_X4_tracedKey dX0_isStillSame_21 (hkey) (by first | exact hcell | exact h1 | exact i1 | exact i7.1 | exact hta1.cell.2.choose_spec.choose_spec) rfl rfl (by omega) (by simp) ?_
          refine px_istore4 rfl dX0_isStillSame_24 ?_
          refine px_aload_n dX0_isStillSame_26 rfl ?_
          refine px_getfield fl_X0_32 dX0_isStillSame_27 (by first | exact hcell | exact h1 | exact i1 | exact i7.1 | exact hta1.cell.2.choose_spec.choose_spec) (by rfl) ?_
          refine px_iload dX0_isStillSame_30 rfl ?_
          refine px_callS1 (ν := mX0_isIn) lk_X0_45 st_X0_isIn mok_X0_isIn dX0_isStillSame_32 (c_X0_isIn _ _) rfl rfl (by omega) (by simp) ?_
          refine px_ifb_eq (tgt := 40) dX0_isStillSame_35 (by decide) (fun hc35 => ?_) (fun hc35 => ?_)
          · refine px_aload_n dX0_isStillSame_40 rfl ?_
            refine px_iload dX0_isStillSame_41 rfl ?_
            refine px_iload_n dX0_isStillSame_43 rfl ?_
            refine px_iconst (v := 1) dX0_isStillSame_44 (by decide) ?_
            refine px_iadd dX0_isStillSame_45 ?_
            rw [hlev]
            refine px_callV0 (ν := mX0_buildTarget) (ci := 0) rfl rfl lk_X0_41 in_X0_buildTarget se_X0_buildTarget mok_X0_buildTarget dX0_isStillSame_46 (hC) (by first | exact hcell | exact h1 | exact i1 | exact i7.1 | exact hta1.cell.2.choose_spec.choose_spec) rfl rfl (by omega) (by simp) ?_
            refine px_aload_n dX0_isStillSame_49 rfl ?_
            refine px_getfield fl_X0_12 dX0_isStillSame_50 (by first | exact hcell | exact h1 | exact i1 | exact i7.1 | exact hta1.cell.2.choose_spec.choose_spec) (by rfl) ?_
            refine px_iload dX0_isStillSame_53 rfl ?_
            refine px_callV1 (ν := mX5_resultOf) (ci := 5) rfl rfl lk_X0_98 in_X5_resultOf se_X5_resultOf mok_X5_resultOf dX0_isStillSame_55 (hq1) (by first | exact hcell | exact h1 | exact i1 | exact i7.1 | exact hta1.cell.2.choose_spec.choose_spec) rfl rfl (by omega) (by simp) ?_
            refine px_aload_n dX0_isStillSame_58 rfl ?_
            refine px_iload_n dX0_isStillSame_59 rfl ?_
            refine px_callV1 (ν := mX4_tracedResult) (ci := 4) rfl rfl lk_X0_101 in_X4_tracedResult se_X4_tracedResult mok_X4_tracedResult dX0_isStillSame_60 (hp) (by first | exact hcell | exact h1 | exact i1 | exact i7.1 | exact hta1.cell.2.choose_spec.choose_spec) rfl rfl (by omega) (by simp) ?_
            refine px_callS1 (ν := mX1_areSame) lk_X0_104 st_X1_areSame mok_X1_areSame dX0_isStillSame_63 (c_X1_areSame hc1 (r2 := some r) ⟨p, rfl, hch⟩) rfl rfl (by omega) (by simp) ?_
            refine px_ifb_ne (tgt := 71) dX0_isStillSame_66 (by decide) (fun hc66 => ?_) (fun hc66 => ?_)
            · refine px_iinc3 rfl (nI_inc i) dX0_isStillSame_71 ?_
              refine px_goto (tgt := 11) dX0_isStillSame_74 (by decide) ?_
              exact hE
            · rw [hsm] at hc66; cases hc66
          · rw [hinf] at hc35; cases hc35
      · have hsf : oSame (aHas (aNeed (aBuild F) k S).A k) (some r) = false := by simpa using hsm
        have hl : aLook (aBuild F) ((k, r) :: U) S = (aNeed (aBuild F) k S, false) := by rw [aLook, if_neg hop2, if_neg hsm]
        rw [hl]
        refine ⟨n1, w1, g1, ?_, hBd⟩
        refine px_iload_n dX0_isStillSame_11 rfl ?_
        refine px_aload_n dX0_isStillSame_12 rfl ?_
        refine px_getfield fl_X0_92 dX0_isStillSame_13 (by first | exact hcell | exact h1 | exact i1 | exact i7.1 | exact hta1.cell.2.choose_spec.choose_spec) (by rfl) ?_
        refine px_icmp_ge (tgt := 77) dX0_isStillSame_16 (by decide) (fun hc16 => ?_) (fun hc16 => ?_)
        · exact absurd hc16 (nI_ge (by omega) (by omega))
        · refine px_aload_n dX0_isStillSame_19 rfl ?_
          refine px_iload_n dX0_isStillSame_20 rfl ?_
          refine px_callV1 (ν := mX4_tracedKey) (ci := 4) rfl rfl lk_X0_95 in_X4_tracedKey se_X4_tracedKey mok_X4_tracedKey dX0_isStillSame_21 (hkey) (by first | exact hcell | exact h1 | exact i1 | exact i7.1 | exact hta1.cell.2.choose_spec.choose_spec) rfl rfl (by omega) (by simp) ?_
          refine px_istore4 rfl dX0_isStillSame_24 ?_
          refine px_aload_n dX0_isStillSame_26 rfl ?_
          refine px_getfield fl_X0_32 dX0_isStillSame_27 (by first | exact hcell | exact h1 | exact i1 | exact i7.1 | exact hta1.cell.2.choose_spec.choose_spec) (by rfl) ?_
          refine px_iload dX0_isStillSame_30 rfl ?_
          refine px_callS1 (ν := mX0_isIn) lk_X0_45 st_X0_isIn mok_X0_isIn dX0_isStillSame_32 (c_X0_isIn _ _) rfl rfl (by omega) (by simp) ?_
          refine px_ifb_eq (tgt := 40) dX0_isStillSame_35 (by decide) (fun hc35 => ?_) (fun hc35 => ?_)
          · refine px_aload_n dX0_isStillSame_40 rfl ?_
            refine px_iload dX0_isStillSame_41 rfl ?_
            refine px_iload_n dX0_isStillSame_43 rfl ?_
            refine px_iconst (v := 1) dX0_isStillSame_44 (by decide) ?_
            refine px_iadd dX0_isStillSame_45 ?_
            rw [hlev]
            refine px_callV0 (ν := mX0_buildTarget) (ci := 0) rfl rfl lk_X0_41 in_X0_buildTarget se_X0_buildTarget mok_X0_buildTarget dX0_isStillSame_46 (hC) (by first | exact hcell | exact h1 | exact i1 | exact i7.1 | exact hta1.cell.2.choose_spec.choose_spec) rfl rfl (by omega) (by simp) ?_
            refine px_aload_n dX0_isStillSame_49 rfl ?_
            refine px_getfield fl_X0_12 dX0_isStillSame_50 (by first | exact hcell | exact h1 | exact i1 | exact i7.1 | exact hta1.cell.2.choose_spec.choose_spec) (by rfl) ?_
            refine px_iload dX0_isStillSame_53 rfl ?_
            refine px_callV1 (ν := mX5_resultOf) (ci := 5) rfl rfl lk_X0_98 in_X5_resultOf se_X5_resultOf mok_X5_resultOf dX0_isStillSame_55 (hq1) (by first | exact hcell | exact h1 | exact i1 | exact i7.1 | exact hta1.cell.2.choose_spec.choose_spec) rfl rfl (by omega) (by simp) ?_
            refine px_aload_n dX0_isStillSame_58 rfl ?_
            refine px_iload_n dX0_isStillSame_59 rfl ?_
            refine px_callV1 (ν := mX4_tracedResult) (ci := 4) rfl rfl lk_X0_101 in_X4_tracedResult se_X4_tracedResult mok_X4_tracedResult dX0_isStillSame_60 (hp) (by first | exact hcell | exact h1 | exact i1 | exact i7.1 | exact hta1.cell.2.choose_spec.choose_spec) rfl rfl (by omega) (by simp) ?_
            refine px_callS1 (ν := mX1_areSame) lk_X0_104 st_X1_areSame mok_X1_areSame dX0_isStillSame_63 (c_X1_areSame hc1 (r2 := some r) ⟨p, rfl, hch⟩) rfl rfl (by omega) (by simp) ?_
            refine px_ifb_ne (tgt := 71) dX0_isStillSame_66 (by decide) (fun hc66 => ?_) (fun hc66 => ?_)
            · rw [hsf] at hc66; cases hc66
            · refine px_iconst (v := 0) dX0_isStillSame_69 (by decide) ?_
              exact px_reti dX0_isStillSame_70 (by rfl) (by rfl)
          · rw [hinf] at hc35; cases hc35
end M23
