/-! a RUN: the loop over the steps -/
theorem isIn_key {op : Int32} {So : Nat → Bool} (h : IsSet op So) {m : Nat} (hm : m < 24) : s_isIn op (nI m) = (decide (8 ≤ m) && So m) := by
  by_cases h8 : m < 8
  · rw [isIn_i h8, show decide (8 ≤ m) = false by simp; omega]; rfl
  · obtain ⟨t, ht, rfl⟩ : ∃ t, t < 16 ∧ m = 8 + t := ⟨m - 8, by omega, by omega⟩
    rw [h t ht, show decide (8 ≤ 8 + t) = true by simp]; rfl
theorem s_pass_a (s : Int32) (x : Int64) (m : Nat) : s_pass s x (nI m) = nI (aPass s x m) := by
  unfold s_pass aPass
  split <;> rfl
theorem nI_dec (k : Nat) : nI (k + 1) + Int32.ofInt (-1) = nI k := pk_m1 k
section M20
variable {B : Nat} {D : va_G} {n w : Nat} {f : Nat → Option va_E} {b : Nat} {A : AW}
theorem RO.ta {t cn : Nat} {dn op sb sr po sp cu wt : Int32} {dk : Nat → Int32} {acc : aAcc} (h : RO f n b t A acc cn dn op sb sr po sp cu wt dk) (ht : t < 16) : IsTA f (b + 1 + 5 + 5 * t) (A.ru (8 + t)) (A.rs (8 + t)) (some acc) := by
  have h1 := h.2.2.1.2.2.2.2.2 t ht
  simp only [AW.set, AW.ru, AW.rs, AW.tr, va_up_self] at h1
  exact h1
theorem IsTA.sg {a : Nat} {ru rs tr} (h : IsTA f a ru rs tr) {i : Nat} {x : Int32 × Nat} (hx : ru[i]? = some x) : CT B D 0 mX4_signAt [.ref a, .int (nI i)] (n, w, f) (some (.int x.1)) (n, w, f) := by
  obtain ⟨c, q, l, sg, fg, tk, tp, h1, h2, h3, h4, h5, h6⟩ := h
  have hil := (List.getElem?_eq_some_iff.mp hx).1
  have hk := c_X4_signAt (B := B) (D := D) (n := n) (w := w) h1 (by rw [h3, nI_toInt (by omega)]; omega) (nI i)
  rw [if_neg (by rw [h3]; rintro (z | z); exact nI_pos (by omega) z; exact nI_ge (by omega) (by omega) z), nI_clamp (by omega), (h4 i x hx).1] at hk
  exact hk
theorem IsTA.fg {a : Nat} {ru rs tr} (h : IsTA f a ru rs tr) {i : Nat} {x : Int32 × Nat} (hx : ru[i]? = some x) : CT B D 0 mX4_figuresAt [.ref a, .int (nI i)] (n, w, f) (some (.int (nI x.2))) (n, w, f) := by
  obtain ⟨c, q, l, sg, fg, tk, tp, h1, h2, h3, h4, h5, h6⟩ := h
  have hil := (List.getElem?_eq_some_iff.mp hx).1
  have hk := c_X4_figuresAt (B := B) (D := D) (n := n) (w := w) h1 (by rw [h3, nI_toInt (by omega)]; omega) (nI i)
  rw [if_neg (by rw [h3]; rintro (z | z); exact nI_pos (by omega) z; exact nI_ge (by omega) (by omega) z), nI_clamp (by omega), (h4 i x hx).2] at hk
  exact hk
theorem IsTA.cell {a : Nat} {ru rs tr} (h : IsTA f a ru rs tr) : ru.length ≤ 12 ∧ ∃ (q : Option Nat) (l : Int32), f a = some (tcell a (nI ru.length) q l) := by
  obtain ⟨c, q, l, sg, fg, tk, tp, h1, h2, h3, h4, h5, h6⟩ := h
  exact ⟨h2, q, l, by rw [← h3]; exact h1.1⟩
theorem r_end {d : Nat} (hd : 6 ≤ d) {t cn : Nat} {dn op sb sr po sp cu wt : Int32} {dk : Nat → Int32} (ht : t < 16) {acc : aAcc} (h : RO f n b t A acc cn dn op sb sr po sp cu wt dk) {i : Nat} (hi : i = (A.ru (8 + t)).length) {v : Int64} {p : Nat} {z7 z8 z9 z10 z11 z12 z13 : Option Value} : RPost B D d 22 [some (.ref b), some (.int (nI (8 + t))), some (.ref (b + 1 + 5 + 5 * t)), some (.long v), none, some (.int (nI p)), some (.int (nI i)), z7, z8, z9, z10, z11, z12, z13] [] n w f b t A cn dn op sb sr po sp cu wt dk (acc, .inl (numR v.toInt32)) := by
  obtain ⟨hlen, q, l, hcell⟩ := (h.ta ht).cell
  subst hi
  obtain ⟨g1, g2, g3⟩ := h.new (e := .inr (1, [.int v.toInt32, .int (-1), .int 0, .int (-1), .null]))
  refine ⟨_, n, ?_, g1, ⟨n, none, rfl, va_up_self _ _ _, rfl⟩, g2, g3⟩
  refine px_iload dX0_runOnce_22 rfl ?_
  refine px_aload_n dX0_runOnce_24 rfl ?_
  refine px_getfield fl_X0_61 dX0_runOnce_25 (by first | exact hcell | exact h.1 | exact va_up_self _ _ _) (by rfl) ?_
  refine px_icmp_ge (tgt := 230) dX0_runOnce_28 (by decide) (fun hc28 => ?_) (fun hc28 => ?_)
  · refine px_lload_n dX0_runOnce_230 rfl ?_
    refine px_l2i dX0_runOnce_231 ?_
    refine px_callS1 (ν := mX1_ofContent) lk_X0_171 st_X1_ofContent mok_X1_ofContent dX0_runOnce_232 (c_X1_ofContent) rfl rfl (by omega) (by simp) ?_
    exact px_reta dX0_runOnce_235 (by rfl) (by rfl)
  · exact absurd (nI_le (Nat.le_refl _) (by omega)) hc28
theorem r_skip {d : Nat} (hd : 6 ≤ d) {t cn : Nat} {dn op sb sr po sp cu wt : Int32} {dk : Nat → Int32} (ht : t < 16) {acc : aAcc} (h : RO f n b t A acc cn dn op sb sr po sp cu wt dk) {i : Nat} {x : Int32 × Nat} (hx : (A.ru (8 + t))[i]? = some x) {v : Int64} {p : Nat} (hp : p < 200) {z7 z8 z9 z10 z11 z12 z13 : Option Value} {r : Option Value} {h1 : pm_H} (hE : EX B D d mX0_runOnce 22 [some (.ref b), some (.int (nI (8 + t))), some (.ref (b + 1 + 5 + 5 * t)), some (.long v), none, some (.int (nI p)), some (.int (nI (i + 1))), z7, z8, z9, z10, z11, z12, z13] [] (n, w, f) r h1) : EX B D d mX0_runOnce 22 [some (.ref b), some (.int (nI (8 + t))), some (.ref (b + 1 + 5 + 5 * t)), some (.long v), none, some (.int (nI (p + 1))), some (.int (nI i)), z7, z8, z9, z10, z11, z12, z13] [] (n, w, f) r h1 := by
  obtain ⟨hlen, q, l, hcell⟩ := (h.ta ht).cell
  have hil := (List.getElem?_eq_some_iff.mp hx).1
  have hbx := h.1
  refine px_iload dX0_runOnce_22 rfl ?_
  refine px_aload_n dX0_runOnce_24 rfl ?_
  refine px_getfield fl_X0_61 dX0_runOnce_25 (by first | exact hcell | exact h.1 | exact va_up_self _ _ _) (by rfl) ?_
  refine px_icmp_ge (tgt := 230) dX0_runOnce_28 (by decide) (fun hc28 => ?_) (fun hc28 => ?_)
  · exact absurd hc28 (nI_ge (by omega) (by omega))
  · refine px_iload dX0_runOnce_31 rfl ?_
    refine px_if_le (tgt := 42) dX0_runOnce_33 (by decide) (fun hc33 => ?_) (fun hc33 => ?_)
    · exact absurd hc33 (fun z => nI_nle (by omega) (by omega) z)
    · refine px_iinc5 rfl (nI_dec p) dX0_runOnce_36 ?_
      refine px_goto (tgt := 224) dX0_runOnce_39 (by decide) ?_
      refine px_iinc6 rfl (nI_inc i) dX0_runOnce_224 ?_
      refine px_goto (tgt := 22) dX0_runOnce_227 (by decide) ?_
      exact hE
theorem r_plain {d : Nat} (hd : 6 ≤ d) {t cn : Nat} {dn op sb sr po sp cu wt : Int32} {dk : Nat → Int32} (ht : t < 16) {acc : aAcc} (h : RO f n b t A acc cn dn op sb sr po sp cu wt dk) {i : Nat} {x : Int32 × Nat} (hx : (A.ru (8 + t))[i]? = some x) (hs : s_asks x.1 = false) {v : Int64} {z7 z8 z9 z10 z11 z12 z13 : Option Value} {r : Option Value} {h1 : pm_H} (hE : EX B D d mX0_runOnce 174 [some (.ref b), some (.int (nI (8 + t))), some (.ref (b + 1 + 5 + 5 * t)), some (.long v), none, some (.int (nI 0)), some (.int (nI i)), some (.int x.1), some (.int (nI x.2)), some (.long (nI x.2).toInt64), none, z11, z12, z13] [] (n, w, f) r h1) : EX B D d mX0_runOnce 22 [some (.ref b), some (.int (nI (8 + t))), some (.ref (b + 1 + 5 + 5 * t)), some (.long v), none, some (.int (nI 0)), some (.int (nI i)), z7, z8, z9, z10, z11, z12, z13] [] (n, w, f) r h1 := by
  obtain ⟨hlen, q, l, hcell⟩ := (h.ta ht).cell
  have hil := (List.getElem?_eq_some_iff.mp hx).1
  have hbx := h.1
  refine px_iload dX0_runOnce_22 rfl ?_
  refine px_aload_n dX0_runOnce_24 rfl ?_
  refine px_getfield fl_X0_61 dX0_runOnce_25 (by first | exact hcell | exact h.1 | exact va_up_self _ _ _) (by rfl) ?_
  refine px_icmp_ge (tgt := 230) dX0_runOnce_28 (by decide) (fun hc28 => ?_) (fun hc28 => ?_)
  · exact absurd hc28 (nI_ge (by omega) (by omega))
  · refine px_iload dX0_runOnce_31 rfl ?_
    refine px_if_le (tgt := 42) dX0_runOnce_33 (by decide) (fun hc33 => ?_) (fun hc33 => ?_)
    · refine px_aload_n dX0_runOnce_42 rfl ?_
      refine px_iload dX0_runOnce_43 rfl ?_
      refine px_callV1 (ν := mX4_signAt) (ci := 4) rfl rfl lk_X0_133 in_X4_signAt se_X4_signAt mok_X4_signAt dX0_runOnce_45 ((h.ta ht).sg hx) (by first | exact hcell | exact h.1 | exact va_up_self _ _ _) rfl rfl (by omega) (by simp) ?_
      refine px_istore7 rfl dX0_runOnce_48 ?_
      refine px_aload_n dX0_runOnce_50 rfl ?_
      refine px_iload dX0_runOnce_51 rfl ?_
      refine px_callV1 (ν := mX4_figuresAt) (ci := 4) rfl rfl lk_X0_136 in_X4_figuresAt se_X4_figuresAt mok_X4_figuresAt dX0_runOnce_53 ((h.ta ht).fg hx) (by first | exact hcell | exact h.1 | exact va_up_self _ _ _) rfl rfl (by omega) (by simp) ?_
      refine px_istore8 rfl dX0_runOnce_56 ?_
      refine px_iload dX0_runOnce_58 rfl ?_
      refine px_i2l dX0_runOnce_60 ?_
      refine px_lstore9 rfl dX0_runOnce_61 ?_
      refine px_iload dX0_runOnce_63 rfl ?_
      refine px_callSN1 (ν := mX6_asksForKey) lk_X0_139 st_X6_asksForKey mok_X6_asksForKey dX0_runOnce_65 (c_X6_asksForKey _) rfl rfl (by omega) (by simp) ?_
      refine px_ifb_eq (tgt := 174) dX0_runOnce_68 (by decide) (fun hc68 => ?_) (fun hc68 => ?_)
      · exact hE
      · rw [hs] at hc68; cases hc68
    · exact absurd (by decide) hc33
theorem r_ring {d : Nat} (hd : 6 ≤ d) {t cn : Nat} {dn op sb sr po sp cu wt : Int32} {dk : Nat → Int32} (ht : t < 16) {acc : aAcc} (h : RO f n b t A acc cn dn op sb sr po sp cu wt dk) {i : Nat} {x : Int32 × Nat} (hx : (A.ru (8 + t))[i]? = some x) (hs : s_asks x.1 = true) (hin : s_isIn op (nI x.2) = true) {v : Int64} {z7 z8 z9 z10 z11 z12 z13 : Option Value} : RPost B D d 22 [some (.ref b), some (.int (nI (8 + t))), some (.ref (b + 1 + 5 + 5 * t)), some (.long v), none, some (.int (nI 0)), some (.int (nI i)), z7, z8, z9, z10, z11, z12, z13] [] n w f b t A cn dn op sb sr po sp cu wt dk (acc, .inl [(0, nI (8 + t), 1, nI i)]) := by
  obtain ⟨hlen, q, l, hcell⟩ := (h.ta ht).cell
  have hil := (List.getElem?_eq_some_iff.mp hx).1
  have hbx := h.1
  obtain ⟨g1, g2, g3⟩ := h.new (e := .inr (1, [.int 0, .int (nI (8 + t)), .int 1, .int (nI i), .null]))
  refine ⟨_, n, ?_, g1, ⟨n, none, rfl, va_up_self _ _ _, rfl⟩, g2, g3⟩
  refine px_iload dX0_runOnce_22 rfl ?_
  refine px_aload_n dX0_runOnce_24 rfl ?_
  refine px_getfield fl_X0_61 dX0_runOnce_25 (by first | exact hcell | exact h.1 | exact va_up_self _ _ _) (by rfl) ?_
  refine px_icmp_ge (tgt := 230) dX0_runOnce_28 (by decide) (fun hc28 => ?_) (fun hc28 => ?_)
  · exact absurd hc28 (nI_ge (by omega) (by omega))
  · refine px_iload dX0_runOnce_31 rfl ?_
    refine px_if_le (tgt := 42) dX0_runOnce_33 (by decide) (fun hc33 => ?_) (fun hc33 => ?_)
    · refine px_aload_n dX0_runOnce_42 rfl ?_
      refine px_iload dX0_runOnce_43 rfl ?_
      refine px_callV1 (ν := mX4_signAt) (ci := 4) rfl rfl lk_X0_133 in_X4_signAt se_X4_signAt mok_X4_signAt dX0_runOnce_45 ((h.ta ht).sg hx) (by first | exact hcell | exact h.1 | exact va_up_self _ _ _) rfl rfl (by omega) (by simp) ?_
      refine px_istore7 rfl dX0_runOnce_48 ?_
      refine px_aload_n dX0_runOnce_50 rfl ?_
      refine px_iload dX0_runOnce_51 rfl ?_
      refine px_callV1 (ν := mX4_figuresAt) (ci := 4) rfl rfl lk_X0_136 in_X4_figuresAt se_X4_figuresAt mok_X4_figuresAt dX0_runOnce_53 ((h.ta ht).fg hx) (by first | exact hcell | exact h.1 | exact va_up_self _ _ _) rfl rfl (by omega) (by simp) ?_
      refine px_istore8 rfl dX0_runOnce_56 ?_
      refine px_iload dX0_runOnce_58 rfl ?_
      refine px_i2l dX0_runOnce_60 ?_
      refine px_lstore9 rfl dX0_runOnce_61 ?_
      refine px_iload dX0_runOnce_63 rfl ?_
      refine px_callSN1 (ν := mX6_asksForKey) lk_X0_139 st_X6_asksForKey mok_X6_asksForKey dX0_runOnce_65 (c_X6_asksForKey _) rfl rfl (by omega) (by simp) ?_
      refine px_ifb_eq (tgt := 174) dX0_runOnce_68 (by decide) (fun hc68 => ?_) (fun hc68 => ?_)
      · rw [hs] at hc68; cases hc68
      · refine px_aload_n dX0_runOnce_71 rfl ?_
        refine px_getfield fl_X0_32 dX0_runOnce_72 (by first | exact hcell | exact h.1 | exact va_up_self _ _ _) (by rfl) ?_
        refine px_iload dX0_runOnce_75 rfl ?_
        refine px_callS1 (ν := mX0_isIn) lk_X0_45 st_X0_isIn mok_X0_isIn dX0_runOnce_77 (c_X0_isIn _ _) rfl rfl (by omega) (by simp) ?_
        refine px_ifb_eq (tgt := 92) dX0_runOnce_80 (by decide) (fun hc80 => ?_) (fun hc80 => ?_)
        · rw [hin] at hc80; cases hc80
        · refine px_iload_n dX0_runOnce_83 rfl ?_
          refine px_iconst (v := 1) dX0_runOnce_84 (by decide) ?_
          refine px_iload dX0_runOnce_85 rfl ?_
          refine px_null dX0_runOnce_87 ?_
          refine px_callS1 (ν := mX1_ofFailure) lk_X0_142 st_X1_ofFailure mok_X1_ofFailure dX0_runOnce_88 (c_X1_ofFailure (q := none)) rfl rfl (by omega) (by simp) ?_
          exact px_reta dX0_runOnce_91 (by rfl) (by rfl)
    · exact absurd (by decide) hc33
theorem r_off {d : Nat} (hd : 6 ≤ d) {t cn : Nat} {dn op sb sr po sp cu wt : Int32} {dk : Nat → Int32} (ht : t < 16) {acc : aAcc} (h : RO f n b t A acc cn dn op sb sr po sp cu wt dk) {i : Nat} {x : Int32 × Nat} (hx : (A.ru (8 + t))[i]? = some x) (hs : s_asks x.1 = true) (hin : s_isIn op (nI x.2) = false) {v : Int64} {z7 z8 z9 z10 z11 z12 z13 : Option Value} (hR : ∀ (r : Option Value) (h1 : pm_H), EX B D d mX0_runOnce 125 [some (.ref b), some (.int (nI (8 + t))), some (.ref (b + 1 + 5 + 5 * t)), some (.long v), none, some (.int (nI 0)), some (.int (nI i)), some (.int x.1), some (.int (nI x.2)), some (.long (nI x.2).toInt64), none, z11, z12, z13] [.null] (n, w, f) r h1 → EX B D d mX0_runOnce 92 [some (.ref b), some (.int (nI (8 + t))), some (.ref (b + 1 + 5 + 5 * t)), some (.long v), none, some (.int (nI 0)), some (.int (nI i)), some (.int x.1), some (.int (nI x.2)), some (.long (nI x.2).toInt64), none, z11, z12, z13] [] (n, w, f) r h1) : RPost B D d 22 [some (.ref b), some (.int (nI (8 + t))), some (.ref (b + 1 + 5 + 5 * t)), some (.long v), none, some (.int (nI 0)), some (.int (nI i)), z7, z8, z9, z10, z11, z12, z13] [] n w f b t A cn dn op sb sr po sp cu wt dk (acc, .inr x.2) := by
  obtain ⟨hlen, q, l, hcell⟩ := (h.ta ht).cell
  have hil := (List.getElem?_eq_some_iff.mp hx).1
  have hbx := h.1
  have hb := h.2.2.2.lt h.1
  have hk : keeps f (va_up f b (some (bcell b cn dn op sb sr po sp cu (nI x.2)))) := keeps_at h.1 (fun fs e => by cases e)
  have hA : Ag f (va_up f b (some (bcell b cn dn op sb sr po sp cu (nI x.2)))) b (b + 1) n := (Ag.rf _ _ _ _).up (by omega) (by omega)
  refine ⟨_, ?_, ⟨va_up_self _ _ _, by rw [va_up_ne _ _ (by omega)]; exact h.2.1, h.2.2.1.ag hA (h.2.2.1.top h.2.2.2) (Or.inr (Nat.le_refl _)) hk, h.2.2.2.up hb⟩, hA.wide (Nat.le_refl _) (by omega), hk⟩
  refine px_iload dX0_runOnce_22 rfl ?_
  refine px_aload_n dX0_runOnce_24 rfl ?_
  refine px_getfield fl_X0_61 dX0_runOnce_25 (by first | exact hcell | exact h.1 | exact va_up_self _ _ _) (by rfl) ?_
  refine px_icmp_ge (tgt := 230) dX0_runOnce_28 (by decide) (fun hc28 => ?_) (fun hc28 => ?_)
  · exact absurd hc28 (nI_ge (by omega) (by omega))
  · refine px_iload dX0_runOnce_31 rfl ?_
    refine px_if_le (tgt := 42) dX0_runOnce_33 (by decide) (fun hc33 => ?_) (fun hc33 => ?_)
    · refine px_aload_n dX0_runOnce_42 rfl ?_
      refine px_iload dX0_runOnce_43 rfl ?_
      refine px_callV1 (ν := mX4_signAt) (ci := 4) rfl rfl lk_X0_133 in_X4_signAt se_X4_signAt mok_X4_signAt dX0_runOnce_45 ((h.ta ht).sg hx) (by first | exact hcell | exact h.1 | exact va_up_self _ _ _) rfl rfl (by omega) (by simp) ?_
      refine px_istore7 rfl dX0_runOnce_48 ?_
      refine px_aload_n dX0_runOnce_50 rfl ?_
      refine px_iload dX0_runOnce_51 rfl ?_
      refine px_callV1 (ν := mX4_figuresAt) (ci := 4) rfl rfl lk_X0_136 in_X4_figuresAt se_X4_figuresAt mok_X4_figuresAt dX0_runOnce_53 ((h.ta ht).fg hx) (by first | exact hcell | exact h.1 | exact va_up_self _ _ _) rfl rfl (by omega) (by simp) ?_
      refine px_istore8 rfl dX0_runOnce_56 ?_
      refine px_iload dX0_runOnce_58 rfl ?_
      refine px_i2l dX0_runOnce_60 ?_
      refine px_lstore9 rfl dX0_runOnce_61 ?_
      refine px_iload dX0_runOnce_63 rfl ?_
      refine px_callSN1 (ν := mX6_asksForKey) lk_X0_139 st_X6_asksForKey mok_X6_asksForKey dX0_runOnce_65 (c_X6_asksForKey _) rfl rfl (by omega) (by simp) ?_
      refine px_ifb_eq (tgt := 174) dX0_runOnce_68 (by decide) (fun hc68 => ?_) (fun hc68 => ?_)
      · rw [hs] at hc68; cases hc68
      · refine px_aload_n dX0_runOnce_71 rfl ?_
        refine px_getfield fl_X0_32 dX0_runOnce_72 (by first | exact hcell | exact h.1 | exact va_up_self _ _ _) (by rfl) ?_
        refine px_iload dX0_runOnce_75 rfl ?_
        refine px_callS1 (ν := mX0_isIn) lk_X0_45 st_X0_isIn mok_X0_isIn dX0_runOnce_77 (c_X0_isIn _ _) rfl rfl (by omega) (by simp) ?_
        refine px_ifb_eq (tgt := 92) dX0_runOnce_80 (by decide) (fun hc80 => ?_) (fun hc80 => ?_)
        · refine hR _ _ ?_
          refine px_astoreN11 rfl dX0_runOnce_125 ?_
          refine px_aloadN dX0_runOnce_127 rfl ?_
          refine px_ifnonnull_f dX0_runOnce_129 ?_
          refine px_aload_n dX0_runOnce_132 rfl ?_
          refine px_iload dX0_runOnce_133 rfl ?_
          refine px_putfield fp_X0_117 dX0_runOnce_135 (by first | exact hcell | exact h.1 | exact va_up_self _ _ _) rfl rfl (by simp) ?_
          refine px_null dX0_runOnce_138 ?_
          exact px_reta dX0_runOnce_139 (by rfl) (by rfl)
        · rw [hin] at hc80; cases hc80
    · exact absurd (by decide) hc33
theorem r_needs {d : Nat} (hd : 6 ≤ d) {t cn : Nat} {dn op sb sr po sp cu wt : Int32} {dk : Nat → Int32} (ht : t < 16) {acc : aAcc} (h : RO f n b t A acc cn dn op sb sr po sp cu wt dk) {i : Nat} {x : Int32 × Nat} (hx : (A.ru (8 + t))[i]? = some x) (hs : s_asks x.1 = true) (hin : s_isIn op (nI x.2) = false) {p : Nat} {v : Int64} {z7 z8 z9 z10 z11 z12 z13 : Option Value} (hR : ∀ (r : Option Value) (h1 : pm_H), EX B D d mX0_runOnce 125 [some (.ref b), some (.int (nI (8 + t))), some (.ref (b + 1 + 5 + 5 * t)), some (.long v), none, some (.int (nI 0)), some (.int (nI i)), some (.int x.1), some (.int (nI x.2)), some (.long (nI x.2).toInt64), none, z11, z12, z13] [.ref p] (n, w, f) r h1 → EX B D d mX0_runOnce 92 [some (.ref b), some (.int (nI (8 + t))), some (.ref (b + 1 + 5 + 5 * t)), some (.long v), none, some (.int (nI 0)), some (.int (nI i)), some (.int x.1), some (.int (nI x.2)), some (.long (nI x.2).toInt64), none, z11, z12, z13] [] (n, w, f) r h1) {g : Nat → Option va_E} (hN : CT B D 2 mX4_noteInTrace [.ref (b + 1 + 5 + 5 * t), .int (nI x.2), .ref p] (n, w, f) none (n, w, g)) {acc' : aAcc} (hg : RO g n b t A acc' cn dn op sb sr po sp cu wt dk) (hA : Ag f g b (b + 111) n) (hkp : keeps f g) {c k s tt : Int32} {q' : Option Nat} {rr : List Q4} (hpc : g p = some (.inr (1, [.int c, .int k, .int s, .int tt, va_rf q']))) (hrr : ch g rr q') (hs0 : ¬ s = 0) : RPost B D d 22 [some (.ref b), some (.int (nI (8 + t))), some (.ref (b + 1 + 5 + 5 * t)), some (.long v), none, some (.int (nI 0)), some (.int (nI i)), z7, z8, z9, z10, z11, z12, z13] [] n w f b t A cn dn op sb sr po sp cu wt dk (acc', .inl ((0, nI (8 + t), 5, nI i) :: (c, k, s, tt) :: rr)) := by
  obtain ⟨hlen, q, l, hcell⟩ := (h.ta ht).cell
  have hil := (List.getElem?_eq_some_iff.mp hx).1
  have hbx := h.1
  obtain ⟨g1, g2, g3⟩ := hg.new (e := .inr (1, [.int 0, .int (nI (8 + t)), .int 5, .int (nI i), .ref p]))
  refine ⟨_, n, ?_, g1, ⟨n, some p, rfl, va_up_self _ _ _, p, q', rfl, g3 _ _ hpc, ch_keep g3 _ _ hrr⟩, hA.tra g2 (Nat.le_refl _), keeps_tr hkp g3⟩
  refine px_iload dX0_runOnce_22 rfl ?_
  refine px_aload_n dX0_runOnce_24 rfl ?_
  refine px_getfield fl_X0_61 dX0_runOnce_25 (by first | exact hcell | exact h.1 | exact hpc | exact va_up_self _ _ _) (by rfl) ?_
  refine px_icmp_ge (tgt := 230) dX0_runOnce_28 (by decide) (fun hc28 => ?_) (fun hc28 => ?_)
  · exact absurd hc28 (nI_ge (by omega) (by omega))
  · refine px_iload dX0_runOnce_31 rfl ?_
    refine px_if_le (tgt := 42) dX0_runOnce_33 (by decide) (fun hc33 => ?_) (fun hc33 => ?_)
    · refine px_aload_n dX0_runOnce_42 rfl ?_
      refine px_iload dX0_runOnce_43 rfl ?_
      refine px_callV1 (ν := mX4_signAt) (ci := 4) rfl rfl lk_X0_133 in_X4_signAt se_X4_signAt mok_X4_signAt dX0_runOnce_45 ((h.ta ht).sg hx) (by first | exact hcell | exact h.1 | exact hpc | exact va_up_self _ _ _) rfl rfl (by omega) (by simp) ?_
      refine px_istore7 rfl dX0_runOnce_48 ?_
      refine px_aload_n dX0_runOnce_50 rfl ?_
      refine px_iload dX0_runOnce_51 rfl ?_
      refine px_callV1 (ν := mX4_figuresAt) (ci := 4) rfl rfl lk_X0_136 in_X4_figuresAt se_X4_figuresAt mok_X4_figuresAt dX0_runOnce_53 ((h.ta ht).fg hx) (by first | exact hcell | exact h.1 | exact hpc | exact va_up_self _ _ _) rfl rfl (by omega) (by simp) ?_
      refine px_istore8 rfl dX0_runOnce_56 ?_
      refine px_iload dX0_runOnce_58 rfl ?_
      refine px_i2l dX0_runOnce_60 ?_
      refine px_lstore9 rfl dX0_runOnce_61 ?_
      refine px_iload dX0_runOnce_63 rfl ?_
      refine px_callSN1 (ν := mX6_asksForKey) lk_X0_139 st_X6_asksForKey mok_X6_asksForKey dX0_runOnce_65 (c_X6_asksForKey _) rfl rfl (by omega) (by simp) ?_
      refine px_ifb_eq (tgt := 174) dX0_runOnce_68 (by decide) (fun hc68 => ?_) (fun hc68 => ?_)
      · rw [hs] at hc68; cases hc68
      · refine px_aload_n dX0_runOnce_71 rfl ?_
        refine px_getfield fl_X0_32 dX0_runOnce_72 (by first | exact hcell | exact h.1 | exact hpc | exact va_up_self _ _ _) (by rfl) ?_
        refine px_iload dX0_runOnce_75 rfl ?_
        refine px_callS1 (ν := mX0_isIn) lk_X0_45 st_X0_isIn mok_X0_isIn dX0_runOnce_77 (c_X0_isIn _ _) rfl rfl (by omega) (by simp) ?_
        refine px_ifb_eq (tgt := 92) dX0_runOnce_80 (by decide) (fun hc80 => ?_) (fun hc80 => ?_)
        · refine hR _ _ ?_
          refine px_astore11 rfl dX0_runOnce_125 ?_
          refine px_aload dX0_runOnce_127 rfl ?_
          refine px_ifnonnull_t (tgt := 140) dX0_runOnce_129 (by decide) ?_
          refine px_aload_n dX0_runOnce_140 rfl ?_
          refine px_iload dX0_runOnce_141 rfl ?_
          refine px_aload dX0_runOnce_143 rfl ?_
          refine px_callV0 (ν := mX4_noteInTrace) (ci := 4) rfl rfl lk_X0_149 in_X4_noteInTrace se_X4_noteInTrace mok_X4_noteInTrace dX0_runOnce_145 (hN) (by first | exact hcell | exact h.1 | exact hpc | exact va_up_self _ _ _) rfl rfl (by omega) (by simp) ?_
          refine px_aload dX0_runOnce_148 rfl ?_
          refine px_callV1 (ν := mX1_isFailure) (ci := 1) rfl rfl lk_X0_153 in_X1_isFailure se_X1_isFailure mok_X1_isFailure dX0_runOnce_150 (c_X1_isFailure hpc) (by first | exact hcell | exact h.1 | exact hpc | exact va_up_self _ _ _) rfl rfl (by omega) (by simp) ?_
          refine px_ifb_eq (tgt := 166) dX0_runOnce_153 (by decide) (fun hc153 => ?_) (fun hc153 => ?_)
          · simp [hs0] at hc153
          · refine px_iload_n dX0_runOnce_156 rfl ?_
            refine px_iconst (v := 5) dX0_runOnce_157 (by decide) ?_
            refine px_iload dX0_runOnce_158 rfl ?_
            refine px_aload dX0_runOnce_160 rfl ?_
            refine px_callS1 (ν := mX1_ofFailure) lk_X0_142 st_X1_ofFailure mok_X1_ofFailure dX0_runOnce_162 (c_X1_ofFailure (q := some p)) rfl rfl (by omega) (by simp) ?_
            exact px_reta dX0_runOnce_165 (by rfl) (by rfl)
        · rw [hin] at hc80; cases hc80
    · exact absurd (by decide) hc33
theorem r_got {d : Nat} (hd : 6 ≤ d) {t cn : Nat} {dn op sb sr po sp cu wt : Int32} {dk : Nat → Int32} (ht : t < 16) {acc : aAcc} (h : RO f n b t A acc cn dn op sb sr po sp cu wt dk) {i : Nat} {x : Int32 × Nat} (hx : (A.ru (8 + t))[i]? = some x) (hs : s_asks x.1 = true) (hin : s_isIn op (nI x.2) = false) {p : Nat} {v : Int64} {z7 z8 z9 z10 z11 z12 z13 : Option Value} (hR : ∀ (r : Option Value) (h1 : pm_H), EX B D d mX0_runOnce 125 [some (.ref b), some (.int (nI (8 + t))), some (.ref (b + 1 + 5 + 5 * t)), some (.long v), none, some (.int (nI 0)), some (.int (nI i)), some (.int x.1), some (.int (nI x.2)), some (.long (nI x.2).toInt64), none, z11, z12, z13] [.ref p] (n, w, f) r h1 → EX B D d mX0_runOnce 92 [some (.ref b), some (.int (nI (8 + t))), some (.ref (b + 1 + 5 + 5 * t)), some (.long v), none, some (.int (nI 0)), some (.int (nI i)), some (.int x.1), some (.int (nI x.2)), some (.long (nI x.2).toInt64), none, z11, z12, z13] [] (n, w, f) r h1) {g : Nat → Option va_E} (hN : CT B D 2 mX4_noteInTrace [.ref (b + 1 + 5 + 5 * t), .int (nI x.2), .ref p] (n, w, f) none (n, w, g)) {acc' : aAcc} (hg : RO g n b t A acc' cn dn op sb sr po sp cu wt dk) (hA : Ag f g b (b + 111) n) (hkp : keeps f g) {c k s tt : Int32} {q' : Option Nat} {rr : List Q4} (hpc : g p = some (.inr (1, [.int c, .int k, .int s, .int tt, va_rf q']))) (hrr : ch g rr q') (hs0 : s = 0) {r : Option Value} {h1 : pm_H} (hE : EX B D d mX0_runOnce 174 [some (.ref b), some (.int (nI (8 + t))), some (.ref (b + 1 + 5 + 5 * t)), some (.long v), none, some (.int (nI 0)), some (.int (nI i)), some (.int x.1), some (.int (nI x.2)), some (.long c.toInt64), none, some (.ref p), z12, z13] [] (n, w, g) r h1) : EX B D d mX0_runOnce 22 [some (.ref b), some (.int (nI (8 + t))), some (.ref (b + 1 + 5 + 5 * t)), some (.long v), none, some (.int (nI 0)), some (.int (nI i)), z7, z8, z9, z10, z11, z12, z13] [] (n, w, f) r h1 := by
  obtain ⟨hlen, q, l, hcell⟩ := (h.ta ht).cell
  have hil := (List.getElem?_eq_some_iff.mp hx).1
  have hbx := h.1
  refine px_iload dX0_runOnce_22 rfl ?_
  refine px_aload_n dX0_runOnce_24 rfl ?_
  refine px_getfield fl_X0_61 dX0_runOnce_25 (by first | exact hcell | exact h.1 | exact hpc | exact va_up_self _ _ _) (by rfl) ?_
  refine px_icmp_ge (tgt := 230) dX0_runOnce_28 (by decide) (fun hc28 => ?_) (fun hc28 => ?_)
  · exact absurd hc28 (nI_ge (by omega) (by omega))
  · refine px_iload dX0_runOnce_31 rfl ?_
    refine px_if_le (tgt := 42) dX0_runOnce_33 (by decide) (fun hc33 => ?_) (fun hc33 => ?_)
    · refine px_aload_n dX0_runOnce_42 rfl ?_
      refine px_iload dX0_runOnce_43 rfl ?_
      refine px_callV1 (ν := mX4_signAt) (ci := 4) rfl rfl lk_X0_133 in_X4_signAt se_X4_signAt mok_X4_signAt dX0_runOnce_45 ((h.ta ht).sg hx) (by first | exact hcell | exact h.1 | exact hpc | exact va_up_self _ _ _) rfl rfl (by omega) (by simp) ?_
      refine px_istore7 rfl dX0_runOnce_48 ?_
      refine px_aload_n dX0_runOnce_50 rfl ?_
      refine px_iload dX0_runOnce_51 rfl ?_
      refine px_callV1 (ν := mX4_figuresAt) (ci := 4) rfl rfl lk_X0_136 in_X4_figuresAt se_X4_figuresAt mok_X4_figuresAt dX0_runOnce_53 ((h.ta ht).fg hx) (by first | exact hcell | exact h.1 | exact hpc | exact va_up_self _ _ _) rfl rfl (by omega) (by simp) ?_
      refine px_istore8 rfl dX0_runOnce_56 ?_
      refine px_iload dX0_runOnce_58 rfl ?_
      refine px_i2l dX0_runOnce_60 ?_
      refine px_lstore9 rfl dX0_runOnce_61 ?_
      refine px_iload dX0_runOnce_63 rfl ?_
      refine px_callSN1 (ν := mX6_asksForKey) lk_X0_139 st_X6_asksForKey mok_X6_asksForKey dX0_runOnce_65 (c_X6_asksForKey _) rfl rfl (by omega) (by simp) ?_
      refine px_ifb_eq (tgt := 174) dX0_runOnce_68 (by decide) (fun hc68 => ?_) (fun hc68 => ?_)
      · rw [hs] at hc68; cases hc68
      · refine px_aload_n dX0_runOnce_71 rfl ?_
        refine px_getfield fl_X0_32 dX0_runOnce_72 (by first | exact hcell | exact h.1 | exact hpc | exact va_up_self _ _ _) (by rfl) ?_
        refine px_iload dX0_runOnce_75 rfl ?_
        refine px_callS1 (ν := mX0_isIn) lk_X0_45 st_X0_isIn mok_X0_isIn dX0_runOnce_77 (c_X0_isIn _ _) rfl rfl (by omega) (by simp) ?_
        refine px_ifb_eq (tgt := 92) dX0_runOnce_80 (by decide) (fun hc80 => ?_) (fun hc80 => ?_)
        · refine hR _ _ ?_
          refine px_astore11 rfl dX0_runOnce_125 ?_
          refine px_aload dX0_runOnce_127 rfl ?_
          refine px_ifnonnull_t (tgt := 140) dX0_runOnce_129 (by decide) ?_
          refine px_aload_n dX0_runOnce_140 rfl ?_
          refine px_iload dX0_runOnce_141 rfl ?_
          refine px_aload dX0_runOnce_143 rfl ?_
          refine px_callV0 (ν := mX4_noteInTrace) (ci := 4) rfl rfl lk_X0_149 in_X4_noteInTrace se_X4_noteInTrace mok_X4_noteInTrace dX0_runOnce_145 (hN) (by first | exact hcell | exact h.1 | exact hpc | exact va_up_self _ _ _) rfl rfl (by omega) (by simp) ?_
          refine px_aload dX0_runOnce_148 rfl ?_
          refine px_callV1 (ν := mX1_isFailure) (ci := 1) rfl rfl lk_X0_153 in_X1_isFailure se_X1_isFailure mok_X1_isFailure dX0_runOnce_150 (c_X1_isFailure hpc) (by first | exact hcell | exact h.1 | exact hpc | exact va_up_self _ _ _) rfl rfl (by omega) (by simp) ?_
          refine px_ifb_eq (tgt := 166) dX0_runOnce_153 (by decide) (fun hc153 => ?_) (fun hc153 => ?_)
          · refine px_aload dX0_runOnce_166 rfl ?_
            refine px_getfield fl_X0_156 dX0_runOnce_168 (by first | exact hcell | exact h.1 | exact hpc | exact va_up_self _ _ _) (by rfl) ?_
            refine px_i2l dX0_runOnce_171 ?_
            refine px_lstore9 rfl dX0_runOnce_172 ?_
            exact hE
          · simp [hs0] at hc153
        · rw [hin] at hc80; cases hc80
    · exact absurd (by decide) hc33
theorem r_next {d : Nat} (hd : 6 ≤ d) {t cn : Nat} {dn op sb sr po sp cu wt : Int32} {dk : Nat → Int32} (ht : t < 16) {acc : aAcc} (h : RO f n b t A acc cn dn op sb sr po sp cu wt dk) {i : Nat} {x : Int32 × Nat} (hx : (A.ru (8 + t))[i]? = some x) {v bb : Int64} (hs0 : s_fsort x.1 v bb (s_worked x.1 v bb) = 0) {z7 z8 z9 z10 z11 z12 z13 : Option Value} {r : Option Value} {h1 : pm_H} (hE : EX B D d mX0_runOnce 22 [some (.ref b), some (.int (nI (8 + t))), some (.ref (b + 1 + 5 + 5 * t)), some (.long (s_worked x.1 v bb)), none, some (.int (nI (aPass x.1 (s_worked x.1 v bb) x.2))), some (.int (nI (i + 1))), some (.int x.1), some (.int (nI x.2)), some (.long bb), none, some (.long (s_worked x.1 v bb)), none, some (.int (s_fsort x.1 v bb (s_worked x.1 v bb)))] [] (n, w, f) r h1) : EX B D d mX0_runOnce 174 [some (.ref b), some (.int (nI (8 + t))), some (.ref (b + 1 + 5 + 5 * t)), some (.long v), none, some (.int (nI 0)), some (.int (nI i)), some (.int x.1), some (.int (nI x.2)), some (.long bb), none, z11, z12, z13] [] (n, w, f) r h1 := by
  refine px_iload dX0_runOnce_174 rfl ?_
  refine px_lload_n dX0_runOnce_176 rfl ?_
  refine px_lload dX0_runOnce_177 rfl ?_
  refine px_callS1 (ν := mX0_worked) lk_X0_159 st_X0_worked mok_X0_worked dX0_runOnce_179 (c_X0_worked _ _ _) rfl rfl (by omega) (by simp) ?_
  refine px_lstore11 rfl dX0_runOnce_182 ?_
  refine px_iload dX0_runOnce_184 rfl ?_
  refine px_lload_n dX0_runOnce_186 rfl ?_
  refine px_lload dX0_runOnce_187 rfl ?_
  refine px_lload dX0_runOnce_189 rfl ?_
  refine px_callS1 (ν := mX0_failingSort) lk_X0_163 st_X0_failingSort mok_X0_failingSort dX0_runOnce_191 (c_X0_failingSort _ _ _ _) rfl rfl (by omega) (by simp) ?_
  refine px_istore13 rfl dX0_runOnce_194 ?_
  refine px_iload dX0_runOnce_196 rfl ?_
  refine px_if_eq (tgt := 211) dX0_runOnce_198 (by decide) (fun hc198 => ?_) (fun hc198 => ?_)
  · refine px_lload dX0_runOnce_211 rfl ?_
    refine px_lstore3 rfl dX0_runOnce_213 ?_
    refine px_iload dX0_runOnce_214 rfl ?_
    refine px_lload_n dX0_runOnce_216 rfl ?_
    refine px_iload dX0_runOnce_217 rfl ?_
    refine px_callS1 (ν := mX0_stepsToPass) lk_X0_167 st_X0_stepsToPass mok_X0_stepsToPass dX0_runOnce_219 (c_X0_stepsToPass _ _ _) rfl rfl (by omega) (by simp) ?_
    rw [s_pass_a]
    refine px_istore5 rfl dX0_runOnce_222 ?_
    refine px_iinc6 rfl (nI_inc i) dX0_runOnce_224 ?_
    refine px_goto (tgt := 22) dX0_runOnce_227 (by decide) ?_
    exact hE
  · exact absurd hs0 hc198
theorem r_fail {d : Nat} (hd : 6 ≤ d) {t cn : Nat} {dn op sb sr po sp cu wt : Int32} {dk : Nat → Int32} (ht : t < 16) {acc : aAcc} (h : RO f n b t A acc cn dn op sb sr po sp cu wt dk) {i : Nat} {x : Int32 × Nat} (hx : (A.ru (8 + t))[i]? = some x) {v bb : Int64} (hs0 : ¬ s_fsort x.1 v bb (s_worked x.1 v bb) = 0) {z7 z8 z9 z10 z11 z12 z13 : Option Value} : RPost B D d 174 [some (.ref b), some (.int (nI (8 + t))), some (.ref (b + 1 + 5 + 5 * t)), some (.long v), none, some (.int (nI 0)), some (.int (nI i)), some (.int x.1), some (.int (nI x.2)), some (.long bb), none, z11, z12, z13] [] n w f b t A cn dn op sb sr po sp cu wt dk (acc, .inl [(0, nI (8 + t), s_fsort x.1 v bb (s_worked x.1 v bb), nI i)]) := by
  obtain ⟨g1, g2, g3⟩ := h.new (e := .inr (1, [.int 0, .int (nI (8 + t)), .int (s_fsort x.1 v bb (s_worked x.1 v bb)), .int (nI i), .null]))
  refine ⟨_, n, ?_, g1, ⟨n, none, rfl, va_up_self _ _ _, rfl⟩, g2, g3⟩
  refine px_iload dX0_runOnce_174 rfl ?_
  refine px_lload_n dX0_runOnce_176 rfl ?_
  refine px_lload dX0_runOnce_177 rfl ?_
  refine px_callS1 (ν := mX0_worked) lk_X0_159 st_X0_worked mok_X0_worked dX0_runOnce_179 (c_X0_worked _ _ _) rfl rfl (by omega) (by simp) ?_
  refine px_lstore11 rfl dX0_runOnce_182 ?_
  refine px_iload dX0_runOnce_184 rfl ?_
  refine px_lload_n dX0_runOnce_186 rfl ?_
  refine px_lload dX0_runOnce_187 rfl ?_
  refine px_lload dX0_runOnce_189 rfl ?_
  refine px_callS1 (ν := mX0_failingSort) lk_X0_163 st_X0_failingSort mok_X0_failingSort dX0_runOnce_191 (c_X0_failingSort _ _ _ _) rfl rfl (by omega) (by simp) ?_
  refine px_istore13 rfl dX0_runOnce_194 ?_
  refine px_iload dX0_runOnce_196 rfl ?_
  refine px_if_eq (tgt := 211) dX0_runOnce_198 (by decide) (fun hc198 => ?_) (fun hc198 => ?_)
  · exact absurd hc198 hs0
  · refine px_iload_n dX0_runOnce_201 rfl ?_
    refine px_iload dX0_runOnce_202 rfl ?_
    refine px_iload dX0_runOnce_204 rfl ?_
    refine px_null dX0_runOnce_206 ?_
    refine px_callS1 (ν := mX1_ofFailure) lk_X0_142 st_X1_ofFailure mok_X1_ofFailure dX0_runOnce_207 (c_X1_ofFailure (q := none)) rfl rfl (by omega) (by simp) ?_
    exact px_reta dX0_runOnce_210 (by rfl) (by rfl)
end M20
