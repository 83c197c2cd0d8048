/-! what changes a World, or a TARGET of it -/
theorem Ag.keeps {f g : Nat → Option va_E} {lo hi n : Nat} (h : Ag f g lo hi n) (hwf : ∀ (a : Nat) (fs : List Value), f a = some (.inr (1, fs)) → a < n ∧ (a < lo ∨ hi ≤ a)) : keeps f g := fun a fs e => by rw [h a (hwf a fs e).1 (hwf a fs e).2]; exact e
/-- all cells lie below n -/
def wfH (f : Nat → Option va_E) (n : Nat) : Prop := ∀ (a : Nat), n ≤ a → f a = none
theorem wfH.lt {f : Nat → Option va_E} {n a : Nat} {e : va_E} (h : wfH f n) (he : f a = some e) : a < n := by
  rcases Nat.lt_or_ge a n with h1 | h1
  · exact h1
  · rw [h a h1] at he; cases he
theorem wfH.up {f : Nat → Option va_E} {n a : Nat} {e : va_E} (h : wfH f n) (ha : a < n) : wfH (va_up f a (some e)) n := fun b hb => by rw [va_up_ne _ _ (by omega)]; exact h b hb
theorem wfH.new {f : Nat → Option va_E} {n : Nat} {e : va_E} (h : wfH f n) : wfH (va_up f n (some e)) (n + 1) := fun b hb => by rw [va_up_ne _ _ (by omega)]; exact h b (by omega)
theorem keeps_new {f : Nat → Option va_E} {n : Nat} {e : Option va_E} (h : wfH f n) : keeps f (va_up f n e) := keeps_up (fun fs he => by rw [h n (Nat.le_refl _)] at he; cases he)
theorem keeps_at {f : Nat → Option va_E} {a : Nat} {e : Option va_E} {e0 : va_E} (h : f a = some e0) (h1 : ∀ fs, e0 ≠ .inr (1, fs)) : keeps f (va_up f a e) := keeps_up (fun fs he => by rw [h] at he; cases he; exact h1 fs rfl)
def AW.give (A : AW) (k : Nat) (c : Option Int32) : AW := (va_up A.inn k c, A.2)
/-- a TARGET's rule, result, trace become others -/
def AW.put (A : AW) (k : Nat) (ru : List (Int32 × Nat)) (rs : Option (List Q4)) (tr : Option (List (Nat × List Q4))) : AW := (A.inn, va_up A.ru k ru, va_up A.rs k rs, va_up A.tr k tr)
/-- a World in which one TARGET's cells were written -/
theorem IsW.put {f g : Nat → Option va_E} {w n t : Nat} {A : AW} {ru rs tr} (h : IsW f w A) (ht : t < 16) (hn : w + 85 ≤ n) (hg : Ag f g (w + 5 + 5 * t) (w + 5 + 5 * t + 5) n) (hk : keeps f g) (hT : IsTA g (w + 5 + 5 * t) ru rs tr) : IsW g w (A.put (8 + t) ru rs tr) := by
  obtain ⟨h1, ⟨ct, h2, h2'⟩, ⟨tg, h3, h3'⟩, ⟨em, h4, h4'⟩, ⟨dp, h5⟩, h6⟩ := h
  refine ⟨?_, ⟨ct, ?_, fun k hk' => chO_keep hk (h2' k hk')⟩, ⟨tg, ?_, h3'⟩, ⟨em, ?_, fun k hk' => ?_⟩, ⟨dp, ?_⟩, fun u hu => ?_⟩
  · rw [hg _ (by omega) (by omega)]; exact h1
  · rw [hg _ (by omega) (by omega)]; exact h2
  · rw [hg _ (by omega) (by omega)]; exact h3
  · rw [hg _ (by omega) (by omega)]; exact h4
  · obtain ⟨p, g1, g2⟩ := h4' k hk'; exact ⟨p, g1, ch_keep hk _ _ g2⟩
  · rw [hg _ (by omega) (by omega)]; exact h5
  · by_cases hut : u = t
    · subst hut
      simp only [AW.put, AW.ru, AW.rs, AW.tr, va_up_self]
      exact hT
    · simp only [AW.put, AW.ru, AW.rs, AW.tr]
      rw [va_up_ne _ _ (by omega), va_up_ne _ _ (by omega), va_up_ne _ _ (by omega)]
      exact (h6 u hu).ag hg (by omega) (by omega) hk
section M16
variable {B : Nat} {D : va_G} {n w : Nat} {f : Nat → Option va_E} {a : Nat} {A : AW}
theorem IsW.give {ct : Nat → Option Nat} {g : Nat → Option va_E} (h : IsW f a A) {k : Nat} (hk : k < 8) {c : Option Int32} {q : Option Nat} (hn : a + 85 ≤ n) (hg : Ag f g (a + 1) (a + 2) n) (hkp : keeps f g) (hc : f (a + 1) = some (.inl (3, 8, .inr (.inr (.inr (.inr ct)))))) (hg1 : g (a + 1) = some (.inl (3, 8, .inr (.inr (.inr (.inr (va_up ct k q))))))) (hq : chO g q (c.map numR)) : IsW g a (A.give k c) := by
  obtain ⟨h1, ⟨ct', h2, h2'⟩, ⟨tg, h3, h3'⟩, ⟨em, h4, h4'⟩, ⟨dp, h5⟩, h6⟩ := h
  rw [hc] at h2
  cases h2
  refine ⟨?_, ⟨_, hg1, fun j hj => ?_⟩, ⟨tg, ?_, h3'⟩, ⟨em, ?_, fun k hk' => ?_⟩, ⟨dp, ?_⟩, fun u hu => (h6 u hu).ag hg (by omega) (by omega) hkp⟩
  · rw [hg _ (by omega) (by omega)]; exact h1
  · by_cases hjk : j = k
    · subst hjk
      simp only [AW.give, AW.inn, va_up_self]
      exact hq
    · simp only [AW.give, AW.inn]
      rw [va_up_ne _ _ hjk, va_up_ne _ _ hjk]
      exact chO_keep hkp (h2' j hj)
  · rw [hg _ (by omega) (by omega)]; exact h3
  · rw [hg _ (by omega) (by omega)]; exact h4
  · obtain ⟨p, g1, g2⟩ := h4' k hk'; exact ⟨p, g1, ch_keep hkp _ _ g2⟩
  · rw [hg _ (by omega) (by omega)]; exact h5
/-- where it is that content already, nothing changes; else a new Result -/
theorem c_X5_giveContent_same (hW : IsW f a A) {k : Nat} (hk : k < 8) {v : Int32} (hv : A.inn k = some v) : CT B D 3 mX5_giveContent [.ref a, .int (nI k), .int v] (n, w, f) (some (.int (bi false))) (n, w, f) := by
  obtain ⟨q, hq, hc⟩ := c_X5_contentOf (B := B) (D := D) (n := n) (w := w) hW hk
  rw [hv] at hc
  obtain ⟨p, rfl, p0, q0, hp0, hcell, hnil⟩ := hc
  cases hp0
  refine CT.of [some (.ref a), some (.int (nI k)), some (.int v), none] rfl (Nat.le_of_ble_eq_true rfl) pl_X5 (bi_01 _) ?_
  refine px_aload_n dX5_giveContent_0 rfl ?_
  refine px_iload_n dX5_giveContent_1 rfl ?_
  refine px_callV1 (ν := mX5_contentOf) (ci := 5) rfl rfl lk_X5_42 in_X5_contentOf se_X5_contentOf mok_X5_contentOf dX5_giveContent_2 (hq) (by first | exact hW.1 | exact hcell) rfl rfl (by omega) (by simp) ?_
  refine px_astore3 rfl dX5_giveContent_5 ?_
  refine px_iload_n dX5_giveContent_6 rfl ?_
  refine px_callSN1 (ν := mX6_isInput) lk_X5_39 st_X6_isInput mok_X6_isInput dX5_giveContent_7 (c_X6_isInput _) rfl rfl (by omega) (by simp) ?_
  refine px_ifb_eq (tgt := 25) dX5_giveContent_10 (by decide) (fun hc10 => ?_) (fun hc10 => ?_)
  · rw [inI_i hk] at hc10; cases hc10
  · refine px_aload_n dX5_giveContent_13 rfl ?_
    refine px_ifnull_f dX5_giveContent_14 ?_
    refine px_aload_n dX5_giveContent_17 rfl ?_
    refine px_getfield fl_X5_46 dX5_giveContent_18 (by first | exact hW.1 | exact hcell) (by rfl) ?_
    refine px_iload_n dX5_giveContent_21 rfl ?_
    refine px_icmp_ne (tgt := 27) dX5_giveContent_22 (by decide) (fun hc22 => ?_) (fun hc22 => ?_)
    · exact absurd rfl hc22
    · refine px_iconst (v := 0) dX5_giveContent_25 (by decide) ?_
      exact px_reti dX5_giveContent_26 (by rfl) (by rfl)
theorem c_X5_giveContent_new (hW : IsW f a A) {k : Nat} (hk : k < 8) {v : Int32} (hv : A.inn k ≠ some v) (hwf : wfH f n) : ∃ g, CT B D 3 mX5_giveContent [.ref a, .int (nI k), .int v] (n, w, f) (some (.int (bi true))) (n + 1, w + 5, g) ∧ IsW g a (A.give k (some v)) ∧ Ag f g (a + 1) (a + 2) n ∧ keeps f g ∧ wfH g (n + 1) := by
  obtain ⟨q, hq, hc⟩ := c_X5_contentOf (B := B) (D := D) (n := n) (w := w) hW hk
  obtain ⟨ct, hct, hcc⟩ := hW.2.1
  have han : a + 85 ≤ n := by
    obtain ⟨_, _, _, _, _, _, _, h1, _⟩ := hW.2.2.2.2.2 15 (by omega)
    have := hwf.lt h1.2.2.2.2
    omega
  have hk1 : keeps f (va_up f n (some (.inr (1, [.int v, .int (-1), .int 0, .int (-1), .null])))) := keeps_new hwf
  have hct1 : (va_up f n (some (.inr (1, [.int v, .int (-1), .int 0, .int (-1), .null])))) (a + 1) = some (.inl (3, 8, .inr (.inr (.inr (.inr ct))))) := by rw [va_up_ne _ _ (by omega)]; exact hct
  have hk2 := keeps_tr hk1 (keeps_at (e := some (.inl (3, 8, .inr (.inr (.inr (.inr (va_up ct k (some n)))))))) hct1 (fun fs h => by cases h))
  refine ⟨va_up (va_up f n (some (.inr (1, [.int v, .int (-1), .int 0, .int (-1), .null])))) (a + 1) (some (.inl (3, 8, .inr (.inr (.inr (.inr (va_up ct k (some n)))))))), ?_, IsW.give hW hk han (fun b hb hr => by rw [va_up_ne _ _ (by omega), va_up_ne _ _ (by omega)]) hk2 hct (va_up_self _ _ _) ⟨n, rfl, n, none, rfl, by rw [va_up_ne _ _ (by omega), va_up_self]; rfl, rfl⟩, fun b hb hr => by rw [va_up_ne _ _ (by omega), va_up_ne _ _ (by omega)], hk2, (hwf.new).up (by omega)⟩
  cases hi : A.inn k with
  | none =>
    rw [hi] at hc
    have hq0 : q = none := hc
    subst hq0
    refine CT.of [some (.ref a), some (.int (nI k)), some (.int v), none] rfl (Nat.le_of_ble_eq_true rfl) pl_X5 (bi_01 _) ?_
    refine px_aload_n dX5_giveContent_0 rfl ?_
    refine px_iload_n dX5_giveContent_1 rfl ?_
    refine px_callV1 (ν := mX5_contentOf) (ci := 5) rfl rfl lk_X5_42 in_X5_contentOf se_X5_contentOf mok_X5_contentOf dX5_giveContent_2 (hq) (by first | exact hW.1 | exact hct1 | (rw [va_up_ne _ _ (by omega)]; exact hW.1) | exact va_up_self _ _ _) rfl rfl (by omega) (by simp) ?_
    refine px_astoreN3 rfl dX5_giveContent_5 ?_
    refine px_iload_n dX5_giveContent_6 rfl ?_
    refine px_callSN1 (ν := mX6_isInput) lk_X5_39 st_X6_isInput mok_X6_isInput dX5_giveContent_7 (c_X6_isInput _) rfl rfl (by omega) (by simp) ?_
    refine px_ifb_eq (tgt := 25) dX5_giveContent_10 (by decide) (fun hc10 => ?_) (fun hc10 => ?_)
    · rw [inI_i hk] at hc10; cases hc10
    · refine px_aload_nN dX5_giveContent_13 rfl ?_
      refine px_ifnull_t (tgt := 27) dX5_giveContent_14 (by decide) ?_
      refine px_aload_n dX5_giveContent_27 rfl ?_
      refine px_getfield fl_X5_11 dX5_giveContent_28 (by first | exact hW.1 | exact hct1 | (rw [va_up_ne _ _ (by omega)]; exact hW.1) | exact va_up_self _ _ _) (by rfl) ?_
      refine px_iload_n dX5_giveContent_31 rfl ?_
      refine px_iload_n dX5_giveContent_32 rfl ?_
      refine px_callS1 (ν := mX1_ofContent) lk_X5_50 st_X1_ofContent mok_X1_ofContent dX5_giveContent_33 (c_X1_ofContent) rfl rfl (by omega) (by simp) ?_
      try rw [nI_clamp (show k < 2 ^ 31 by omega)]
      refine px_aastore (ci := 1) rfl rfl dX5_giveContent_36 (by first | exact hW.1 | exact hct1 | (rw [va_up_ne _ _ (by omega)]; exact hW.1) | exact va_up_self _ _ _) (by decide) (by exact ixn hk (by omega)) (by first | exact hW.1 | exact hct1 | (rw [va_up_ne _ _ (by omega)]; exact hW.1) | exact va_up_self _ _ _) ?_
      refine px_iconst (v := 1) dX5_giveContent_37 (by decide) ?_
      exact px_reti dX5_giveContent_38 (by rfl) (by rw [nI_clamp (show k < 2 ^ 31 by omega)])
  | some c =>
    rw [hi] at hc
    obtain ⟨p, rfl, p0, q0, hp0, hcell, hnil⟩ := hc
    cases hp0
    have hne : ¬ c = v := fun e => hv (by rw [hi, e])
    refine CT.of [some (.ref a), some (.int (nI k)), some (.int v), none] rfl (Nat.le_of_ble_eq_true rfl) pl_X5 (bi_01 _) ?_
    refine px_aload_n dX5_giveContent_0 rfl ?_
    refine px_iload_n dX5_giveContent_1 rfl ?_
    refine px_callV1 (ν := mX5_contentOf) (ci := 5) rfl rfl lk_X5_42 in_X5_contentOf se_X5_contentOf mok_X5_contentOf dX5_giveContent_2 (hq) (by first | exact hW.1 | exact hct1 | (rw [va_up_ne _ _ (by omega)]; exact hW.1) | exact va_up_self _ _ _ | exact hcell) rfl rfl (by omega) (by simp) ?_
    refine px_astore3 rfl dX5_giveContent_5 ?_
    refine px_iload_n dX5_giveContent_6 rfl ?_
    refine px_callSN1 (ν := mX6_isInput) lk_X5_39 st_X6_isInput mok_X6_isInput dX5_giveContent_7 (c_X6_isInput _) rfl rfl (by omega) (by simp) ?_
    refine px_ifb_eq (tgt := 25) dX5_giveContent_10 (by decide) (fun hc10 => ?_) (fun hc10 => ?_)
    · rw [inI_i hk] at hc10; cases hc10
    · refine px_aload_n dX5_giveContent_13 rfl ?_
      refine px_ifnull_f dX5_giveContent_14 ?_
      refine px_aload_n dX5_giveContent_17 rfl ?_
      refine px_getfield fl_X5_46 dX5_giveContent_18 (by first | exact hW.1 | exact hct1 | (rw [va_up_ne _ _ (by omega)]; exact hW.1) | exact va_up_self _ _ _ | exact hcell) (by rfl) ?_
      refine px_iload_n dX5_giveContent_21 rfl ?_
      refine px_icmp_ne (tgt := 27) dX5_giveContent_22 (by decide) (fun hc22 => ?_) (fun hc22 => ?_)
      · refine px_aload_n dX5_giveContent_27 rfl ?_
        refine px_getfield fl_X5_11 dX5_giveContent_28 (by first | exact hW.1 | exact hct1 | (rw [va_up_ne _ _ (by omega)]; exact hW.1) | exact va_up_self _ _ _ | exact hcell) (by rfl) ?_
        refine px_iload_n dX5_giveContent_31 rfl ?_
        refine px_iload_n dX5_giveContent_32 rfl ?_
        refine px_callS1 (ν := mX1_ofContent) lk_X5_50 st_X1_ofContent mok_X1_ofContent dX5_giveContent_33 (c_X1_ofContent) rfl rfl (by omega) (by simp) ?_
        refine px_aastore (ci := 1) rfl rfl dX5_giveContent_36 (by first | exact hW.1 | exact hct1 | (rw [va_up_ne _ _ (by omega)]; exact hW.1) | exact va_up_self _ _ _ | exact hcell) (by decide) (by exact ixn hk (by omega)) (by first | exact hW.1 | exact hct1 | (rw [va_up_ne _ _ (by omega)]; exact hW.1) | exact va_up_self _ _ _ | exact hcell) ?_
        refine px_iconst (v := 1) dX5_giveContent_37 (by decide) ?_
        exact px_reti dX5_giveContent_38 (by rfl) (by rw [nI_clamp (show k < 2 ^ 31 by omega)])
      · exact absurd hc22 hne
theorem c_X5_takeContent (hW : IsW f a A) {k : Nat} (hk : k < 8) (hn : a + 85 ≤ n) : ∃ g, CT B D 1 mX5_takeContent [.ref a, .int (nI k)] (n, w, f) none (n, w, g) ∧ IsW g a (A.give k none) ∧ Ag f g (a + 1) (a + 2) n ∧ keeps f g ∧ (wfH f n → wfH g n) := by
  obtain ⟨ct, hct, hcc⟩ := hW.2.1
  have hk2 : keeps f (va_up f (a + 1) (some (.inl (3, 8, .inr (.inr (.inr (.inr (va_up ct k none)))))))) := keeps_at hct (fun fs h => by cases h)
  refine ⟨va_up f (a + 1) (some (.inl (3, 8, .inr (.inr (.inr (.inr (va_up ct k none))))))), ?_, IsW.give hW hk hn (fun b hb hr => by rw [va_up_ne _ _ (by omega)]) hk2 hct (va_up_self _ _ _) rfl, fun b hb hr => by rw [va_up_ne _ _ (by omega)], hk2, fun h => h.up (by omega)⟩
  refine CT.of [some (.ref a), some (.int (nI k))] rfl (Nat.le_of_ble_eq_true rfl) pl_X5 trivial ?_
  refine px_iload_n dX5_takeContent_0 rfl ?_
  refine px_callSN1 (ν := mX6_isInput) lk_X5_39 st_X6_isInput mok_X6_isInput dX5_takeContent_1 (c_X6_isInput _) rfl rfl (by omega) (by simp) ?_
  refine px_ifb_eq (tgt := 14) dX5_takeContent_4 (by decide) (fun hc4 => ?_) (fun hc4 => ?_)
  · rw [inI_i hk] at hc4; cases hc4
  · refine px_aload_n dX5_takeContent_7 rfl ?_
    refine px_getfield fl_X5_11 dX5_takeContent_8 (by first | exact hW.1 | exact hct) (by rfl) ?_
    refine px_iload_n dX5_takeContent_11 rfl ?_
    refine px_null dX5_takeContent_12 ?_
    refine px_aastoreN rfl dX5_takeContent_13 (by first | exact hW.1 | exact hct) (by decide) (by exact ixn hk (by omega)) ?_
    exact px_retv dX5_takeContent_14 rfl (by rw [nI_clamp (show k < 2 ^ 31 by omega)])
end M16
