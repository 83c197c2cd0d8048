/-! THE LISTS -/
abbrev aR : Type := Option Nat × (Nat → Int64)
def s_isRow (k : Int32) : Bool := !decide (k < 0) && !decide (4 ≤ k)
def IsRw (f : Nat → Option va_E) (e : Nat) (R : Nat → aR) : Prop := ∃ rw : Nat → Option Nat, f (e + 334) = some (.inl (5, 4, .inr (.inr (.inr (.inr rw))))) ∧ ∀ i, i < 4 → rw i = some (e + 335 + 2 * i) ∧ ∃ pl : Nat → Int64, IsR f (e + 335 + 2 * i) (bi (R i).1.isSome) (nI ((R i).1.getD 0)) pl ∧ (∀ j, j < 20 → pl j = (R i).2 j) ∧ (R i).1.getD 0 ≤ 20
theorem inR {k : Int32} : s_isRow k = true ↔ ∃ t : Nat, t < 4 ∧ k = nI t := by
  simp only [s_isRow, Bool.and_eq_true, Bool.not_eq_true', decide_eq_false_iff_not]
  constructor
  · rintro ⟨h1, h2⟩
    obtain ⟨j, hj, rfl⟩ := nI_of h1
    rw [show ((4 : Int32)) = nI 4 from rfl, nI_leI (by omega) (by omega)] at h2
    exact ⟨j, by omega, rfl⟩
  · rintro ⟨t, ht, rfl⟩
    rw [show ((4 : Int32)) = nI 4 from rfl, nI_leI (by omega) (by omega)]
    exact ⟨nI_pos (by omega), by omega⟩
theorem r_has_lt {s : Nat} (hs : s < 2 ^ 31) {i : Int32} : r_has (nI s) i = true ↔ ∃ j : Nat, j < s ∧ i = nI j := by
  simp only [r_has, Bool.and_eq_true, Bool.not_eq_true', decide_eq_false_iff_not]
  constructor
  · rintro ⟨h1, h2⟩
    obtain ⟨j, hj, rfl⟩ := nI_of h1
    rw [nI_leI (by omega) (by omega)] at h2
    exact ⟨j, by omega, rfl⟩
  · rintro ⟨t, ht, rfl⟩
    rw [nI_leI (by omega) (by omega)]
    exact ⟨nI_pos (by omega), by omega⟩
theorem IsR.ag {f g : Nat → Option va_E} {lo hi n a : Nat} {hd sz : Int32} {pl : Nat → Int64} (h : IsR f a hd sz pl) (hg : Ag f g lo hi n) (hn : a + 2 ≤ n) (hr : a + 2 ≤ lo ∨ hi ≤ a) : IsR g a hd sz pl := ⟨by rw [hg _ (by omega) (by omega)]; exact h.1, by rw [hg _ (by omega) (by omega)]; exact h.2⟩
theorem IsRw.ag {f g : Nat → Option va_E} {lo hi n e : Nat} {R : Nat → aR} (h : IsRw f e R) (hg : Ag f g lo hi n) (hn : e + 343 ≤ n) (hr : e + 343 ≤ lo ∨ hi ≤ e + 334) : IsRw g e R := by
  obtain ⟨rw, h1, h2⟩ := h
  refine ⟨rw, by rw [hg _ (by omega) (by omega)]; exact h1, fun i hi => ?_⟩
  obtain ⟨h3, pl, h4, h5⟩ := h2 i hi
  exact ⟨h3, pl, h4.ag hg (by omega) (by omega), h5⟩
theorem IsRw.put {f g : Nat → Option va_E} {e t : Nat} {R : Nat → aR} {x : aR} {pl : Nat → Int64} (h : IsRw f e R) (ht : t < 4) (hg : ∀ N, Ag f g (e + 335 + 2 * t) (e + 335 + 2 * t + 2) N) (h1 : IsR g (e + 335 + 2 * t) (bi x.1.isSome) (nI (x.1.getD 0)) pl) (h2 : ∀ j, j < 20 → pl j = x.2 j) (h3 : x.1.getD 0 ≤ 20) : IsRw g e (va_up R t x) := by
  obtain ⟨rw, i1, i2⟩ := h
  refine ⟨rw, by rw [hg (e + 343) _ (by omega) (by omega)]; exact i1, fun i hi => ?_⟩
  obtain ⟨i3, pl', i4, i5⟩ := i2 i hi
  by_cases hit : i = t
  · subst hit
    rw [va_up_self]
    exact ⟨i3, pl, h1, h2, h3⟩
  · rw [va_up_ne _ _ hit]
    exact ⟨i3, pl', i4.ag (hg (e + 343)) (by omega) (by omega), i5⟩
section M34
variable {B : Nat} {D : va_G} {n w : Nat} {f : Nat → Option va_E} {e : Nat} {im : Bool} {R : Nat → aR}
theorem c_X6_rowOf (he : f e = some (ecell e im)) (hR : IsRw f e R) {t : Nat} (ht : t < 4) : CT B D 0 mX6_rowOf [.ref e, .int (nI t)] (n, w, f) (some (.ref (e + 335 + 2 * t))) (n, w, f) := by
  obtain ⟨rw, i1, i2⟩ := hR
  refine CT.of [some (.ref e), some (.int (nI t))] rfl (Nat.le_of_ble_eq_true rfl) pl_X6 trivial ?_
  refine px_iload_n dX6_rowOf_0 rfl ?_
  refine px_if_lt (tgt := 18) dX6_rowOf_1 (by decide) (fun hc1 => ?_) (fun hc1 => ?_)
  · exact absurd hc1 (nI_pos (by omega))
  · refine px_iload_n dX6_rowOf_4 rfl ?_
    refine px_iconst (v := 4) dX6_rowOf_5 (by decide) ?_
    refine px_icmp_ge (tgt := 18) dX6_rowOf_6 (by decide) (fun hc6 => ?_) (fun hc6 => ?_)
    · exact absurd hc6 (nI_ge (b := 4) ht (by omega))
    · refine px_aload_n dX6_rowOf_9 rfl ?_
      refine px_getfield fl_X6_41 dX6_rowOf_10 (by first | exact he | exact i1) (by rfl) ?_
      refine px_iload_n dX6_rowOf_13 rfl ?_
      refine px_aaload rfl dX6_rowOf_14 (by first | exact he | exact i1) (by decide) (by exact ixn ht (by omega)) ?_
      rw [nI_clamp (show t < 2 ^ 31 by omega), (i2 t ht).1]
      refine px_goto (tgt := 19) dX6_rowOf_15 (by decide) ?_
      exact px_reta dX6_rowOf_19 (by rfl) (by rfl)
theorem c_X6_rowOf_n {k : Int32} (hk : s_isRow k = false) : CT B D 0 mX6_rowOf [.ref e, .int k] (n, w, f) (some .null) (n, w, f) := by
  refine CT.of [some (.ref e), some (.int k)] rfl (Nat.le_of_ble_eq_true rfl) pl_X6 trivial ?_
  refine px_iload_n dX6_rowOf_0 rfl ?_
  refine px_if_lt (tgt := 18) dX6_rowOf_1 (by decide) (fun hc1 => ?_) (fun hc1 => ?_)
  · refine px_null dX6_rowOf_18 ?_
    exact px_reta dX6_rowOf_19 (by rfl) (by rfl)
  · refine px_iload_n dX6_rowOf_4 rfl ?_
    refine px_iconst (v := 4) dX6_rowOf_5 (by decide) ?_
    refine px_icmp_ge (tgt := 18) dX6_rowOf_6 (by decide) (fun hc6 => ?_) (fun hc6 => ?_)
    · refine px_null dX6_rowOf_18 ?_
      exact px_reta dX6_rowOf_19 (by rfl) (by rfl)
    · exact absurd (show s_isRow k = true by unfold s_isRow; simp [hc1, hc6]) (by rw [hk]; decide)
theorem l_X6_list_ok (he : f e = some (ecell e im)) (hR : IsRw f e R) {t yy : Nat} (ht : t < 4) (hy : yy ≤ 20) {hd sz : Int32} {pl : Nat → Int64} (i4 : IsR f (e + 335 + 2 * t) hd sz pl) : CT B D 2 mX6_list [.ref e, .int (nI t), .int (nI yy)] (n, w, f) (some (.int 1)) (n, w, va_up (va_up f (e + 335 + 2 * t) (some (.inr (2, [.int 1, .ref (e + 335 + 2 * t + 1), .int (nI yy)])))) (e + 335 + 2 * t + 1) (some (.inl (1, 20, .inr (.inl (fun j => if j < 20 then 0 else pl j)))))) := by
  have hx2 : nI yy ≤ 20 := nI_le (b := 20) hy (by omega)
  have hx3 : (0 : Int32) ≤ nI yy := nI_le (a := 0) (Nat.zero_le _) (by omega)
  refine CT.of [some (.ref e), some (.int (nI t)), some (.int (nI yy)), none] rfl (Nat.le_of_ble_eq_true rfl) pl_X6 trivial ?_
  refine px_aload_n dX6_list_0 rfl ?_
  refine px_iload_n dX6_list_1 rfl ?_
  refine px_callV1 (ν := mX6_rowOf) (ci := 6) rfl rfl lk_X6_228 in_X6_rowOf se_X6_rowOf mok_X6_rowOf dX6_list_2 (c_X6_rowOf he hR ht) (by first | exact he | exact i4.1) rfl rfl (by omega) (by simp) ?_
  refine px_astore3 rfl dX6_list_5 ?_
  refine px_aload_n dX6_list_6 rfl ?_
  refine px_ifnonnull_t (tgt := 12) dX6_list_7 (by decide) ?_
  refine px_iload_n dX6_list_12 rfl ?_
  refine px_bipush (v := 20) dX6_list_13 (by decide) ?_
  refine px_icmp_le (tgt := 21) dX6_list_15 (by decide) (fun hc15 => ?_) (fun hc15 => ?_)
  · refine px_iload_n dX6_list_21 rfl ?_
    refine px_if_ge (tgt := 28) dX6_list_22 (by decide) (fun hc22 => ?_) (fun hc22 => ?_)
    · refine px_aload_n dX6_list_28 rfl ?_
      refine px_iload_n dX6_list_29 rfl ?_
      refine px_callV0 (ν := mX2_hold) (ci := 2) rfl rfl lk_X6_232 in_X2_hold se_X2_hold mok_X2_hold dX6_list_30 (c_X2_hold i4 hy) (by first | exact he | exact i4.1) rfl rfl (by omega) (by simp) ?_
      refine px_iconst (v := 1) dX6_list_33 (by decide) ?_
      exact px_reti dX6_list_34 (by rfl) (by rfl)
    · exact absurd hx3 hc22
  · exact absurd hx2 hc15
def v_list (R : Nat → aR) (k x : Int32) : Int32 × (Nat → aR) := if s_isRow k = true then (if 20 < x then (-2, R) else if x < 0 then (-14, R) else (1, va_up R k.toNatClampNeg (some x.toNatClampNeg, fun _ => 0))) else (-1, R)
theorem c_X6_list (he : f e = some (ecell e im)) (hR : IsRw f e R) (k x : Int32) : ∃ g : Nat → Option va_E, CT B D 2 mX6_list [.ref e, .int k, .int x] (n, w, f) (some (.int (v_list R k x).1)) (n, w, g) ∧ IsRw g e (v_list R k x).2 ∧ (∀ N, Ag f g (e + 335) (e + 343) N) ∧ keeps f g ∧ (wfH f n → wfH g n) := by
  by_cases hk : s_isRow k = true
  · obtain ⟨t, ht, rfl⟩ := inR.mp hk
    obtain ⟨rw0, i1, i2⟩ := id hR
    obtain ⟨i3, pl, i4, i5, i6⟩ := i2 t ht
    by_cases hx : 20 < x
    · have hv : v_list R (nI t) x = (-2, R) := by unfold v_list; rw [if_pos hk, if_pos hx]
      rw [hv]
      refine ⟨f, ?_, hR, fun N => Ag.rf _ _ _ _, keeps_rf _, id⟩
      refine CT.of [some (.ref e), some (.int (nI t)), some (.int x), none] rfl (Nat.le_of_ble_eq_true rfl) pl_X6 trivial ?_
      refine px_aload_n dX6_list_0 rfl ?_
      refine px_iload_n dX6_list_1 rfl ?_
      refine px_callV1 (ν := mX6_rowOf) (ci := 6) rfl rfl lk_X6_228 in_X6_rowOf se_X6_rowOf mok_X6_rowOf dX6_list_2 (c_X6_rowOf he hR ht) (by first | exact he | exact i4.1) rfl rfl (by omega) (by simp) ?_
      refine px_astore3 rfl dX6_list_5 ?_
      refine px_aload_n dX6_list_6 rfl ?_
      refine px_ifnonnull_t (tgt := 12) dX6_list_7 (by decide) ?_
      refine px_iload_n dX6_list_12 rfl ?_
      refine px_bipush (v := 20) dX6_list_13 (by decide) ?_
      refine px_icmp_le (tgt := 21) dX6_list_15 (by decide) (fun hc15 => ?_) (fun hc15 => ?_)
      · exact absurd hx (by rw [Int32.lt_iff_toInt_lt]; rw [Int32.le_iff_toInt_le] at hc15; omega)
      · refine px_bipush (v := (-2)) dX6_list_18 (by decide) ?_
        exact px_reti dX6_list_20 (by rfl) (by rfl)
    · have hx2 : x ≤ 20 := by rw [Int32.le_iff_toInt_le]; rw [Int32.lt_iff_toInt_lt] at hx; omega
      by_cases hx0 : x < 0
      · have hv : v_list R (nI t) x = (-14, R) := by unfold v_list; rw [if_pos hk, if_neg hx, if_pos hx0]
        rw [hv]
        refine ⟨f, ?_, hR, fun N => Ag.rf _ _ _ _, keeps_rf _, id⟩
        refine CT.of [some (.ref e), some (.int (nI t)), some (.int x), none] rfl (Nat.le_of_ble_eq_true rfl) pl_X6 trivial ?_
        refine px_aload_n dX6_list_0 rfl ?_
        refine px_iload_n dX6_list_1 rfl ?_
        refine px_callV1 (ν := mX6_rowOf) (ci := 6) rfl rfl lk_X6_228 in_X6_rowOf se_X6_rowOf mok_X6_rowOf dX6_list_2 (c_X6_rowOf he hR ht) (by first | exact he | exact i4.1) rfl rfl (by omega) (by simp) ?_
        refine px_astore3 rfl dX6_list_5 ?_
        refine px_aload_n dX6_list_6 rfl ?_
        refine px_ifnonnull_t (tgt := 12) dX6_list_7 (by decide) ?_
        refine px_iload_n dX6_list_12 rfl ?_
        refine px_bipush (v := 20) dX6_list_13 (by decide) ?_
        refine px_icmp_le (tgt := 21) dX6_list_15 (by decide) (fun hc15 => ?_) (fun hc15 => ?_)
        · refine px_iload_n dX6_list_21 rfl ?_
          refine px_if_ge (tgt := 28) dX6_list_22 (by decide) (fun hc22 => ?_) (fun hc22 => ?_)
          · exact absurd hx0 (by rw [Int32.lt_iff_toInt_lt]; rw [Int32.le_iff_toInt_le] at hc22; omega)
          · refine px_bipush (v := (-14)) dX6_list_25 (by decide) ?_
            exact px_reti dX6_list_27 (by rfl) (by rfl)
        · exact absurd hx2 hc15
      · have hx3 : (0 : Int32) ≤ x := by rw [Int32.le_iff_toInt_le]; rw [Int32.lt_iff_toInt_lt] at hx0; omega
        obtain ⟨yy, hy, rfl⟩ := nI_of hx0
        have hy20 : yy ≤ 20 := (nI_leI (b := 20) hy (by omega)).mp hx2
        have hv : v_list R (nI t) (nI yy) = (1, va_up R t (some yy, fun _ => 0)) := by unfold v_list; rw [if_pos hk, if_neg hx, if_neg hx0, nI_clamp hy, nI_clamp (show t < 2 ^ 31 by omega)]
        rw [hv]
        have hC := l_X6_list_ok (B := B) (D := D) (n := n) (w := w) he hR ht hy20 i4
        obtain ⟨g, hg⟩ : ∃ g, g = va_up (va_up f (e + 335 + 2 * t) (some (.inr (2, [.int 1, .ref (e + 335 + 2 * t + 1), .int (nI yy)])))) (e + 335 + 2 * t + 1) (some (.inl (1, 20, .inr (.inl (fun j => if j < 20 then 0 else pl j))))) := ⟨_, rfl⟩
        rw [← hg] at hC
        have hA : ∀ N, Ag f g (e + 335 + 2 * t) (e + 335 + 2 * t + 2) N := fun N => by rw [hg]; exact ((Ag.rf _ _ _ _).up (by omega) (by omega)).up (by omega) (by omega)
        have hK : keeps f g := by
          rw [hg]
          exact keeps_tr (keeps_at i4.1 (fun fs e => by cases e)) (keeps_at (e0 := .inl (1, 20, .inr (.inl pl))) (by rw [va_up_ne _ _ (by omega)]; exact i4.2) (fun fs e => by cases e))
        refine ⟨g, hC, hR.put ht hA (x := (some yy, fun _ => 0)) (pl := fun j => if j < 20 then 0 else pl j) ⟨by rw [hg, va_up_ne _ _ (by omega), va_up_self]; rfl, by rw [hg, va_up_self]⟩ (fun j hj => if_pos hj) hy20, fun N => (hA N).wide (by omega) (by omega), hK, fun hwf => by rw [hg]; exact (hwf.up (hwf.lt i4.1)).up (hwf.lt i4.2)⟩
  · have hk' : s_isRow k = false := by simpa using hk
    have hv : v_list R k x = (-1, R) := by unfold v_list; rw [if_neg hk]
    rw [hv]
    refine ⟨f, ?_, hR, fun N => Ag.rf _ _ _ _, keeps_rf _, id⟩
    refine CT.of [some (.ref e), some (.int k), some (.int x), none] rfl (Nat.le_of_ble_eq_true rfl) pl_X6 trivial ?_
    refine px_aload_n dX6_list_0 rfl ?_
    refine px_iload_n dX6_list_1 rfl ?_
    refine px_callV1 (ν := mX6_rowOf) (ci := 6) rfl rfl lk_X6_228 in_X6_rowOf se_X6_rowOf mok_X6_rowOf dX6_list_2 (c_X6_rowOf_n hk') (by first | exact he | exact i4.1) rfl rfl (by omega) (by simp) ?_
    refine px_astoreN3 rfl dX6_list_5 ?_
    refine px_aload_nN dX6_list_6 rfl ?_
    refine px_ifnonnull_f dX6_list_7 ?_
    refine px_iconst (v := (-1)) dX6_list_10 (by decide) ?_
    exact px_reti dX6_list_11 (by rfl) (by rfl)
def v_get (R : Nat → aR) (k i : Int32) : Int64 := if s_isRow k = true ∧ r_has (nI ((R k.toNatClampNeg).1.getD 0)) i = true then (R k.toNatClampNeg).2 i.toNatClampNeg else -9223372036854775808
theorem c_X6_get (he : f e = some (ecell e im)) (hR : IsRw f e R) (k i : Int32) : CT B D 2 mX6_get [.ref e, .int k, .int i] (n, w, f) (some (.long (v_get R k i))) (n, w, f) := by
  by_cases hk : s_isRow k = true
  · obtain ⟨t, ht, rfl⟩ := inR.mp hk
    obtain ⟨rw0, i1, i2⟩ := id hR
    obtain ⟨i3, pl, i4, i5, i6⟩ := i2 t ht
    have hC := c_X2_read (B := B) (D := D) (n := n) (w := w) i4 (by rw [nI_toInt (by omega)]; omega) i
    have hv : (if r_has (nI ((R t).1.getD 0)) i = true then pl i.toNatClampNeg else -9223372036854775808) = v_get R (nI t) i := by
      unfold v_get
      rw [nI_clamp (show t < 2 ^ 31 by omega)]
      by_cases hh : r_has (nI ((R t).1.getD 0)) i = true
      · rw [if_pos hh, if_pos ⟨hk, hh⟩]
        obtain ⟨j, hj, rfl⟩ := (r_has_lt (by omega)).mp hh
        rw [nI_clamp (by omega)]
        exact i5 j (by omega)
      · rw [if_neg hh, if_neg (fun z => hh z.2)]
    rw [hv] at hC
    refine CT.of [some (.ref e), some (.int (nI t)), some (.int i), none] rfl (Nat.le_of_ble_eq_true rfl) pl_X6 trivial ?_
    refine px_aload_n dX6_get_0 rfl ?_
    refine px_iload_n dX6_get_1 rfl ?_
    refine px_callV1 (ν := mX6_rowOf) (ci := 6) rfl rfl lk_X6_228 in_X6_rowOf se_X6_rowOf mok_X6_rowOf dX6_get_2 (c_X6_rowOf he hR ht) (by first | exact he | exact i4.1) rfl rfl (by omega) (by simp) ?_
    refine px_astore3 rfl dX6_get_5 ?_
    refine px_aload_n dX6_get_6 rfl ?_
    refine px_ifnonnull_t (tgt := 16) dX6_get_7 (by decide) ?_
    refine px_aload_n dX6_get_16 rfl ?_
    refine px_iload_n dX6_get_17 rfl ?_
    refine px_callV1 (ν := mX2_read) (ci := 2) rfl rfl lk_X6_245 in_X2_read se_X2_read mok_X2_read dX6_get_18 (hC) (by first | exact he | exact i4.1) rfl rfl (by omega) (by simp) ?_
    exact px_retl dX6_get_21 (by rfl) (by rfl)
  · have hk' : s_isRow k = false := by simpa using hk
    have hv : v_get R k i = -9223372036854775808 := by unfold v_get; rw [if_neg (fun z => hk z.1)]
    rw [hv]
    refine CT.of [some (.ref e), some (.int k), some (.int i), none] rfl (Nat.le_of_ble_eq_true rfl) pl_X6 trivial ?_
    refine px_aload_n dX6_get_0 rfl ?_
    refine px_iload_n dX6_get_1 rfl ?_
    refine px_callV1 (ν := mX6_rowOf) (ci := 6) rfl rfl lk_X6_228 in_X6_rowOf se_X6_rowOf mok_X6_rowOf dX6_get_2 (c_X6_rowOf_n hk') (by first | exact he | exact i4.1) rfl rfl (by omega) (by simp) ?_
    refine px_astoreN3 rfl dX6_get_5 ?_
    refine px_aload_nN dX6_get_6 rfl ?_
    refine px_ifnonnull_f dX6_get_7 ?_
    refine px_ldc2 dX6_get_10 kc_X6_243 ?_
    refine px_goto (tgt := 21) dX6_get_13 (by decide) ?_
    exact px_retl dX6_get_21 (by rfl) (by rfl)
end M34
