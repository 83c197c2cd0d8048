/-! Tape -/
def IsP (f : Nat → Option va_E) (a L : Nat) (lt : Nat → Int32) : Prop := f a = some (.inr (3, [.ref (a + 1), .int (nI L)])) ∧ f (a + 1) = some (.inl (0, 50, .inl lt)) ∧ L ≤ 50
def tp_la (L : Nat) (lt : Nat → Int32) (k : Nat) : Int32 := if k < L then lt k else -1
def tp_num (L : Nat) (lt : Nat → Int32) (k : Nat) : Int32 := 10 * (tp_la L lt k - 48) + tp_la L lt (k + 1) - 48
theorem nlt_nI {a b : Nat} (ha : a < 2 ^ 31) (hb : b < 2 ^ 31) : (nI a < nI b) ↔ a < b := nI_ltI ha hb
theorem rem3 {i : Nat} (h : i < 1000) : nI i - nI i / 3 * 3 = nI (i % 3) := pk_rem (d := 3) (by omega) (by omega) (by omega)
section M13
variable {B : Nat} {D : va_G} {n w : Nat} {f : Nat → Option va_E} {a L : Nat} {lt : Nat → Int32}
theorem c_X3_letterAt (h : IsP f a L lt) {k : Nat} (hk : k < 1000) : CT B D 0 mX3_letterAt [.ref a, .int (nI k)] (n, w, f) (some (.int (tp_la L lt k))) (n, w, f) := by
  have hL := h.2.2
  refine CT.of [some (.ref a), some (.int (nI k))] rfl (Nat.le_of_ble_eq_true rfl) pl_X3 trivial ?_
  refine px_iload_n dX3_letterAt_0 rfl ?_
  refine px_if_lt (tgt := 21) dX3_letterAt_1 (by decide) (fun hc1 => ?_) (fun hc1 => ?_)
  · exact absurd hc1 (nI_pos (by omega))
  · refine px_iload_n dX3_letterAt_4 rfl ?_
    refine px_aload_n dX3_letterAt_5 rfl ?_
    refine px_getfield fl_X3_15 dX3_letterAt_6 (by first | exact h.1 | exact h.2.1) (by rfl) ?_
    refine px_icmp_ge (tgt := 21) dX3_letterAt_9 (by decide) (fun hc9 => ?_) (fun hc9 => ?_)
    · refine px_iconst (v := (-1)) dX3_letterAt_21 (by decide) ?_
      exact px_reti dX3_letterAt_22 (by first | (rw [Int32.le_iff_toInt_le, nI_toInt (by omega), nI_toInt (by omega)] at hc9; unfold tp_la; rw [if_neg (by omega)]) | (rw [Int32.le_iff_toInt_le, nI_toInt (by omega), nI_toInt (by omega)] at hc9; unfold tp_la; rw [if_pos (by omega), nI_clamp (by omega)])) (by rfl)
    · refine px_aload_n dX3_letterAt_12 rfl ?_
      refine px_getfield fl_X3_9 dX3_letterAt_13 (by first | exact h.1 | exact h.2.1) (by rfl) ?_
      refine px_iload_n dX3_letterAt_16 rfl ?_
      refine px_iaload dX3_letterAt_17 (by first | exact h.1 | exact h.2.1) (by rw [Int32.le_iff_toInt_le, nI_toInt (by omega), nI_toInt (by omega)] at hc9; exact ixn (by omega) (by omega)) ?_
      refine px_goto (tgt := 22) dX3_letterAt_18 (by decide) ?_
      exact px_reti dX3_letterAt_22 (by first | (rw [Int32.le_iff_toInt_le, nI_toInt (by omega), nI_toInt (by omega)] at hc9; unfold tp_la; rw [if_neg (by omega)]) | (rw [Int32.le_iff_toInt_le, nI_toInt (by omega), nI_toInt (by omega)] at hc9; unfold tp_la; rw [if_pos (by omega), nI_clamp (by omega)])) (by rfl)

theorem c_X3_numberAt (h : IsP f a L lt) {k : Nat} (hk : k < 900) : CT B D 1 mX3_numberAt [.ref a, .int (nI k)] (n, w, f) (some (.int (tp_num L lt k))) (n, w, f) := by
  refine CT.of [some (.ref a), some (.int (nI k))] rfl (Nat.le_of_ble_eq_true rfl) pl_X3 trivial ?_
  refine px_bipush (v := 10) dX3_numberAt_0 (by decide) ?_
  refine px_aload_n dX3_numberAt_2 rfl ?_
  refine px_iload_n dX3_numberAt_3 rfl ?_
  refine px_callV1 (ν := mX3_letterAt) (ci := 3) rfl rfl lk_X3_19 in_X3_letterAt se_X3_letterAt mok_X3_letterAt dX3_numberAt_4 (c_X3_letterAt h (by omega)) (by first | exact h.1 | exact h.2.1) rfl rfl (by omega) (by simp) ?_
  refine px_bipush (v := 48) dX3_numberAt_7 (by decide) ?_
  refine px_isub dX3_numberAt_9 ?_
  refine px_imul dX3_numberAt_10 ?_
  refine px_aload_n dX3_numberAt_11 rfl ?_
  refine px_iload_n dX3_numberAt_12 rfl ?_
  refine px_iconst (v := 1) dX3_numberAt_13 (by decide) ?_
  refine px_iadd dX3_numberAt_14 ?_
  rw [nI_1]
  refine px_callV1 (ν := mX3_letterAt) (ci := 3) rfl rfl lk_X3_19 in_X3_letterAt se_X3_letterAt mok_X3_letterAt dX3_numberAt_15 (c_X3_letterAt (k := k + 1) h (by omega)) (by first | exact h.1 | exact h.2.1) rfl rfl (by omega) (by simp) ?_
  refine px_iadd dX3_numberAt_18 ?_
  refine px_bipush (v := 48) dX3_numberAt_19 (by decide) ?_
  refine px_isub dX3_numberAt_21 ?_
  exact px_reti dX3_numberAt_22 (by rfl) (by rfl)

theorem c_X3_empty (h : IsP f a L lt) : CT B D 0 mX3_empty [.ref a] (n, w, f) (some (.int (nI L))) (n, w, va_up f a (some (.inr (3, [.ref (a + 1), .int 0])))) := by
  refine CT.of [some (.ref a), none] rfl (Nat.le_of_ble_eq_true rfl) pl_X3 trivial ?_
  refine px_aload_n dX3_empty_0 rfl ?_
  refine px_getfield fl_X3_15 dX3_empty_1 (by first | exact h.1 | exact h.2.1) (by rfl) ?_
  refine px_istore1 rfl dX3_empty_4 ?_
  refine px_aload_n dX3_empty_5 rfl ?_
  refine px_iconst (v := 0) dX3_empty_6 (by decide) ?_
  refine px_putfield fp_X3_15 dX3_empty_7 (by first | exact h.1 | exact h.2.1) rfl rfl (by simp) ?_
  refine px_iload_n dX3_empty_10 rfl ?_
  exact px_reti dX3_empty_11 (by rfl) (by rfl)

theorem c_X3_append (h : IsP f a L lt) (hL : L < 50) (x : Int32) : CT B D 0 mX3_append [.ref a, .int x] (n, w, f) (some (.int (bi true))) (n, w, va_up (va_up f (a + 1) (some (.inl (0, 50, .inl (va_up lt L x))))) a (some (.inr (3, [.ref (a + 1), .int (nI (L + 1))])))) := by
  refine CT.of [some (.ref a), some (.int x)] rfl (Nat.le_of_ble_eq_true rfl) pl_X3 (bi_01 _) ?_
  refine px_aload_n dX3_append_0 rfl ?_
  refine px_getfield fl_X3_15 dX3_append_1 (by first | exact h.1 | exact h.2.1 | (rw [va_up_ne _ _ (by omega)]; exact h.1)) (by rfl) ?_
  refine px_if_lt (tgt := 16) dX3_append_4 (by decide) (fun hc4 => ?_) (fun hc4 => ?_)
  · exact absurd hc4 (nI_pos (by omega))
  · refine px_aload_n dX3_append_7 rfl ?_
    refine px_getfield fl_X3_15 dX3_append_8 (by first | exact h.1 | exact h.2.1 | (rw [va_up_ne _ _ (by omega)]; exact h.1)) (by rfl) ?_
    refine px_bipush (v := 50) dX3_append_11 (by decide) ?_
    refine px_icmp_lt (tgt := 18) dX3_append_13 (by decide) (fun hc13 => ?_) (fun hc13 => ?_)
    · refine px_aload_n dX3_append_18 rfl ?_
      refine px_getfield fl_X3_9 dX3_append_19 (by first | exact h.1 | exact h.2.1 | (rw [va_up_ne _ _ (by omega)]; exact h.1)) (by rfl) ?_
      refine px_aload_n dX3_append_22 rfl ?_
      refine px_getfield fl_X3_15 dX3_append_23 (by first | exact h.1 | exact h.2.1 | (rw [va_up_ne _ _ (by omega)]; exact h.1)) (by rfl) ?_
      refine px_iload_n dX3_append_26 rfl ?_
      refine px_iastore dX3_append_27 (by first | exact h.1 | exact h.2.1 | (rw [va_up_ne _ _ (by omega)]; exact h.1)) (by exact ixn (by omega) (by omega)) ?_
      refine px_aload_n dX3_append_28 rfl ?_
      refine px_dup dX3_append_29 rfl ?_
      refine px_getfield fl_X3_15 dX3_append_30 (by first | exact h.1 | exact h.2.1 | (rw [va_up_ne _ _ (by omega)]; exact h.1)) (by rfl) ?_
      refine px_iconst (v := 1) dX3_append_33 (by decide) ?_
      refine px_iadd dX3_append_34 ?_
      refine px_putfield fp_X3_15 dX3_append_35 (by first | exact h.1 | exact h.2.1 | (rw [va_up_ne _ _ (by omega)]; exact h.1)) rfl rfl (by simp) ?_
      refine px_iconst (v := 1) dX3_append_38 (by decide) ?_
      exact px_reti dX3_append_39 (by rfl) (by rw [nI_clamp (by omega), nI_succ]; rfl)
    · exact absurd (show nI L < 50 from nI_lt (a := L) (b := 50) (by omega) (by decide)) hc13

theorem c_X3_append_full (h : IsP f a L lt) (hL : L = 50) (x : Int32) : CT B D 0 mX3_append [.ref a, .int x] (n, w, f) (some (.int (bi false))) (n, w, f) := by
  subst hL
  refine CT.of [some (.ref a), some (.int x)] rfl (Nat.le_of_ble_eq_true rfl) pl_X3 (bi_01 _) ?_
  refine px_aload_n dX3_append_0 rfl ?_
  refine px_getfield fl_X3_15 dX3_append_1 (by first | exact h.1 | exact h.2.1) (by rfl) ?_
  refine px_if_lt (tgt := 16) dX3_append_4 (by decide) (fun hc4 => ?_) (fun hc4 => ?_)
  · exact absurd hc4 (by decide)
  · refine px_aload_n dX3_append_7 rfl ?_
    refine px_getfield fl_X3_15 dX3_append_8 (by first | exact h.1 | exact h.2.1) (by rfl) ?_
    refine px_bipush (v := 50) dX3_append_11 (by decide) ?_
    refine px_icmp_lt (tgt := 18) dX3_append_13 (by decide) (fun hc13 => ?_) (fun hc13 => ?_)
    · exact absurd hc13 (by decide)
    · refine px_iconst (v := 0) dX3_append_16 (by decide) ?_
      exact px_reti dX3_append_17 (by rfl) (by rfl)

def tp_least (L : Nat) (lt : Nat → Int32) (k g : Nat) : Int32 := if g = 1 then 10 * (tp_la L lt (k + 1) - 48) else tp_num L lt (k + 1)
def tp_nokey (L : Nat) (lt : Nat → Int32) (k g : Nat) : Bool := s_asks (tp_la L lt k) && !s_isKey (tp_least L lt k g)
theorem c_X3_tellsNoKey (h : IsP f a L lt) {k g : Nat} (hk : k < 800) (hg : g < 3) : CT B D 2 mX3_tellsNoKey [.ref a, .int (nI k), .int (nI g)] (n, w, f) (some (.int (bi (tp_nokey L lt k g)))) (n, w, f) := by
  refine CT.of [some (.ref a), some (.int (nI k)), some (.int (nI g)), none] rfl (Nat.le_of_ble_eq_true rfl) pl_X3 (bi_01 _) ?_
  refine px_iload_n dX3_tellsNoKey_0 rfl ?_
  refine px_iconst (v := 1) dX3_tellsNoKey_1 (by decide) ?_
  refine px_icmp_ne (tgt := 21) dX3_tellsNoKey_2 (by decide) (fun hc2 => ?_) (fun hc2 => ?_)
  · refine px_aload_n dX3_tellsNoKey_21 rfl ?_
    refine px_iload_n dX3_tellsNoKey_22 rfl ?_
    refine px_iconst (v := 1) dX3_tellsNoKey_23 (by decide) ?_
    refine px_iadd dX3_tellsNoKey_24 ?_
    rw [nI_1]
    refine px_callV1 (ν := mX3_numberAt) (ci := 3) rfl rfl lk_X3_34 in_X3_numberAt se_X3_numberAt mok_X3_numberAt dX3_tellsNoKey_25 (c_X3_numberAt (k := k + 1) h (by omega)) (by first | exact h.1 | exact h.2.1) rfl rfl (by omega) (by simp) ?_
    refine px_istore3 rfl dX3_tellsNoKey_28 ?_
    have hgg : (nI g = 1) = (g = 1) := propext (nI_eq (a := g) (b := 1) (by omega) (by omega))
    refine px_aload_n dX3_tellsNoKey_29 rfl ?_
    refine px_iload_n dX3_tellsNoKey_30 rfl ?_
    refine px_callV1 (ν := mX3_letterAt) (ci := 3) rfl rfl lk_X3_19 in_X3_letterAt se_X3_letterAt mok_X3_letterAt dX3_tellsNoKey_31 (c_X3_letterAt (k := k) h (by omega)) (by first | exact h.1 | exact h.2.1) rfl rfl (by omega) (by simp) ?_
    refine px_callSN1 (ν := mX6_asksForKey) lk_X3_37 st_X6_asksForKey mok_X6_asksForKey dX3_tellsNoKey_34 (c_X6_asksForKey _) rfl rfl (by omega) (by simp) ?_
    refine px_ifb_eq (tgt := 51) dX3_tellsNoKey_37 (by decide) (fun hc37 => ?_) (fun hc37 => ?_)
    · refine px_iconst (v := 0) dX3_tellsNoKey_51 (by decide) ?_
      exact px_reti dX3_tellsNoKey_52 (by (simp only [tp_nokey, tp_least, s_isKey]; simp_all [bi, s_isKey])) (by rfl)
    · refine px_iload_n dX3_tellsNoKey_40 rfl ?_
      refine px_callSN1 (ν := mX6_isKey) lk_X3_40 st_X6_isKey mok_X6_isKey dX3_tellsNoKey_41 (c_X6_isKey _) rfl rfl (by omega) (by simp) ?_
      refine px_ifb_ne (tgt := 51) dX3_tellsNoKey_44 (by decide) (fun hc44 => ?_) (fun hc44 => ?_)
      · refine px_iconst (v := 0) dX3_tellsNoKey_51 (by decide) ?_
        exact px_reti dX3_tellsNoKey_52 (by (simp only [tp_nokey, tp_least, s_isKey]; simp_all [bi, s_isKey])) (by rfl)
      · refine px_iconst (v := 1) dX3_tellsNoKey_47 (by decide) ?_
        refine px_goto (tgt := 52) dX3_tellsNoKey_48 (by decide) ?_
        exact px_reti dX3_tellsNoKey_52 (by (simp only [tp_nokey, tp_least, s_isKey]; simp_all [bi, s_isKey])) (by rfl)
  · refine px_bipush (v := 10) dX3_tellsNoKey_5 (by decide) ?_
    refine px_aload_n dX3_tellsNoKey_7 rfl ?_
    refine px_iload_n dX3_tellsNoKey_8 rfl ?_
    refine px_iconst (v := 1) dX3_tellsNoKey_9 (by decide) ?_
    refine px_iadd dX3_tellsNoKey_10 ?_
    rw [nI_1]
    refine px_callV1 (ν := mX3_letterAt) (ci := 3) rfl rfl lk_X3_19 in_X3_letterAt se_X3_letterAt mok_X3_letterAt dX3_tellsNoKey_11 (c_X3_letterAt (k := k + 1) h (by omega)) (by first | exact h.1 | exact h.2.1) rfl rfl (by omega) (by simp) ?_
    refine px_bipush (v := 48) dX3_tellsNoKey_14 (by decide) ?_
    refine px_isub dX3_tellsNoKey_16 ?_
    refine px_imul dX3_tellsNoKey_17 ?_
    refine px_goto (tgt := 28) dX3_tellsNoKey_18 (by decide) ?_
    refine px_istore3 rfl dX3_tellsNoKey_28 ?_
    have hgg : (nI g = 1) = (g = 1) := propext (nI_eq (a := g) (b := 1) (by omega) (by omega))
    refine px_aload_n dX3_tellsNoKey_29 rfl ?_
    refine px_iload_n dX3_tellsNoKey_30 rfl ?_
    refine px_callV1 (ν := mX3_letterAt) (ci := 3) rfl rfl lk_X3_19 in_X3_letterAt se_X3_letterAt mok_X3_letterAt dX3_tellsNoKey_31 (c_X3_letterAt (k := k) h (by omega)) (by first | exact h.1 | exact h.2.1) rfl rfl (by omega) (by simp) ?_
    refine px_callSN1 (ν := mX6_asksForKey) lk_X3_37 st_X6_asksForKey mok_X6_asksForKey dX3_tellsNoKey_34 (c_X6_asksForKey _) rfl rfl (by omega) (by simp) ?_
    refine px_ifb_eq (tgt := 51) dX3_tellsNoKey_37 (by decide) (fun hc37 => ?_) (fun hc37 => ?_)
    · refine px_iconst (v := 0) dX3_tellsNoKey_51 (by decide) ?_
      exact px_reti dX3_tellsNoKey_52 (by (simp only [tp_nokey, tp_least, s_isKey]; simp_all [bi, s_isKey])) (by rfl)
    · refine px_iload_n dX3_tellsNoKey_40 rfl ?_
      refine px_callSN1 (ν := mX6_isKey) lk_X3_40 st_X6_isKey mok_X6_isKey dX3_tellsNoKey_41 (c_X6_isKey _) rfl rfl (by omega) (by simp) ?_
      refine px_ifb_ne (tgt := 51) dX3_tellsNoKey_44 (by decide) (fun hc44 => ?_) (fun hc44 => ?_)
      · refine px_iconst (v := 0) dX3_tellsNoKey_51 (by decide) ?_
        exact px_reti dX3_tellsNoKey_52 (by (simp only [tp_nokey, tp_least, s_isKey]; simp_all [bi, s_isKey])) (by rfl)
      · refine px_iconst (v := 1) dX3_tellsNoKey_47 (by decide) ?_
        refine px_goto (tgt := 52) dX3_tellsNoKey_48 (by decide) ?_
        exact px_reti dX3_tellsNoKey_52 (by (simp only [tp_nokey, tp_least, s_isKey]; simp_all [bi, s_isKey])) (by rfl)

def tp_fault (L : Nat) (lt : Nat → Int32) : Nat → Nat → Int32
  | 0, _ => if 0 < L ∧ L % 3 = 0 then -1 else nI L
  | k + 1, i => if 36 ≤ i ∨ (if i % 3 = 0 then s_isSign (lt i) else s_isFigure (lt i)) = false then nI i
    else if 0 < i % 3 ∧ tp_nokey L lt (i - i % 3) (i % 3) = true then nI (i - i % 3 + 1) else tp_fault L lt k (i + 1)
theorem tp_fault_s1 {k i : Nat} (h : 36 ≤ i ∨ (if i % 3 = 0 then s_isSign (lt i) else s_isFigure (lt i)) = false) : tp_fault L lt (k + 1) i = nI i := by rw [tp_fault, if_pos h]
theorem tp_fault_s2 {k i : Nat} (h : ¬ (36 ≤ i ∨ (if i % 3 = 0 then s_isSign (lt i) else s_isFigure (lt i)) = false)) (h2 : 0 < i % 3 ∧ tp_nokey L lt (i - i % 3) (i % 3) = true) : tp_fault L lt (k + 1) i = nI (i - i % 3 + 1) := by rw [tp_fault, if_neg h, if_pos h2]
theorem tp_fault_s3 {k i : Nat} (h : ¬ (36 ≤ i ∨ (if i % 3 = 0 then s_isSign (lt i) else s_isFigure (lt i)) = false)) (h2 : ¬ (0 < i % 3 ∧ tp_nokey L lt (i - i % 3) (i % 3) = true)) : tp_fault L lt (k + 1) i = tp_fault L lt k (i + 1) := by rw [tp_fault, if_neg h, if_neg h2]
theorem l_X3_faultAsRule_2 {d : Nat} (hd : 3 ≤ d) (h : IsP f a L lt) : ∀ (k i : Nat) (z1 z2 : Option Value), i + k = L → EX B D d mX3_faultAsRule 2 [some (.ref a), some (.int (nI i)), z1, z2] [] (n, w, f) (some (.int (tp_fault L lt k i))) (n, w, f) := by
  have hL := h.2.2
  have e1 : (nI L ≤ 0) = (L = 0) := propext ((nI_leI (a := L) (b := 0) (by omega) (by omega)).trans (by omega))
  have e2 : (nI (L % 3) = 0) = (L % 3 = 0) := propext (nI_eq (a := L % 3) (b := 0) (by omega) (by omega))
  intro k
  induction k with
  | zero =>
    intro i z1 z2 hi
    refine px_iload_n dX3_faultAsRule_2 rfl ?_
    refine px_aload_n dX3_faultAsRule_3 rfl ?_
    refine px_getfield fl_X3_15 dX3_faultAsRule_4 (by first | exact h.1 | exact h.2.1) (by rfl) ?_
    refine px_icmp_ge (tgt := 76) dX3_faultAsRule_7 (by decide) (fun hc7 => ?_) (fun hc7 => ?_)
    · refine px_aload_n dX3_faultAsRule_76 rfl ?_
      refine px_getfield fl_X3_15 dX3_faultAsRule_77 (by first | exact h.1 | exact h.2.1) (by rfl) ?_
      refine px_if_le (tgt := 96) dX3_faultAsRule_80 (by decide) (fun hc80 => ?_) (fun hc80 => ?_)
      · refine px_aload_n dX3_faultAsRule_96 rfl ?_
        refine px_getfield fl_X3_15 dX3_faultAsRule_97 (by first | exact h.1 | exact h.2.1) (by rfl) ?_
        exact px_reti dX3_faultAsRule_100 (by (unfold tp_fault; first | (rw [e1] at hc80; rw [if_neg (by omega)]) | (rw [e1] at hc80; rw [e2] at hc89; first | rw [if_neg (by omega)] | rw [if_pos (by omega)]))) (by rfl)
      · refine px_aload_n dX3_faultAsRule_83 rfl ?_
        refine px_getfield fl_X3_15 dX3_faultAsRule_84 (by first | exact h.1 | exact h.2.1) (by rfl) ?_
        refine px_iconst (v := 3) dX3_faultAsRule_87 (by decide) ?_
        refine px_irem dX3_faultAsRule_88 (by decide) ?_
        rw [rem3 (by omega)]
        refine px_if_ne (tgt := 96) dX3_faultAsRule_89 (by decide) (fun hc89 => ?_) (fun hc89 => ?_)
        · refine px_aload_n dX3_faultAsRule_96 rfl ?_
          refine px_getfield fl_X3_15 dX3_faultAsRule_97 (by first | exact h.1 | exact h.2.1) (by rfl) ?_
          exact px_reti dX3_faultAsRule_100 (by (unfold tp_fault; first | (rw [e1] at hc80; rw [if_neg (by omega)]) | (rw [e1] at hc80; rw [e2] at hc89; first | rw [if_neg (by omega)] | rw [if_pos (by omega)]))) (by rfl)
        · refine px_iconst (v := (-1)) dX3_faultAsRule_92 (by decide) ?_
          refine px_goto (tgt := 100) dX3_faultAsRule_93 (by decide) ?_
          exact px_reti dX3_faultAsRule_100 (by (unfold tp_fault; first | (rw [e1] at hc80; rw [if_neg (by omega)]) | (rw [e1] at hc80; rw [e2] at hc89; first | rw [if_neg (by omega)] | rw [if_pos (by omega)]))) (by rfl)
    · exact absurd (nI_le (by omega) (by omega)) hc7
  | succ k ih =>
    intro i z1 z2 hi
    have E1 : (36 ≤ nI i) = (36 ≤ i) := propext (nI_leI (a := 36) (b := i) (by omega) (by omega))
    have E2 : (nI (i % 3) = 0) = (i % 3 = 0) := propext (nI_eq (a := i % 3) (b := 0) (by omega) (by omega))
    have E3 : (nI (i % 3) ≤ 0) = (i % 3 = 0) := propext ((nI_leI (a := i % 3) (b := 0) (by omega) (by omega)).trans (by omega))
    have E4 : nI i - nI (i % 3) = nI (i - i % 3) := pk_sub (by omega)
    have E5 : tp_la L lt i = lt i := if_pos (by omega)
    refine px_iload_n dX3_faultAsRule_2 rfl ?_
    refine px_aload_n dX3_faultAsRule_3 rfl ?_
    refine px_getfield fl_X3_15 dX3_faultAsRule_4 (by first | exact h.1 | exact h.2.1) (by rfl) ?_
    refine px_icmp_ge (tgt := 76) dX3_faultAsRule_7 (by decide) (fun hc7 => ?_) (fun hc7 => ?_)
    · exact absurd hc7 (nI_ge (by omega) (by omega))
    · refine px_iload_n dX3_faultAsRule_10 rfl ?_
      refine px_iconst (v := 3) dX3_faultAsRule_11 (by decide) ?_
      refine px_irem dX3_faultAsRule_12 (by decide) ?_
      rw [rem3 (by omega)]
      refine px_istore2 rfl dX3_faultAsRule_13 ?_
      refine px_aload_n dX3_faultAsRule_14 rfl ?_
      refine px_iload_n dX3_faultAsRule_15 rfl ?_
      refine px_callV1 (ν := mX3_letterAt) (ci := 3) rfl rfl lk_X3_19 in_X3_letterAt se_X3_letterAt mok_X3_letterAt dX3_faultAsRule_16 (c_X3_letterAt (k := i) h (by omega)) (by first | exact h.1 | exact h.2.1) rfl rfl (by omega) (by simp) ?_
      rw [E5]
      refine px_istore3 rfl dX3_faultAsRule_19 ?_
      refine px_iload_n dX3_faultAsRule_20 rfl ?_
      refine px_bipush (v := 36) dX3_faultAsRule_21 (by decide) ?_
      refine px_icmp_ge (tgt := 47) dX3_faultAsRule_23 (by decide) (fun hc23 => ?_) (fun hc23 => ?_)
      · refine px_iload_n dX3_faultAsRule_47 rfl ?_
        exact px_reti dX3_faultAsRule_48 (by rw [tp_fault_s1 (by simp_all)]) (by rfl)
      · refine px_iload_n dX3_faultAsRule_26 rfl ?_
        refine px_if_ne (tgt := 40) dX3_faultAsRule_27 (by decide) (fun hc27 => ?_) (fun hc27 => ?_)
        · refine px_iload_n dX3_faultAsRule_40 rfl ?_
          refine px_callSN1 (ν := mX6_isFigure) lk_X3_27 st_X6_isFigure mok_X6_isFigure dX3_faultAsRule_41 (c_X6_isFigure _) rfl rfl (by omega) (by simp) ?_
          refine px_ifb_ne (tgt := 49) dX3_faultAsRule_44 (by decide) (fun hc44 => ?_) (fun hc44 => ?_)
          · refine px_iload_n dX3_faultAsRule_49 rfl ?_
            refine px_if_le (tgt := 70) dX3_faultAsRule_50 (by decide) (fun hc50 => ?_) (fun hc50 => ?_)
            · refine px_iinc1 rfl (nI_inc i) dX3_faultAsRule_70 ?_
              refine px_goto (tgt := 2) dX3_faultAsRule_73 (by decide) ?_
              have hz := ih (i + 1) (some (.int (nI (i % 3)))) (some (.int (lt i))) (by omega)
              rw [tp_fault_s3 (by simp_all) (by simp_all)]
              exact hz
            · refine px_aload_n dX3_faultAsRule_53 rfl ?_
              refine px_iload_n dX3_faultAsRule_54 rfl ?_
              refine px_iload_n dX3_faultAsRule_55 rfl ?_
              refine px_isub dX3_faultAsRule_56 ?_
              rw [E4]
              refine px_iload_n dX3_faultAsRule_57 rfl ?_
              refine px_callV1 (ν := mX3_tellsNoKey) (ci := 3) rfl rfl lk_X3_30 in_X3_tellsNoKey se_X3_tellsNoKey mok_X3_tellsNoKey dX3_faultAsRule_58 (c_X3_tellsNoKey (k := i - i % 3) (g := i % 3) h (by omega) (by omega)) (by first | exact h.1 | exact h.2.1) rfl rfl (by omega) (by simp) ?_
              refine px_ifb_eq (tgt := 70) dX3_faultAsRule_61 (by decide) (fun hc61 => ?_) (fun hc61 => ?_)
              · refine px_iinc1 rfl (nI_inc i) dX3_faultAsRule_70 ?_
                refine px_goto (tgt := 2) dX3_faultAsRule_73 (by decide) ?_
                have hz := ih (i + 1) (some (.int (nI (i % 3)))) (some (.int (lt i))) (by omega)
                rw [tp_fault_s3 (by simp_all) (by simp_all)]
                exact hz
              · refine px_iload_n dX3_faultAsRule_64 rfl ?_
                refine px_iload_n dX3_faultAsRule_65 rfl ?_
                refine px_isub dX3_faultAsRule_66 ?_
                rw [E4]
                refine px_iconst (v := 1) dX3_faultAsRule_67 (by decide) ?_
                refine px_iadd dX3_faultAsRule_68 ?_
                exact px_reti dX3_faultAsRule_69 (by rw [tp_fault_s2 (by simp_all) (by simp_all; try omega), nI_1]) (by rfl)
          · refine px_iload_n dX3_faultAsRule_47 rfl ?_
            exact px_reti dX3_faultAsRule_48 (by rw [tp_fault_s1 (by simp_all)]) (by rfl)
        · refine px_iload_n dX3_faultAsRule_30 rfl ?_
          refine px_callSN1 (ν := mX6_isSign) lk_X3_23 st_X6_isSign mok_X6_isSign dX3_faultAsRule_31 (c_X6_isSign _) rfl rfl (by omega) (by simp) ?_
          refine px_ifb_eq (tgt := 47) dX3_faultAsRule_34 (by decide) (fun hc34 => ?_) (fun hc34 => ?_)
          · refine px_iload_n dX3_faultAsRule_47 rfl ?_
            exact px_reti dX3_faultAsRule_48 (by rw [tp_fault_s1 (by simp_all)]) (by rfl)
          · refine px_goto (tgt := 49) dX3_faultAsRule_37 (by decide) ?_
            refine px_iload_n dX3_faultAsRule_49 rfl ?_
            refine px_if_le (tgt := 70) dX3_faultAsRule_50 (by decide) (fun hc50 => ?_) (fun hc50 => ?_)
            · refine px_iinc1 rfl (nI_inc i) dX3_faultAsRule_70 ?_
              refine px_goto (tgt := 2) dX3_faultAsRule_73 (by decide) ?_
              have hz := ih (i + 1) (some (.int (nI (i % 3)))) (some (.int (lt i))) (by omega)
              rw [tp_fault_s3 (by simp_all) (by simp_all)]
              exact hz
            · refine px_aload_n dX3_faultAsRule_53 rfl ?_
              refine px_iload_n dX3_faultAsRule_54 rfl ?_
              refine px_iload_n dX3_faultAsRule_55 rfl ?_
              refine px_isub dX3_faultAsRule_56 ?_
              rw [E4]
              refine px_iload_n dX3_faultAsRule_57 rfl ?_
              refine px_callV1 (ν := mX3_tellsNoKey) (ci := 3) rfl rfl lk_X3_30 in_X3_tellsNoKey se_X3_tellsNoKey mok_X3_tellsNoKey dX3_faultAsRule_58 (c_X3_tellsNoKey (k := i - i % 3) (g := i % 3) h (by omega) (by omega)) (by first | exact h.1 | exact h.2.1) rfl rfl (by omega) (by simp) ?_
              refine px_ifb_eq (tgt := 70) dX3_faultAsRule_61 (by decide) (fun hc61 => ?_) (fun hc61 => ?_)
              · refine px_iinc1 rfl (nI_inc i) dX3_faultAsRule_70 ?_
                refine px_goto (tgt := 2) dX3_faultAsRule_73 (by decide) ?_
                have hz := ih (i + 1) (some (.int (nI (i % 3)))) (some (.int (lt i))) (by omega)
                rw [tp_fault_s3 (by simp_all) (by simp_all)]
                exact hz
              · refine px_iload_n dX3_faultAsRule_64 rfl ?_
                refine px_iload_n dX3_faultAsRule_65 rfl ?_
                refine px_isub dX3_faultAsRule_66 ?_
                rw [E4]
                refine px_iconst (v := 1) dX3_faultAsRule_67 (by decide) ?_
                refine px_iadd dX3_faultAsRule_68 ?_
                exact px_reti dX3_faultAsRule_69 (by rw [tp_fault_s2 (by simp_all) (by simp_all; try omega), nI_1]) (by rfl)
theorem c_X3_faultAsRule (h : IsP f a L lt) : CT B D 3 mX3_faultAsRule [.ref a] (n, w, f) (some (.int (tp_fault L lt L 0))) (n, w, f) := by
  refine CT.of [some (.ref a), none, none, none] rfl (Nat.le_of_ble_eq_true rfl) pl_X3 trivial ?_
  refine px_iconst (v := 0) dX3_faultAsRule_0 (by decide) ?_
  refine px_istore1 rfl dX3_faultAsRule_1 ?_
  exact l_X3_faultAsRule_2 (by omega) h L 0 none none (by omega)

/-! Row -/
def IsR (f : Nat → Option va_E) (a : Nat) (hd sz : Int32) (pl : Nat → Int64) : Prop := f a = some (.inr (2, [.int hd, .ref (a + 1), .int sz])) ∧ f (a + 1) = some (.inl (1, 20, .inr (.inl pl)))
def r_has (sz i : Int32) : Bool := !decide (i < 0) && !decide (sz ≤ i)
def r_span (sz i k : Int32) : Bool := !decide (i < 0) && !decide (k < 0) && !decide (sz - k < i)
theorem r_in {sz i : Int32} (h : r_has sz i = true) (hs : sz.toInt ≤ 20) : 0 ≤ i.toInt ∧ i.toInt < ((20 : Nat) : Int) := by
  simp only [r_has, Bool.and_eq_true, Bool.not_eq_true', decide_eq_false_iff_not] at h
  exact ixb h.1 h.2 hs
theorem c_X2_hasPlace {hd sz : Int32} {pl : Nat → Int64} (h : IsR f a hd sz pl) (i : Int32) : CT B D 0 mX2_hasPlace [.ref a, .int i] (n, w, f) (some (.int (bi (r_has sz i)))) (n, w, f) := by
  refine CT.of [some (.ref a), some (.int i)] rfl (Nat.le_of_ble_eq_true rfl) pl_X2 (bi_01 _) ?_
  refine px_iload_n dX2_hasPlace_0 rfl ?_
  refine px_if_lt (tgt := 16) dX2_hasPlace_1 (by decide) (fun hc1 => ?_) (fun hc1 => ?_)
  · refine px_iconst (v := 0) dX2_hasPlace_16 (by decide) ?_
    exact px_reti dX2_hasPlace_17 (by simp [bi, r_has, *]) (by rfl)
  · refine px_iload_n dX2_hasPlace_4 rfl ?_
    refine px_aload_n dX2_hasPlace_5 rfl ?_
    refine px_getfield fl_X2_28 dX2_hasPlace_6 (by first | exact h.1 | exact h.2) (by rfl) ?_
    refine px_icmp_ge (tgt := 16) dX2_hasPlace_9 (by decide) (fun hc9 => ?_) (fun hc9 => ?_)
    · refine px_iconst (v := 0) dX2_hasPlace_16 (by decide) ?_
      exact px_reti dX2_hasPlace_17 (by simp [bi, r_has, *]) (by rfl)
    · refine px_iconst (v := 1) dX2_hasPlace_12 (by decide) ?_
      refine px_goto (tgt := 17) dX2_hasPlace_13 (by decide) ?_
      exact px_reti dX2_hasPlace_17 (by simp [bi, r_has, *]) (by rfl)

theorem c_X2_hasSpan {hd sz : Int32} {pl : Nat → Int64} (h : IsR f a hd sz pl) (i k : Int32) : CT B D 0 mX2_hasSpan [.ref a, .int i, .int k] (n, w, f) (some (.int (bi (r_span sz i k)))) (n, w, f) := by
  refine CT.of [some (.ref a), some (.int i), some (.int k)] rfl (Nat.le_of_ble_eq_true rfl) pl_X2 (bi_01 _) ?_
  refine px_iload_n dX2_hasSpan_0 rfl ?_
  refine px_if_lt (tgt := 22) dX2_hasSpan_1 (by decide) (fun hc1 => ?_) (fun hc1 => ?_)
  · refine px_iconst (v := 0) dX2_hasSpan_22 (by decide) ?_
    exact px_reti dX2_hasSpan_23 (by simp [bi, r_span, *]) (by rfl)
  · refine px_iload_n dX2_hasSpan_4 rfl ?_
    refine px_if_lt (tgt := 22) dX2_hasSpan_5 (by decide) (fun hc5 => ?_) (fun hc5 => ?_)
    · refine px_iconst (v := 0) dX2_hasSpan_22 (by decide) ?_
      exact px_reti dX2_hasSpan_23 (by simp [bi, r_span, *]) (by rfl)
    · refine px_iload_n dX2_hasSpan_8 rfl ?_
      refine px_aload_n dX2_hasSpan_9 rfl ?_
      refine px_getfield fl_X2_28 dX2_hasSpan_10 (by first | exact h.1 | exact h.2) (by rfl) ?_
      refine px_iload_n dX2_hasSpan_13 rfl ?_
      refine px_isub dX2_hasSpan_14 ?_
      refine px_icmp_gt (tgt := 22) dX2_hasSpan_15 (by decide) (fun hc15 => ?_) (fun hc15 => ?_)
      · refine px_iconst (v := 0) dX2_hasSpan_22 (by decide) ?_
        exact px_reti dX2_hasSpan_23 (by simp [bi, r_span, *]) (by rfl)
      · refine px_iconst (v := 1) dX2_hasSpan_18 (by decide) ?_
        refine px_goto (tgt := 23) dX2_hasSpan_19 (by decide) ?_
        exact px_reti dX2_hasSpan_23 (by simp [bi, r_span, *]) (by rfl)

theorem c_X2_read {hd sz : Int32} {pl : Nat → Int64} (h : IsR f a hd sz pl) (hs : sz.toInt ≤ 20) (i : Int32) : CT B D 1 mX2_read [.ref a, .int i] (n, w, f) (some (.long (if r_has sz i = true then pl i.toNatClampNeg else -9223372036854775808))) (n, w, f) := by
  refine CT.of [some (.ref a), some (.int i)] rfl (Nat.le_of_ble_eq_true rfl) pl_X2 trivial ?_
  refine px_aload_n dX2_read_0 rfl ?_
  refine px_iload_n dX2_read_1 rfl ?_
  refine px_callV1 (ν := mX2_hasPlace) (ci := 2) rfl rfl lk_X2_38 in_X2_hasPlace se_X2_hasPlace mok_X2_hasPlace dX2_read_2 (c_X2_hasPlace h i) (by first | exact h.1 | exact h.2) rfl rfl (by omega) (by simp) ?_
  refine px_ifb_eq (tgt := 17) dX2_read_5 (by decide) (fun hc5 => ?_) (fun hc5 => ?_)
  · refine px_ldc2 dX2_read_17 kc_X2_42 ?_
    exact px_retl dX2_read_20 (by simp [*]) (by rfl)
  · refine px_aload_n dX2_read_8 rfl ?_
    refine px_getfield fl_X2_9 dX2_read_9 (by first | exact h.1 | exact h.2) (by rfl) ?_
    refine px_iload_n dX2_read_12 rfl ?_
    refine px_laload dX2_read_13 (by first | exact h.1 | exact h.2) (by exact r_in hc5 hs) ?_
    refine px_goto (tgt := 20) dX2_read_14 (by decide) ?_
    exact px_retl dX2_read_20 (by simp [*]) (by rfl)

theorem c_X2_write_t {hd sz : Int32} {pl : Nat → Int64} (h : IsR f a hd sz pl) (hs : sz.toInt ≤ 20) (i : Int32) (v : Int64) (hi : r_has sz i = true) : CT B D 1 mX2_write [.ref a, .int i, .long v] (n, w, f) (some (.int (bi true))) (n, w, va_up f (a + 1) (some (.inl (1, 20, .inr (.inl (va_up pl i.toNatClampNeg v)))))) := by
  refine CT.of [some (.ref a), some (.int i), some (.long v), none] rfl (Nat.le_of_ble_eq_true rfl) pl_X2 (bi_01 _) ?_
  refine px_aload_n dX2_write_0 rfl ?_
  refine px_iload_n dX2_write_1 rfl ?_
  refine px_callV1 (ν := mX2_hasPlace) (ci := 2) rfl rfl lk_X2_38 in_X2_hasPlace se_X2_hasPlace mok_X2_hasPlace dX2_write_2 (c_X2_hasPlace h i) (by first | exact h.1 | exact h.2) rfl rfl (by omega) (by simp) ?_
  refine px_ifb_ne (tgt := 10) dX2_write_5 (by decide) (fun hc5 => ?_) (fun hc5 => ?_)
  · refine px_aload_n dX2_write_10 rfl ?_
    refine px_getfield fl_X2_9 dX2_write_11 (by first | exact h.1 | exact h.2) (by rfl) ?_
    refine px_iload_n dX2_write_14 rfl ?_
    refine px_lload_n dX2_write_15 rfl ?_
    refine px_lastore dX2_write_16 (by first | exact h.1 | exact h.2) (by exact r_in hi hs) ?_
    refine px_iconst (v := 1) dX2_write_17 (by decide) ?_
    exact px_reti dX2_write_18 (by rfl) (by rfl)
  · rw [hi] at hc5; cases hc5

theorem c_X2_write_f {hd sz : Int32} {pl : Nat → Int64} (h : IsR f a hd sz pl) (i : Int32) (v : Int64) (hi : r_has sz i = false) : CT B D 1 mX2_write [.ref a, .int i, .long v] (n, w, f) (some (.int (bi false))) (n, w, f) := by
  refine CT.of [some (.ref a), some (.int i), some (.long v), none] rfl (Nat.le_of_ble_eq_true rfl) pl_X2 (bi_01 _) ?_
  refine px_aload_n dX2_write_0 rfl ?_
  refine px_iload_n dX2_write_1 rfl ?_
  refine px_callV1 (ν := mX2_hasPlace) (ci := 2) rfl rfl lk_X2_38 in_X2_hasPlace se_X2_hasPlace mok_X2_hasPlace dX2_write_2 (c_X2_hasPlace h i) (by first | exact h.1 | exact h.2) rfl rfl (by omega) (by simp) ?_
  refine px_ifb_ne (tgt := 10) dX2_write_5 (by decide) (fun hc5 => ?_) (fun hc5 => ?_)
  · rw [hi] at hc5; cases hc5
  · refine px_iconst (v := 0) dX2_write_8 (by decide) ?_
    exact px_reti dX2_write_9 (by rfl) (by rfl)

theorem l_J7_fill_53178 {d : Nat} {x : Int32} {M : Nat} (hM : M < 1000) : ∀ (k i : Nat) (g : Nat → Int32) (f : Nat → Option va_E), f a = some (.inl (0, M, .inl g)) → i + k = M → EX B D d mJ7_fill_53178 5 [some (.ref a), some (.int x), some (.int (nI i)), some (.int (nI M))] [] (n, w, f) none (n, w, va_up f a (some (.inl (0, M, .inl (fun j => if i ≤ j ∧ j < M then x else g j))))) := by
  intro k
  induction k with
  | zero =>
    intro i g f h hi
    have hf : f = va_up f a (some (.inl (0, M, .inl (fun j => if i ≤ j ∧ j < M then x else g j)))) := by
      have hg : (fun j => if i ≤ j ∧ j < M then x else g j) = g := by funext j; rw [if_neg (by omega)]
      rw [hg, ← h]
      funext b
      by_cases hb : b = a
      · subst hb; rw [va_up_self]
      · rw [va_up_ne _ _ hb]
    refine px_iload_n dJ7_fill_53178_5 rfl ?_
    refine px_iload_n dJ7_fill_53178_6 rfl ?_
    refine px_icmp_ge (tgt := 20) dJ7_fill_53178_7 (by decide) (fun hc7 => ?_) (fun hc7 => ?_)
    · exact px_retv dJ7_fill_53178_20 rfl (by exact congrArg (fun z => (n, w, z)) hf.symm)
    · exact absurd (nI_le (by omega) (by omega)) hc7
  | succ k ih =>
    intro i g f h hi
    refine px_iload_n dJ7_fill_53178_5 rfl ?_
    refine px_iload_n dJ7_fill_53178_6 rfl ?_
    refine px_icmp_ge (tgt := 20) dJ7_fill_53178_7 (by decide) (fun hc7 => ?_) (fun hc7 => ?_)
    · exact absurd hc7 (nI_ge (by omega) (by omega))
    · refine px_aload_n dJ7_fill_53178_10 rfl ?_
      refine px_iload_n dJ7_fill_53178_11 rfl ?_
      refine px_iload_n dJ7_fill_53178_12 rfl ?_
      refine px_iastore dJ7_fill_53178_13 (by exact h) (by exact ixn (by omega) (by omega)) ?_
      refine px_iinc2 rfl (nI_inc i) dJ7_fill_53178_14 ?_
      refine px_goto (tgt := 5) dJ7_fill_53178_17 (by decide) ?_
      have hz := ih (i + 1) _ _ (va_up_self f a (some (.inl (0, M, .inl (va_up g (nI i).toNatClampNeg x))))) (by omega)
      rw [bx_uu] at hz
      have he : (fun j => if i + 1 ≤ j ∧ j < M then x else va_up g (nI i).toNatClampNeg x j) = (fun j => if i ≤ j ∧ j < M then x else g j) := by funext j; rw [nI_clamp (by omega)]; by_cases hj : j = i; (subst hj; rw [if_neg (by omega), if_pos (by omega), va_up_self]); (by_cases hj2 : i + 1 ≤ j ∧ j < M; rw [if_pos hj2, if_pos (by omega)]; rw [if_neg hj2, if_neg (by omega), va_up_ne _ _ hj])
      rw [he] at hz
      exact hz
theorem c_J7_fill_53178 {M : Nat} (hM : M < 1000) {g : Nat → Int32} (h : f a = some (.inl (0, M, .inl g))) (x : Int32) : CT B D 0 mJ7_fill_53178 [.ref a, .int x] (n, w, f) none (n, w, va_up f a (some (.inl (0, M, .inl (fun j => if j < M then x else g j))))) := by
  refine CT.of [some (.ref a), some (.int x), none, none] rfl (Nat.le_of_ble_eq_true rfl) pl_J7 trivial ?_
  refine px_iconst (v := 0) dJ7_fill_53178_0 (by decide) ?_
  refine px_istore2 rfl dJ7_fill_53178_1 ?_
  refine px_aload_n dJ7_fill_53178_2 rfl ?_
  refine px_alen rfl dJ7_fill_53178_3 (by exact h) (by decide) ?_
  refine px_istore3 rfl dJ7_fill_53178_4 ?_
  have hz := l_J7_fill_53178 (B := B) (D := D) (n := n) (w := w) (d := 0) (x := x) hM M 0 g f h (by omega)
  simp only [Nat.zero_le, true_and] at hz
  exact hz

theorem l_J7_fill_d0a16 {d : Nat} {x : Int64} {M : Nat} (hM : M < 1000) : ∀ (k i : Nat) (g : Nat → Int64) (f : Nat → Option va_E), f a = some (.inl (1, M, .inr (.inl g))) → i + k = M → EX B D d mJ7_fill_d0a16 6 [some (.ref a), some (.long x), none, some (.int (nI i)), some (.int (nI M))] [] (n, w, f) none (n, w, va_up f a (some (.inl (1, M, .inr (.inl (fun j => if i ≤ j ∧ j < M then x else g j)))))) := by
  intro k
  induction k with
  | zero =>
    intro i g f h hi
    have hf : f = va_up f a (some (.inl (1, M, .inr (.inl (fun j => if i ≤ j ∧ j < M then x else g j))))) := by
      have hg : (fun j => if i ≤ j ∧ j < M then x else g j) = g := by funext j; rw [if_neg (by omega)]
      rw [hg, ← h]
      funext b
      by_cases hb : b = a
      · subst hb; rw [va_up_self]
      · rw [va_up_ne _ _ hb]
    refine px_iload_n dJ7_fill_d0a16_6 rfl ?_
    refine px_iload dJ7_fill_d0a16_7 rfl ?_
    refine px_icmp_ge (tgt := 22) dJ7_fill_d0a16_9 (by decide) (fun hc9 => ?_) (fun hc9 => ?_)
    · exact px_retv dJ7_fill_d0a16_22 rfl (by exact congrArg (fun z => (n, w, z)) hf.symm)
    · exact absurd (nI_le (by omega) (by omega)) hc9
  | succ k ih =>
    intro i g f h hi
    refine px_iload_n dJ7_fill_d0a16_6 rfl ?_
    refine px_iload dJ7_fill_d0a16_7 rfl ?_
    refine px_icmp_ge (tgt := 22) dJ7_fill_d0a16_9 (by decide) (fun hc9 => ?_) (fun hc9 => ?_)
    · exact absurd hc9 (nI_ge (by omega) (by omega))
    · refine px_aload_n dJ7_fill_d0a16_12 rfl ?_
      refine px_iload_n dJ7_fill_d0a16_13 rfl ?_
      refine px_lload_n dJ7_fill_d0a16_14 rfl ?_
      refine px_lastore dJ7_fill_d0a16_15 (by exact h) (by exact ixn (by omega) (by omega)) ?_
      refine px_iinc3 rfl (nI_inc i) dJ7_fill_d0a16_16 ?_
      refine px_goto (tgt := 6) dJ7_fill_d0a16_19 (by decide) ?_
      have hz := ih (i + 1) _ _ (va_up_self f a (some (.inl (1, M, .inr (.inl (va_up g (nI i).toNatClampNeg x)))))) (by omega)
      rw [bx_uu] at hz
      have he : (fun j => if i + 1 ≤ j ∧ j < M then x else va_up g (nI i).toNatClampNeg x j) = (fun j => if i ≤ j ∧ j < M then x else g j) := by funext j; rw [nI_clamp (by omega)]; by_cases hj : j = i; (subst hj; rw [if_neg (by omega), if_pos (by omega), va_up_self]); (by_cases hj2 : i + 1 ≤ j ∧ j < M; rw [if_pos hj2, if_pos (by omega)]; rw [if_neg hj2, if_neg (by omega), va_up_ne _ _ hj])
      rw [he] at hz
      exact hz
theorem c_J7_fill_d0a16 {M : Nat} (hM : M < 1000) {g : Nat → Int64} (h : f a = some (.inl (1, M, .inr (.inl g)))) (x : Int64) : CT B D 0 mJ7_fill_d0a16 [.ref a, .long x] (n, w, f) none (n, w, va_up f a (some (.inl (1, M, .inr (.inl (fun j => if j < M then x else g j)))))) := by
  refine CT.of [some (.ref a), some (.long x), none, none, none] rfl (Nat.le_of_ble_eq_true rfl) pl_J7 trivial ?_
  refine px_iconst (v := 0) dJ7_fill_d0a16_0 (by decide) ?_
  refine px_istore3 rfl dJ7_fill_d0a16_1 ?_
  refine px_aload_n dJ7_fill_d0a16_2 rfl ?_
  refine px_alen rfl dJ7_fill_d0a16_3 (by exact h) (by decide) ?_
  refine px_istore4 rfl dJ7_fill_d0a16_4 ?_
  have hz := l_J7_fill_d0a16 (B := B) (D := D) (n := n) (w := w) (d := 0) (x := x) hM M 0 g f h (by omega)
  simp only [Nat.zero_le, true_and] at hz
  exact hz

theorem c_X2_hold {hd sz : Int32} {pl : Nat → Int64} (h : IsR f a hd sz pl) {k : Nat} (hk : k ≤ 20) : CT B D 1 mX2_hold [.ref a, .int (nI k)] (n, w, f) none (n, w, va_up (va_up f a (some (.inr (2, [.int 1, .ref (a + 1), .int (nI k)])))) (a + 1) (some (.inl (1, 20, .inr (.inl (fun j => if j < 20 then 0 else pl j)))))) := by
  have hm : (if (20 : Int32) < nI k then (20 : Int32) else nI k) = nI k := if_neg (nI_nlt (a := 20) (b := k) (by omega) (by omega))
  have hm2 : (if (0 : Int32) < nI k then nI k else (0 : Int32)) = nI k := by by_cases h0 : k = 0; (subst h0; rfl); exact if_pos (nI_lt (a := 0) (b := k) (by omega) (by omega))
  refine CT.of [some (.ref a), some (.int (nI k))] rfl (Nat.le_of_ble_eq_true rfl) pl_X2 trivial ?_
  refine px_aload_n dX2_hold_0 rfl ?_
  refine px_iconst (v := 1) dX2_hold_1 (by decide) ?_
  refine px_putfield fp_X2_15 dX2_hold_2 (by first | exact h.1 | exact va_up_self _ _ _ | (rw [va_up_ne _ _ (by omega), va_up_ne _ _ (by omega)]; exact h.2)) rfl rfl (by simp) ?_
  refine px_aload_n dX2_hold_5 rfl ?_
  refine px_iconst (v := 0) dX2_hold_6 (by decide) ?_
  refine px_iload_n dX2_hold_7 rfl ?_
  refine px_bipush (v := 20) dX2_hold_8 (by decide) ?_
  refine px_mmin lk_X2_19 (by omega) (by simp) dX2_hold_10 ?_
  rw [hm]
  refine px_mmax lk_X2_25 (by omega) (by simp) dX2_hold_13 ?_
  rw [hm2]
  refine px_putfield fp_X2_28 dX2_hold_16 (by first | exact h.1 | exact va_up_self _ _ _ | (rw [va_up_ne _ _ (by omega), va_up_ne _ _ (by omega)]; exact h.2)) rfl rfl (by simp) ?_
  refine px_aload_n dX2_hold_19 rfl ?_
  refine px_getfield fl_X2_9 dX2_hold_20 (by first | exact h.1 | exact va_up_self _ _ _ | (rw [va_up_ne _ _ (by omega), va_up_ne _ _ (by omega)]; exact h.2)) (by rfl) ?_
  refine px_lconst (v := 0) dX2_hold_23 (by decide) ?_
  refine px_callS0 (ν := mJ7_fill_d0a16) lk_X2_32 st_J7_fill_d0a16 mok_J7_fill_d0a16 dX2_hold_24 (c_J7_fill_d0a16 (M := 20) (by omega) (by rw [va_up_ne _ _ (by omega), va_up_ne _ _ (by omega)]; exact h.2) 0) rfl rfl (by omega) (by simp) ?_
  exact px_retv dX2_hold_27 rfl (by simp only [bx_uu]; rfl)

theorem hold_R {hd sz : Int32} {pl : Nat → Int64} {x : Value} (g : Nat → Option va_E) (k : Nat) (hg : g = va_up (va_up f a (some (.inr (2, [.int 1, .ref (a + 1), .int (nI k)])))) (a + 1) (some (.inl (1, 20, .inr (.inl (fun j => if j < 20 then 0 else pl j)))))) : IsR g a 1 (nI k) (fun j => if j < 20 then 0 else pl j) := by
  subst hg
  exact ⟨(va_up_ne _ _ (by omega)).trans (va_up_self _ _ _), va_up_self _ _ _⟩
end M13
