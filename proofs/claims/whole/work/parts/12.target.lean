/-! Target -/
theorem ixb {i x : Int32} {m : Nat} (h1 : ¬ i < 0) (h2 : ¬ x ≤ i) (h3 : x.toInt ≤ m) : 0 ≤ i.toInt ∧ i.toInt < (m : Int) := by
  rw [Int32.lt_iff_toInt_lt] at h1
  rw [Int32.le_iff_toInt_le] at h2
  have : (0 : Int32).toInt = 0 := rfl
  omega
theorem ixn {k m : Nat} (h : k < m) (hm : m < 2 ^ 31) : 0 ≤ (nI k).toInt ∧ (nI k).toInt < (m : Int) := by
  rw [nI_toInt (by omega)]; omega
abbrev TD : Type := Int32 × Option Nat × Int32 × (Nat → Int32) × (Nat → Int32) × (Nat → Int32) × (Nat → Option Nat)
def tcell (a : Nat) (c : Int32) (q : Option Nat) (l : Int32) : va_E := .inr (4, [.int c, .ref (a + 1), .ref (a + 2), va_rf q, .int l, .ref (a + 3), .ref (a + 4)])
def IsT (f : Nat → Option va_E) (a : Nat) (c : Int32) (q : Option Nat) (l : Int32) (sg fg tk : Nat → Int32) (tr : Nat → Option Nat) : Prop :=
  f a = some (tcell a c q l) ∧ f (a + 1) = some (.inl (0, 12, .inl sg)) ∧ f (a + 2) = some (.inl (0, 12, .inl fg)) ∧ f (a + 3) = some (.inl (0, 12, .inl tk)) ∧ f (a + 4) = some (.inl (3, 12, .inr (.inr (.inr (.inr tr)))))
def anyN : Nat → (Nat → Bool) → Bool
  | 0, _ => false
  | k + 1, p => p 0 || anyN k (fun j => p (j + 1))
theorem anyN_iff {k : Nat} {p : Nat → Bool} : anyN k p = true ↔ ∃ j, j < k ∧ p j = true := by
  induction k generalizing p with
  | zero => simp [anyN]
  | succ k ih =>
    simp only [anyN, Bool.or_eq_true, ih]
    constructor
    · rintro (h | ⟨j, h1, h2⟩)
      · exact ⟨0, by omega, h⟩
      · exact ⟨j + 1, by omega, h2⟩
    · rintro ⟨j, h1, h2⟩
      cases j with
      | zero => exact Or.inl h2
      | succ j => exact Or.inr ⟨j, by omega, h2⟩
section M12
variable {B : Nat} {D : va_G} {n w : Nat} {f : Nat → Option va_E} {a : Nat} {c l : Int32} {q : Option Nat} {sg fg tk : Nat → Int32} {tr : Nat → Option Nat}
theorem c_X4_signAt (h : IsT f a c q l sg fg tk tr) (hc : c.toInt ≤ 12) (i : Int32) : CT B D 0 mX4_signAt [.ref a, .int i] (n, w, f) (some (.int (if i < 0 ∨ c ≤ i then -1 else sg i.toNatClampNeg))) (n, w, f) := by
  refine CT.of [some (.ref a), some (.int i)] rfl (Nat.le_of_ble_eq_true rfl) pl_X4 trivial ?_
  refine px_iload_n dX4_signAt_0 rfl ?_
  refine px_if_lt (tgt := 21) dX4_signAt_1 (by decide) (fun hc1 => ?_) (fun hc1 => ?_)
  · refine px_iconst (v := (-1)) dX4_signAt_21 (by decide) ?_
    exact px_reti dX4_signAt_22 (by simp [*]) (by rfl)
  · refine px_iload_n dX4_signAt_4 rfl ?_
    refine px_aload_n dX4_signAt_5 rfl ?_
    refine px_getfield fl_X4_31 dX4_signAt_6 (by first | assumption | exact h.1 | exact h.2.1 | exact h.2.2.1 | exact h.2.2.2.1 | exact h.2.2.2.2) (by rfl) ?_
    refine px_icmp_ge (tgt := 21) dX4_signAt_9 (by decide) (fun hc9 => ?_) (fun hc9 => ?_)
    · refine px_iconst (v := (-1)) dX4_signAt_21 (by decide) ?_
      exact px_reti dX4_signAt_22 (by simp [*]) (by rfl)
    · refine px_aload_n dX4_signAt_12 rfl ?_
      refine px_getfield fl_X4_9 dX4_signAt_13 (by first | assumption | exact h.1 | exact h.2.1 | exact h.2.2.1 | exact h.2.2.2.1 | exact h.2.2.2.2) (by rfl) ?_
      refine px_iload_n dX4_signAt_16 rfl ?_
      refine px_iaload dX4_signAt_17 (by first | assumption | exact h.1 | exact h.2.1 | exact h.2.2.1 | exact h.2.2.2.1 | exact h.2.2.2.2) (by exact ixb (by assumption) (by assumption) hc) ?_
      refine px_goto (tgt := 22) dX4_signAt_18 (by decide) ?_
      exact px_reti dX4_signAt_22 (by simp [*]) (by rfl)

theorem c_X4_figuresAt (h : IsT f a c q l sg fg tk tr) (hc : c.toInt ≤ 12) (i : Int32) : CT B D 0 mX4_figuresAt [.ref a, .int i] (n, w, f) (some (.int (if i < 0 ∨ c ≤ i then -1 else fg i.toNatClampNeg))) (n, w, f) := by
  refine CT.of [some (.ref a), some (.int i)] rfl (Nat.le_of_ble_eq_true rfl) pl_X4 trivial ?_
  refine px_iload_n dX4_figuresAt_0 rfl ?_
  refine px_if_lt (tgt := 21) dX4_figuresAt_1 (by decide) (fun hc1 => ?_) (fun hc1 => ?_)
  · refine px_iconst (v := (-1)) dX4_figuresAt_21 (by decide) ?_
    exact px_reti dX4_figuresAt_22 (by simp [*]) (by rfl)
  · refine px_iload_n dX4_figuresAt_4 rfl ?_
    refine px_aload_n dX4_figuresAt_5 rfl ?_
    refine px_getfield fl_X4_31 dX4_figuresAt_6 (by first | assumption | exact h.1 | exact h.2.1 | exact h.2.2.1 | exact h.2.2.2.1 | exact h.2.2.2.2) (by rfl) ?_
    refine px_icmp_ge (tgt := 21) dX4_figuresAt_9 (by decide) (fun hc9 => ?_) (fun hc9 => ?_)
    · refine px_iconst (v := (-1)) dX4_figuresAt_21 (by decide) ?_
      exact px_reti dX4_figuresAt_22 (by simp [*]) (by rfl)
    · refine px_aload_n dX4_figuresAt_12 rfl ?_
      refine px_getfield fl_X4_15 dX4_figuresAt_13 (by first | assumption | exact h.1 | exact h.2.1 | exact h.2.2.1 | exact h.2.2.2.1 | exact h.2.2.2.2) (by rfl) ?_
      refine px_iload_n dX4_figuresAt_16 rfl ?_
      refine px_iaload dX4_figuresAt_17 (by first | assumption | exact h.1 | exact h.2.1 | exact h.2.2.1 | exact h.2.2.2.1 | exact h.2.2.2.2) (by exact ixb (by assumption) (by assumption) hc) ?_
      refine px_goto (tgt := 22) dX4_figuresAt_18 (by decide) ?_
      exact px_reti dX4_figuresAt_22 (by simp [*]) (by rfl)

theorem c_X4_hasTrace (h : IsT f a c q l sg fg tk tr) : CT B D 0 mX4_hasTrace [.ref a] (n, w, f) (some (.int (bi (!decide (l = -1))))) (n, w, f) := by
  refine CT.of [some (.ref a)] rfl (Nat.le_of_ble_eq_true rfl) pl_X4 (bi_01 _) ?_
  refine px_aload_n dX4_hasTrace_0 rfl ?_
  refine px_getfield fl_X4_18 dX4_hasTrace_1 (by first | assumption | exact h.1 | exact h.2.1 | exact h.2.2.1 | exact h.2.2.2.1 | exact h.2.2.2.2) (by rfl) ?_
  refine px_iconst (v := (-1)) dX4_hasTrace_4 (by decide) ?_
  refine px_icmp_eq (tgt := 12) dX4_hasTrace_5 (by decide) (fun hc5 => ?_) (fun hc5 => ?_)
  · refine px_iconst (v := 0) dX4_hasTrace_12 (by decide) ?_
    exact px_reti dX4_hasTrace_13 (by simp [bi, *]) (by rfl)
  · refine px_iconst (v := 1) dX4_hasTrace_8 (by decide) ?_
    refine px_goto (tgt := 13) dX4_hasTrace_9 (by decide) ?_
    exact px_reti dX4_hasTrace_13 (by simp [bi, *]) (by rfl)

theorem c_X4_dropTrace (h : IsT f a c q l sg fg tk tr) : CT B D 0 mX4_dropTrace [.ref a] (n, w, f) none (n, w, va_up f a (some (tcell a c q (-1)))) := by
  refine CT.of [some (.ref a)] rfl (Nat.le_of_ble_eq_true rfl) pl_X4 trivial ?_
  refine px_aload_n dX4_dropTrace_0 rfl ?_
  refine px_iconst (v := (-1)) dX4_dropTrace_1 (by decide) ?_
  refine px_putfield fp_X4_18 dX4_dropTrace_2 (by first | assumption | exact h.1 | exact h.2.1 | exact h.2.2.1 | exact h.2.2.2.1 | exact h.2.2.2.2) rfl rfl (by simp) ?_
  exact px_retv dX4_dropTrace_5 rfl (by rfl)

theorem c_X4_startTrace (h : IsT f a c q l sg fg tk tr) : CT B D 0 mX4_startTrace [.ref a] (n, w, f) none (n, w, va_up f a (some (tcell a c q 0))) := by
  refine CT.of [some (.ref a)] rfl (Nat.le_of_ble_eq_true rfl) pl_X4 trivial ?_
  refine px_aload_n dX4_startTrace_0 rfl ?_
  refine px_iconst (v := 0) dX4_startTrace_1 (by decide) ?_
  refine px_putfield fp_X4_18 dX4_startTrace_2 (by first | assumption | exact h.1 | exact h.2.1 | exact h.2.2.1 | exact h.2.2.2.1 | exact h.2.2.2.2) rfl rfl (by simp) ?_
  exact px_retv dX4_startTrace_5 rfl (by rfl)

theorem c_X4_dropRule (h : IsT f a c q l sg fg tk tr) : CT B D 1 mX4_dropRule [.ref a] (n, w, f) none (n, w, va_up f a (some (tcell a 0 q (-1)))) := by
  refine CT.of [some (.ref a)] rfl (Nat.le_of_ble_eq_true rfl) pl_X4 trivial ?_
  refine px_aload_n dX4_dropRule_0 rfl ?_
  refine px_iconst (v := 0) dX4_dropRule_1 (by decide) ?_
  refine px_putfield fp_X4_31 dX4_dropRule_2 (by first | exact h.1 | exact va_up_self _ _ _) rfl rfl (by simp) ?_
  refine px_aload_n dX4_dropRule_5 rfl ?_
  refine px_callV0 (ν := mX4_dropTrace) (ci := 4) rfl rfl lk_X4_52 in_X4_dropTrace se_X4_dropTrace mok_X4_dropTrace dX4_dropRule_6 (c_X4_dropTrace (c := 0) (q := q) (l := l) (sg := sg) (fg := fg) (tk := tk) (tr := tr) ⟨va_up_self _ _ _, by rw [va_up_ne _ _ (by omega)]; exact h.2.1, by rw [va_up_ne _ _ (by omega)]; exact h.2.2.1, by rw [va_up_ne _ _ (by omega)]; exact h.2.2.2.1, by rw [va_up_ne _ _ (by omega)]; exact h.2.2.2.2⟩) (by first | exact h.1 | exact va_up_self _ _ _) rfl rfl (by omega) (by simp) ?_
  exact px_retv dX4_dropRule_9 rfl (by simp only [bx_uu])

theorem c_X4_tracedKey (h : IsT f a c q l sg fg tk tr) (hl : l.toInt ≤ 12) (i : Int32) : CT B D 0 mX4_tracedKey [.ref a, .int i] (n, w, f) (some (.int (if i < 0 ∨ l ≤ i then -1 else tk i.toNatClampNeg))) (n, w, f) := by
  refine CT.of [some (.ref a), some (.int i)] rfl (Nat.le_of_ble_eq_true rfl) pl_X4 trivial ?_
  refine px_iload_n dX4_tracedKey_0 rfl ?_
  refine px_if_lt (tgt := 21) dX4_tracedKey_1 (by decide) (fun hc1 => ?_) (fun hc1 => ?_)
  · refine px_iconst (v := (-1)) dX4_tracedKey_21 (by decide) ?_
    exact px_reti dX4_tracedKey_22 (by simp [*]) (by rfl)
  · refine px_iload_n dX4_tracedKey_4 rfl ?_
    refine px_aload_n dX4_tracedKey_5 rfl ?_
    refine px_getfield fl_X4_18 dX4_tracedKey_6 (by first | assumption | exact h.1 | exact h.2.1 | exact h.2.2.1 | exact h.2.2.2.1 | exact h.2.2.2.2) (by rfl) ?_
    refine px_icmp_ge (tgt := 21) dX4_tracedKey_9 (by decide) (fun hc9 => ?_) (fun hc9 => ?_)
    · refine px_iconst (v := (-1)) dX4_tracedKey_21 (by decide) ?_
      exact px_reti dX4_tracedKey_22 (by simp [*]) (by rfl)
    · refine px_aload_n dX4_tracedKey_12 rfl ?_
      refine px_getfield fl_X4_22 dX4_tracedKey_13 (by first | assumption | exact h.1 | exact h.2.1 | exact h.2.2.1 | exact h.2.2.2.1 | exact h.2.2.2.2) (by rfl) ?_
      refine px_iload_n dX4_tracedKey_16 rfl ?_
      refine px_iaload dX4_tracedKey_17 (by first | assumption | exact h.1 | exact h.2.1 | exact h.2.2.1 | exact h.2.2.2.1 | exact h.2.2.2.2) (by exact ixb (by assumption) (by assumption) hl) ?_
      refine px_goto (tgt := 22) dX4_tracedKey_18 (by decide) ?_
      exact px_reti dX4_tracedKey_22 (by simp [*]) (by rfl)

theorem c_X4_tracedResult (h : IsT f a c q l sg fg tk tr) (hl : l.toInt ≤ 12) (i : Int32) : CT B D 0 mX4_tracedResult [.ref a, .int i] (n, w, f) (some (va_rf (if i < 0 ∨ l ≤ i then none else tr i.toNatClampNeg))) (n, w, f) := by
  refine CT.of [some (.ref a), some (.int i)] rfl (Nat.le_of_ble_eq_true rfl) pl_X4 (rok_rf _ _) ?_
  refine px_iload_n dX4_tracedResult_0 rfl ?_
  refine px_if_lt (tgt := 21) dX4_tracedResult_1 (by decide) (fun hc1 => ?_) (fun hc1 => ?_)
  · refine px_null dX4_tracedResult_21 ?_
    exact px_reta dX4_tracedResult_22 (by simp [*, rf_none]) (by rfl)
  · refine px_iload_n dX4_tracedResult_4 rfl ?_
    refine px_aload_n dX4_tracedResult_5 rfl ?_
    refine px_getfield fl_X4_18 dX4_tracedResult_6 (by first | assumption | exact h.1 | exact h.2.1 | exact h.2.2.1 | exact h.2.2.2.1 | exact h.2.2.2.2) (by rfl) ?_
    refine px_icmp_ge (tgt := 21) dX4_tracedResult_9 (by decide) (fun hc9 => ?_) (fun hc9 => ?_)
    · refine px_null dX4_tracedResult_21 ?_
      exact px_reta dX4_tracedResult_22 (by simp [*, rf_none]) (by rfl)
    · refine px_aload_n dX4_tracedResult_12 rfl ?_
      refine px_getfield fl_X4_27 dX4_tracedResult_13 (by first | assumption | exact h.1 | exact h.2.1 | exact h.2.2.1 | exact h.2.2.2.1 | exact h.2.2.2.2) (by rfl) ?_
      refine px_iload_n dX4_tracedResult_16 rfl ?_
      refine px_aaload rfl dX4_tracedResult_17 (by first | assumption | exact h.1 | exact h.2.1 | exact h.2.2.1 | exact h.2.2.2.1 | exact h.2.2.2.2) (by decide) (by exact ixb (by assumption) (by assumption) hl) ?_
      refine px_goto (tgt := 22) dX4_tracedResult_18 (by decide) ?_
      exact px_reta dX4_tracedResult_22 (by simp [*, rf_none]) (by rfl)

theorem l_X4_traces_2 {d : Nat} (hd1 : 1 ≤ d) (h : IsT f a c q l sg fg tk tr) {key : Int32} {L : Nat} (hL : L ≤ 12) (hlL : l = nI L) : ∀ (k i : Nat), i + k = L → EX B D d mX4_traces 2 [some (.ref a), some (.int key), some (.int (nI i))] [] (n, w, f) (some (.int (bi (anyN k (fun j => decide (tk (i + j) = key)))))) (n, w, f) := by
  subst hlL
  have hl : (nI L).toInt ≤ 12 := by rw [nI_toInt (by omega)]; omega
  intro k
  induction k with
  | zero =>
    intro i hi
    refine px_iload_n dX4_traces_2 rfl ?_
    refine px_aload_n dX4_traces_3 rfl ?_
    refine px_getfield fl_X4_18 dX4_traces_4 (by first | assumption | exact h.1 | exact h.2.1 | exact h.2.2.1 | exact h.2.2.2.1 | exact h.2.2.2.2) (by rfl) ?_
    refine px_icmp_ge (tgt := 27) dX4_traces_7 (by decide) (fun hc7 => ?_) (fun hc7 => ?_)
    · refine px_iconst (v := 0) dX4_traces_27 (by decide) ?_
      exact px_reti dX4_traces_28 (by simp [bi, anyN]) (by rfl)
    · exact absurd (nI_le (by omega) (by omega)) hc7
  | succ k ih =>
    intro i hi
    refine px_iload_n dX4_traces_2 rfl ?_
    refine px_aload_n dX4_traces_3 rfl ?_
    refine px_getfield fl_X4_18 dX4_traces_4 (by first | exact h.1) (by rfl) ?_
    refine px_icmp_ge (tgt := 27) dX4_traces_7 (by decide) (fun hc7 => ?_) (fun hc7 => ?_)
    · exact absurd hc7 (nI_ge (by omega) (by omega))
    · refine px_aload_n dX4_traces_10 rfl ?_
      refine px_iload_n dX4_traces_11 rfl ?_
      refine px_callV1 (ν := mX4_tracedKey) (ci := 4) rfl rfl lk_X4_69 in_X4_tracedKey se_X4_tracedKey mok_X4_tracedKey dX4_traces_12 (c_X4_tracedKey h hl (nI i)) (by first | exact h.1) rfl rfl (by omega) (by simp) ?_
      have hq0 : ¬ (nI i < 0 ∨ nI L ≤ nI i) := by rintro (z | z); exact nI_pos (by omega) z; exact nI_ge (by omega) (by omega) z
      rw [if_neg hq0, nI_clamp (by omega)]
      refine px_iload_n dX4_traces_15 rfl ?_
      refine px_icmp_ne (tgt := 21) dX4_traces_16 (by decide) (fun hc16 => ?_) (fun hc16 => ?_)
      · refine px_iinc2 rfl (nI_inc i) dX4_traces_21 ?_
        refine px_goto (tgt := 2) dX4_traces_24 (by decide) ?_
        have hz := ih (i + 1) (by omega)
        have he : (fun j => decide (tk (i + 1 + j) = key)) = (fun j => decide (tk (i + (j + 1)) = key)) := by funext j; rw [show i + 1 + j = i + (j + 1) by omega]
        rw [he] at hz
        simp only [anyN, Nat.add_zero]
        rw [show decide (tk i = key) = false by simp [hc16], Bool.false_or]
        exact hz
      · have hq : tk i = key := hc16
        refine px_iconst (v := 1) dX4_traces_19 (by decide) ?_
        exact px_reti dX4_traces_20 (by simp [bi, anyN, hq]) (by rfl)
theorem c_X4_traces (h : IsT f a c q l sg fg tk tr) {L : Nat} (hL : L ≤ 12) (hlL : l = nI L) (key : Int32) : CT B D 1 mX4_traces [.ref a, .int key] (n, w, f) (some (.int (bi (anyN L (fun j => decide (tk j = key)))))) (n, w, f) := by
  refine CT.of [some (.ref a), some (.int key), none] rfl (Nat.le_of_ble_eq_true rfl) pl_X4 (bi_01 _) ?_
  refine px_iconst (v := 0) dX4_traces_0 (by decide) ?_
  refine px_istore2 rfl dX4_traces_1 ?_
  have hz := l_X4_traces_2 (B := B) (D := D) (n := n) (w := w) (d := 1) (by omega) h (key := key) hL hlL L 0 (by omega)
  simp only [Nat.zero_add] at hz
  exact hz

theorem c_X4_traces_none (h : IsT f a c q l sg fg tk tr) (hl : l = -1) (key : Int32) : CT B D 1 mX4_traces [.ref a, .int key] (n, w, f) (some (.int (bi false))) (n, w, f) := by
  subst hl
  refine CT.of [some (.ref a), some (.int key), none] rfl (Nat.le_of_ble_eq_true rfl) pl_X4 (bi_01 _) ?_
  refine px_iconst (v := 0) dX4_traces_0 (by decide) ?_
  refine px_istore2 rfl dX4_traces_1 ?_
  refine px_iload_n dX4_traces_2 rfl ?_
  refine px_aload_n dX4_traces_3 rfl ?_
  refine px_getfield fl_X4_18 dX4_traces_4 (by first | assumption | exact h.1 | exact h.2.1 | exact h.2.2.1 | exact h.2.2.2.1 | exact h.2.2.2.2) (by rfl) ?_
  refine px_icmp_ge (tgt := 27) dX4_traces_7 (by decide) (fun hc7 => ?_) (fun hc7 => ?_)
  · refine px_iconst (v := 0) dX4_traces_27 (by decide) ?_
    exact px_reti dX4_traces_28 (by rfl) (by rfl)
  · exact absurd (by decide) hc7
/-- where the list has it already, or not -/
theorem c_X4_noteInTrace_in (h : IsT f a c q l sg fg tk tr) {L : Nat} (hL : L ≤ 12) (hlL : l = nI L) (key : Int32) (p : Nat) (hin : anyN L (fun j => decide (tk j = key)) = true) : CT B D 2 mX4_noteInTrace [.ref a, .int key, .ref p] (n, w, f) none (n, w, f) := by
  refine CT.of [some (.ref a), some (.int key), some (.ref p)] rfl (Nat.le_of_ble_eq_true rfl) pl_X4 trivial ?_
  refine px_aload_n dX4_noteInTrace_0 rfl ?_
  refine px_iload_n dX4_noteInTrace_1 rfl ?_
  refine px_callV1 (ν := mX4_traces) (ci := 4) rfl rfl lk_X4_65 in_X4_traces se_X4_traces mok_X4_traces dX4_noteInTrace_2 (c_X4_traces h hL hlL key) (by first | assumption | exact h.1 | exact h.2.1 | exact h.2.2.1 | exact h.2.2.2.1 | exact h.2.2.2.2) rfl rfl (by omega) (by simp) ?_
  refine px_ifb_ne (tgt := 24) dX4_noteInTrace_5 (by decide) (fun hc5 => ?_) (fun hc5 => ?_)
  · exact px_retv dX4_noteInTrace_24 rfl (by rfl)
  · rw [hin] at hc5; cases hc5
theorem c_X4_noteInTrace_new (h : IsT f a c q l sg fg tk tr) {L : Nat} (hL : L < 12) (hlL : l = nI L) (key : Int32) (p : Nat) {fs : List Value} (hp : f p = some (.inr (1, fs))) (hin : anyN L (fun j => decide (tk j = key)) = false) : CT B D 2 mX4_noteInTrace [.ref a, .int key, .ref p] (n, w, f) none (n, w, va_up (va_up (va_up f (a + 3) (some (.inl (0, 12, .inl (va_up tk L key))))) (a + 4) (some (.inl (3, 12, .inr (.inr (.inr (.inr (va_up tr L (some p))))))))) a (some (tcell a c q (nI (L + 1))))) := by
  have hpa : p ≠ a + 3 ∧ p ≠ a + 4 := ⟨(fun e => by (rw [e, h.2.2.2.1] at hp; cases hp)), (fun e => by (rw [e, h.2.2.2.2] at hp; cases hp))⟩
  subst hlL
  refine CT.of [some (.ref a), some (.int key), some (.ref p)] rfl (Nat.le_of_ble_eq_true rfl) pl_X4 trivial ?_
  refine px_aload_n dX4_noteInTrace_0 rfl ?_
  refine px_iload_n dX4_noteInTrace_1 rfl ?_
  refine px_callV1 (ν := mX4_traces) (ci := 4) rfl rfl lk_X4_65 in_X4_traces se_X4_traces mok_X4_traces dX4_noteInTrace_2 (c_X4_traces h (by omega) rfl key) (by first | exact h.1 | exact h.2.2.2.1 | (rw [va_up_ne _ _ (by omega)]; first | exact h.1 | exact h.2.2.2.2 | (rw [va_up_ne _ _ (by omega)]; exact h.1)) | (rw [va_up_ne _ _ hpa.1]; exact hp)) rfl rfl (by omega) (by simp) ?_
  refine px_ifb_ne (tgt := 24) dX4_noteInTrace_5 (by decide) (fun hc5 => ?_) (fun hc5 => ?_)
  · rw [hin] at hc5; cases hc5
  · refine px_aload_n dX4_noteInTrace_8 rfl ?_
    refine px_getfield fl_X4_18 dX4_noteInTrace_9 (by first | exact h.1 | exact h.2.2.2.1 | (rw [va_up_ne _ _ (by omega)]; first | exact h.1 | exact h.2.2.2.2 | (rw [va_up_ne _ _ (by omega)]; exact h.1)) | (rw [va_up_ne _ _ hpa.1]; exact hp)) (by rfl) ?_
    refine px_if_lt (tgt := 24) dX4_noteInTrace_12 (by decide) (fun hc12 => ?_) (fun hc12 => ?_)
    · exact absurd hc12 (nI_pos (by omega))
    · refine px_aload_n dX4_noteInTrace_15 rfl ?_
      refine px_getfield fl_X4_18 dX4_noteInTrace_16 (by first | exact h.1 | exact h.2.2.2.1 | (rw [va_up_ne _ _ (by omega)]; first | exact h.1 | exact h.2.2.2.2 | (rw [va_up_ne _ _ (by omega)]; exact h.1)) | (rw [va_up_ne _ _ hpa.1]; exact hp)) (by rfl) ?_
      refine px_bipush (v := 12) dX4_noteInTrace_19 (by decide) ?_
      refine px_icmp_lt (tgt := 25) dX4_noteInTrace_21 (by decide) (fun hc21 => ?_) (fun hc21 => ?_)
      · refine px_aload_n dX4_noteInTrace_25 rfl ?_
        refine px_getfield fl_X4_22 dX4_noteInTrace_26 (by first | exact h.1 | exact h.2.2.2.1 | (rw [va_up_ne _ _ (by omega)]; first | exact h.1 | exact h.2.2.2.2 | (rw [va_up_ne _ _ (by omega)]; exact h.1)) | (rw [va_up_ne _ _ hpa.1]; exact hp)) (by rfl) ?_
        refine px_aload_n dX4_noteInTrace_29 rfl ?_
        refine px_getfield fl_X4_18 dX4_noteInTrace_30 (by first | exact h.1 | exact h.2.2.2.1 | (rw [va_up_ne _ _ (by omega)]; first | exact h.1 | exact h.2.2.2.2 | (rw [va_up_ne _ _ (by omega)]; exact h.1)) | (rw [va_up_ne _ _ hpa.1]; exact hp)) (by rfl) ?_
        refine px_iload_n dX4_noteInTrace_33 rfl ?_
        refine px_iastore dX4_noteInTrace_34 (by first | exact h.1 | exact h.2.2.2.1 | (rw [va_up_ne _ _ (by omega)]; first | exact h.1 | exact h.2.2.2.2 | (rw [va_up_ne _ _ (by omega)]; exact h.1)) | (rw [va_up_ne _ _ hpa.1]; exact hp)) (by exact ixn (by omega) (by omega)) ?_
        refine px_aload_n dX4_noteInTrace_35 rfl ?_
        refine px_getfield fl_X4_27 dX4_noteInTrace_36 (by first | exact h.1 | exact h.2.2.2.1 | (rw [va_up_ne _ _ (by omega)]; first | exact h.1 | exact h.2.2.2.2 | (rw [va_up_ne _ _ (by omega)]; exact h.1)) | (rw [va_up_ne _ _ hpa.1]; exact hp)) (by rfl) ?_
        refine px_aload_n dX4_noteInTrace_39 rfl ?_
        refine px_getfield fl_X4_18 dX4_noteInTrace_40 (by first | exact h.1 | exact h.2.2.2.1 | (rw [va_up_ne _ _ (by omega)]; first | exact h.1 | exact h.2.2.2.2 | (rw [va_up_ne _ _ (by omega)]; exact h.1)) | (rw [va_up_ne _ _ hpa.1]; exact hp)) (by rfl) ?_
        refine px_aload_n dX4_noteInTrace_43 rfl ?_
        refine px_aastore (ci := 1) rfl rfl dX4_noteInTrace_44 (by first | exact h.1 | exact h.2.2.2.1 | (rw [va_up_ne _ _ (by omega)]; first | exact h.1 | exact h.2.2.2.2 | (rw [va_up_ne _ _ (by omega)]; exact h.1)) | (rw [va_up_ne _ _ hpa.1]; exact hp)) (by decide) (by exact ixn (by omega) (by omega)) (by first | exact h.1 | exact h.2.2.2.1 | (rw [va_up_ne _ _ (by omega)]; first | exact h.1 | exact h.2.2.2.2 | (rw [va_up_ne _ _ (by omega)]; exact h.1)) | (rw [va_up_ne _ _ hpa.1]; exact hp)) ?_
        refine px_aload_n dX4_noteInTrace_45 rfl ?_
        refine px_dup dX4_noteInTrace_46 rfl ?_
        refine px_getfield fl_X4_18 dX4_noteInTrace_47 (by first | exact h.1 | exact h.2.2.2.1 | (rw [va_up_ne _ _ (by omega)]; first | exact h.1 | exact h.2.2.2.2 | (rw [va_up_ne _ _ (by omega)]; exact h.1)) | (rw [va_up_ne _ _ hpa.1]; exact hp)) (by rfl) ?_
        refine px_iconst (v := 1) dX4_noteInTrace_50 (by decide) ?_
        refine px_iadd dX4_noteInTrace_51 ?_
        refine px_putfield fp_X4_18 dX4_noteInTrace_52 (by first | exact h.1 | exact h.2.2.2.1 | (rw [va_up_ne _ _ (by omega)]; first | exact h.1 | exact h.2.2.2.2 | (rw [va_up_ne _ _ (by omega)]; exact h.1)) | (rw [va_up_ne _ _ hpa.1]; exact hp)) rfl rfl (by simp) ?_
        exact px_retv dX4_noteInTrace_55 rfl (by rw [nI_clamp (by omega), nI_succ]; rfl)
      · exact absurd (show nI L < 12 from nI_lt (a := L) (b := 12) (by omega) (by decide)) hc21
def cp12 {α : Type} (g1 g2 : Nat → α) : Nat → α := va_cpy g1 g2 0 0 12
theorem c_X4_copyRule {b : Nat} {c2 l2 : Int32} {q2 : Option Nat} {sg2 fg2 tk2 : Nat → Int32} {tr2 : Nat → Option Nat} (h : IsT f a c q l sg fg tk tr) (h2 : IsT f b c2 q2 l2 sg2 fg2 tk2 tr2) (hab : a + 5 ≤ b ∨ b + 5 ≤ a) : CT B D 1 mX4_copyRule [.ref a, .ref b] (n, w, f) none (n, w, va_up (va_up (va_up f a (some (tcell a c2 q l))) (a + 1) (some (.inl (0, 12, .inl (cp12 sg2 sg))))) (a + 2) (some (.inl (0, 12, .inl (cp12 fg2 fg))))) := by
  refine CT.of [some (.ref a), some (.ref b)] rfl (Nat.le_of_ble_eq_true rfl) pl_X4 trivial ?_
  refine px_aload_n dX4_copyRule_0 rfl ?_
  refine px_aload_n dX4_copyRule_1 rfl ?_
  refine px_getfield fl_X4_31 dX4_copyRule_2 (by first | exact h.1 | exact h.2.1 | exact h.2.2.1 | exact h.2.2.2.1 | exact h.2.2.2.2 | exact h2.1 | exact h2.2.1 | exact h2.2.2.1 | exact h2.2.2.2.1 | exact h2.2.2.2.2 | exact va_up_self _ _ _ | (rw [va_up_ne _ _ (by omega)]; first | exact h.1 | exact h.2.1 | exact h.2.2.1 | exact h.2.2.2.1 | exact h.2.2.2.2 | exact h2.1 | exact h2.2.1 | exact h2.2.2.1 | exact h2.2.2.2.1 | exact h2.2.2.2.2 | exact va_up_self _ _ _) | (rw [va_up_ne _ _ (by omega)]; rw [va_up_ne _ _ (by omega)]; first | exact h.1 | exact h.2.1 | exact h.2.2.1 | exact h.2.2.2.1 | exact h.2.2.2.2 | exact h2.1 | exact h2.2.1 | exact h2.2.2.1 | exact h2.2.2.2.1 | exact h2.2.2.2.2 | exact va_up_self _ _ _)) (by rfl) ?_
  refine px_putfield fp_X4_31 dX4_copyRule_5 (by first | exact h.1 | exact h.2.1 | exact h.2.2.1 | exact h.2.2.2.1 | exact h.2.2.2.2 | exact h2.1 | exact h2.2.1 | exact h2.2.2.1 | exact h2.2.2.2.1 | exact h2.2.2.2.2 | exact va_up_self _ _ _ | (rw [va_up_ne _ _ (by omega)]; first | exact h.1 | exact h.2.1 | exact h.2.2.1 | exact h.2.2.2.1 | exact h.2.2.2.2 | exact h2.1 | exact h2.2.1 | exact h2.2.2.1 | exact h2.2.2.2.1 | exact h2.2.2.2.2 | exact va_up_self _ _ _) | (rw [va_up_ne _ _ (by omega)]; rw [va_up_ne _ _ (by omega)]; first | exact h.1 | exact h.2.1 | exact h.2.2.1 | exact h.2.2.2.1 | exact h.2.2.2.2 | exact h2.1 | exact h2.2.1 | exact h2.2.2.1 | exact h2.2.2.2.1 | exact h2.2.2.2.2 | exact va_up_self _ _ _)) rfl rfl (by simp) ?_
  refine px_aload_n dX4_copyRule_8 rfl ?_
  refine px_getfield fl_X4_9 dX4_copyRule_9 (by first | exact h.1 | exact h.2.1 | exact h.2.2.1 | exact h.2.2.2.1 | exact h.2.2.2.2 | exact h2.1 | exact h2.2.1 | exact h2.2.2.1 | exact h2.2.2.2.1 | exact h2.2.2.2.2 | exact va_up_self _ _ _ | (rw [va_up_ne _ _ (by omega)]; first | exact h.1 | exact h.2.1 | exact h.2.2.1 | exact h.2.2.2.1 | exact h.2.2.2.2 | exact h2.1 | exact h2.2.1 | exact h2.2.2.1 | exact h2.2.2.2.1 | exact h2.2.2.2.2 | exact va_up_self _ _ _) | (rw [va_up_ne _ _ (by omega)]; rw [va_up_ne _ _ (by omega)]; first | exact h.1 | exact h.2.1 | exact h.2.2.1 | exact h.2.2.2.1 | exact h.2.2.2.2 | exact h2.1 | exact h2.2.1 | exact h2.2.2.1 | exact h2.2.2.2.1 | exact h2.2.2.2.2 | exact va_up_self _ _ _)) (by rfl) ?_
  refine px_iconst (v := 0) dX4_copyRule_12 (by decide) ?_
  refine px_aload_n dX4_copyRule_13 rfl ?_
  refine px_getfield fl_X4_9 dX4_copyRule_14 (by first | exact h.1 | exact h.2.1 | exact h.2.2.1 | exact h.2.2.2.1 | exact h.2.2.2.2 | exact h2.1 | exact h2.2.1 | exact h2.2.2.1 | exact h2.2.2.2.1 | exact h2.2.2.2.2 | exact va_up_self _ _ _ | (rw [va_up_ne _ _ (by omega)]; first | exact h.1 | exact h.2.1 | exact h.2.2.1 | exact h.2.2.2.1 | exact h.2.2.2.2 | exact h2.1 | exact h2.2.1 | exact h2.2.2.1 | exact h2.2.2.2.1 | exact h2.2.2.2.2 | exact va_up_self _ _ _) | (rw [va_up_ne _ _ (by omega)]; rw [va_up_ne _ _ (by omega)]; first | exact h.1 | exact h.2.1 | exact h.2.2.1 | exact h.2.2.2.1 | exact h.2.2.2.2 | exact h2.1 | exact h2.2.1 | exact h2.2.2.1 | exact h2.2.2.2.1 | exact h2.2.2.2.2 | exact va_up_self _ _ _)) (by rfl) ?_
  refine px_iconst (v := 0) dX4_copyRule_17 (by decide) ?_
  refine px_bipush (v := 12) dX4_copyRule_18 (by decide) ?_
  refine px_copyi lk_X4_59 dX4_copyRule_20 (by first | exact h.1 | exact h.2.1 | exact h.2.2.1 | exact h.2.2.2.1 | exact h.2.2.2.2 | exact h2.1 | exact h2.2.1 | exact h2.2.2.1 | exact h2.2.2.2.1 | exact h2.2.2.2.2 | exact va_up_self _ _ _ | (rw [va_up_ne _ _ (by omega)]; first | exact h.1 | exact h.2.1 | exact h.2.2.1 | exact h.2.2.2.1 | exact h.2.2.2.2 | exact h2.1 | exact h2.2.1 | exact h2.2.2.1 | exact h2.2.2.2.1 | exact h2.2.2.2.2 | exact va_up_self _ _ _) | (rw [va_up_ne _ _ (by omega)]; rw [va_up_ne _ _ (by omega)]; first | exact h.1 | exact h.2.1 | exact h.2.2.1 | exact h.2.2.2.1 | exact h.2.2.2.2 | exact h2.1 | exact h2.2.1 | exact h2.2.2.1 | exact h2.2.2.2.1 | exact h2.2.2.2.2 | exact va_up_self _ _ _)) (by first | exact h.1 | exact h.2.1 | exact h.2.2.1 | exact h.2.2.2.1 | exact h.2.2.2.2 | exact h2.1 | exact h2.2.1 | exact h2.2.2.1 | exact h2.2.2.2.1 | exact h2.2.2.2.2 | exact va_up_self _ _ _ | (rw [va_up_ne _ _ (by omega)]; first | exact h.1 | exact h.2.1 | exact h.2.2.1 | exact h.2.2.2.1 | exact h.2.2.2.2 | exact h2.1 | exact h2.2.1 | exact h2.2.2.1 | exact h2.2.2.2.1 | exact h2.2.2.2.2 | exact va_up_self _ _ _) | (rw [va_up_ne _ _ (by omega)]; rw [va_up_ne _ _ (by omega)]; first | exact h.1 | exact h.2.1 | exact h.2.2.1 | exact h.2.2.2.1 | exact h.2.2.2.2 | exact h2.1 | exact h2.2.1 | exact h2.2.2.1 | exact h2.2.2.2.1 | exact h2.2.2.2.2 | exact va_up_self _ _ _)) (by decide) (by decide) (by decide) (by decide) (by decide) (by omega) (by simp) ?_
  refine px_aload_n dX4_copyRule_23 rfl ?_
  refine px_getfield fl_X4_15 dX4_copyRule_24 (by first | exact h.1 | exact h.2.1 | exact h.2.2.1 | exact h.2.2.2.1 | exact h.2.2.2.2 | exact h2.1 | exact h2.2.1 | exact h2.2.2.1 | exact h2.2.2.2.1 | exact h2.2.2.2.2 | exact va_up_self _ _ _ | (rw [va_up_ne _ _ (by omega)]; first | exact h.1 | exact h.2.1 | exact h.2.2.1 | exact h.2.2.2.1 | exact h.2.2.2.2 | exact h2.1 | exact h2.2.1 | exact h2.2.2.1 | exact h2.2.2.2.1 | exact h2.2.2.2.2 | exact va_up_self _ _ _) | (rw [va_up_ne _ _ (by omega)]; rw [va_up_ne _ _ (by omega)]; first | exact h.1 | exact h.2.1 | exact h.2.2.1 | exact h.2.2.2.1 | exact h.2.2.2.2 | exact h2.1 | exact h2.2.1 | exact h2.2.2.1 | exact h2.2.2.2.1 | exact h2.2.2.2.2 | exact va_up_self _ _ _)) (by rfl) ?_
  refine px_iconst (v := 0) dX4_copyRule_27 (by decide) ?_
  refine px_aload_n dX4_copyRule_28 rfl ?_
  refine px_getfield fl_X4_15 dX4_copyRule_29 (by first | exact h.1 | exact h.2.1 | exact h.2.2.1 | exact h.2.2.2.1 | exact h.2.2.2.2 | exact h2.1 | exact h2.2.1 | exact h2.2.2.1 | exact h2.2.2.2.1 | exact h2.2.2.2.2 | exact va_up_self _ _ _ | (rw [va_up_ne _ _ (by omega)]; first | exact h.1 | exact h.2.1 | exact h.2.2.1 | exact h.2.2.2.1 | exact h.2.2.2.2 | exact h2.1 | exact h2.2.1 | exact h2.2.2.1 | exact h2.2.2.2.1 | exact h2.2.2.2.2 | exact va_up_self _ _ _) | (rw [va_up_ne _ _ (by omega)]; rw [va_up_ne _ _ (by omega)]; first | exact h.1 | exact h.2.1 | exact h.2.2.1 | exact h.2.2.2.1 | exact h.2.2.2.2 | exact h2.1 | exact h2.2.1 | exact h2.2.2.1 | exact h2.2.2.2.1 | exact h2.2.2.2.2 | exact va_up_self _ _ _)) (by rfl) ?_
  refine px_iconst (v := 0) dX4_copyRule_32 (by decide) ?_
  refine px_bipush (v := 12) dX4_copyRule_33 (by decide) ?_
  refine px_copyi lk_X4_59 dX4_copyRule_35 (by first | exact h.1 | exact h.2.1 | exact h.2.2.1 | exact h.2.2.2.1 | exact h.2.2.2.2 | exact h2.1 | exact h2.2.1 | exact h2.2.2.1 | exact h2.2.2.2.1 | exact h2.2.2.2.2 | exact va_up_self _ _ _ | (rw [va_up_ne _ _ (by omega)]; first | exact h.1 | exact h.2.1 | exact h.2.2.1 | exact h.2.2.2.1 | exact h.2.2.2.2 | exact h2.1 | exact h2.2.1 | exact h2.2.2.1 | exact h2.2.2.2.1 | exact h2.2.2.2.2 | exact va_up_self _ _ _) | (rw [va_up_ne _ _ (by omega)]; rw [va_up_ne _ _ (by omega)]; first | exact h.1 | exact h.2.1 | exact h.2.2.1 | exact h.2.2.2.1 | exact h.2.2.2.2 | exact h2.1 | exact h2.2.1 | exact h2.2.2.1 | exact h2.2.2.2.1 | exact h2.2.2.2.2 | exact va_up_self _ _ _)) (by first | exact h.1 | exact h.2.1 | exact h.2.2.1 | exact h.2.2.2.1 | exact h.2.2.2.2 | exact h2.1 | exact h2.2.1 | exact h2.2.2.1 | exact h2.2.2.2.1 | exact h2.2.2.2.2 | exact va_up_self _ _ _ | (rw [va_up_ne _ _ (by omega)]; first | exact h.1 | exact h.2.1 | exact h.2.2.1 | exact h.2.2.2.1 | exact h.2.2.2.2 | exact h2.1 | exact h2.2.1 | exact h2.2.2.1 | exact h2.2.2.2.1 | exact h2.2.2.2.2 | exact va_up_self _ _ _) | (rw [va_up_ne _ _ (by omega)]; rw [va_up_ne _ _ (by omega)]; first | exact h.1 | exact h.2.1 | exact h.2.2.1 | exact h.2.2.2.1 | exact h.2.2.2.2 | exact h2.1 | exact h2.2.1 | exact h2.2.2.1 | exact h2.2.2.2.1 | exact h2.2.2.2.2 | exact va_up_self _ _ _)) (by decide) (by decide) (by decide) (by decide) (by decide) (by omega) (by simp) ?_
  exact px_retv dX4_copyRule_38 rfl (by rfl)
theorem IsT_rule {c2 : Int32} {sg2 fg2 : Nat → Int32} (h : IsT f a c q l sg fg tk tr) (g : Nat → Option va_E) (hg : g = va_up (va_up (va_up f a (some (tcell a c2 q l))) (a + 1) (some (.inl (0, 12, .inl (cp12 sg2 sg))))) (a + 2) (some (.inl (0, 12, .inl (cp12 fg2 fg))))) : IsT g a c2 q l (cp12 sg2 sg) (cp12 fg2 fg) tk tr := by
  subst hg
  refine ⟨?_, ?_, va_up_self _ _ _, ?_, ?_⟩
  · rw [va_up_ne _ _ (by omega), va_up_ne _ _ (by omega), va_up_self]
  · rw [va_up_ne _ _ (by omega), va_up_self]
  · rw [va_up_ne _ _ (by omega), va_up_ne _ _ (by omega), va_up_ne _ _ (by omega)]; exact h.2.2.2.1
  · rw [va_up_ne _ _ (by omega), va_up_ne _ _ (by omega), va_up_ne _ _ (by omega)]; exact h.2.2.2.2
/-- two heaps alike but for the places from lo up to hi, as far as n -/
def Ag (f g : Nat → Option va_E) (lo hi n : Nat) : Prop := ∀ b : Nat, b < n → (b < lo ∨ hi ≤ b) → g b = f b
theorem Ag.rf (f : Nat → Option va_E) (lo hi n : Nat) : Ag f f lo hi n := fun _ _ _ => rfl
theorem Ag.up {f g : Nat → Option va_E} {lo hi n a : Nat} {e : Option va_E} (h : Ag f g lo hi n) (h1 : lo ≤ a) (h2 : a < hi) : Ag f (va_up g a e) lo hi n := fun b hb hr => by rw [va_up_ne _ _ (by omega)]; exact h b hb hr
theorem Ag.tra {f g k : Nat → Option va_E} {lo hi n m : Nat} (h1 : Ag f g lo hi n) (h2 : Ag g k lo hi m) (hm : n ≤ m) : Ag f k lo hi n := fun b hb hr => (h2 b (by omega) hr).trans (h1 b hb hr)
theorem Ag.wide {f g : Nat → Option va_E} {lo hi lo' hi' n : Nat} (h : Ag f g lo hi n) (h1 : lo' ≤ lo) (h2 : hi ≤ hi') : Ag f g lo' hi' n := fun b hb hr => h b hb (by omega)
theorem IsT.ag {f g : Nat → Option va_E} {lo hi n a : Nat} {c l : Int32} {q : Option Nat} {sg fg tk : Nat → Int32} {tr : Nat → Option Nat} (h : IsT f a c q l sg fg tk tr) (hg : Ag f g lo hi n) (hn : a + 5 ≤ n) (hr : a + 5 ≤ lo ∨ hi ≤ a) : IsT g a c q l sg fg tk tr := by
  refine ⟨?_, ?_, ?_, ?_, ?_⟩
  · rw [hg _ (by omega) (by omega)]; exact h.1
  · rw [hg _ (by omega) (by omega)]; exact h.2.1
  · rw [hg _ (by omega) (by omega)]; exact h.2.2.1
  · rw [hg _ (by omega) (by omega)]; exact h.2.2.2.1
  · rw [hg _ (by omega) (by omega)]; exact h.2.2.2.2
theorem c_X4_takeRule {b : Nat} {c2 l2 : Int32} {q2 : Option Nat} {sg2 fg2 tk2 : Nat → Int32} {tr2 : Nat → Option Nat} (h : IsT f a c q l sg fg tk tr) (h2 : IsT f b c2 q2 l2 sg2 fg2 tk2 tr2) (hab : a + 5 ≤ b ∨ b + 5 ≤ a) : ∃ g, CT B D 2 mX4_takeRule [.ref a, .ref b] (n, w, f) none (n, w, g) ∧ IsT g a c2 q (-1) (cp12 sg2 sg) (cp12 fg2 fg) tk tr ∧ ∀ lo hi k, lo ≤ a → a + 5 ≤ hi → Ag f g lo hi k := by
  have h3 := IsT_rule (c2 := c2) (sg2 := sg2) (fg2 := fg2) h _ rfl
  refine ⟨_, ?_, ⟨va_up_self _ _ _, by rw [va_up_ne _ _ (by omega)]; exact h3.2.1, by rw [va_up_ne _ _ (by omega)]; exact h3.2.2.1, by rw [va_up_ne _ _ (by omega)]; exact h3.2.2.2.1, by rw [va_up_ne _ _ (by omega)]; exact h3.2.2.2.2⟩, fun lo hi k h4 h5 => ((((Ag.rf _ _ _ _).up (by omega) (by omega)).up (by omega) (by omega)).up (by omega) (by omega)).up (by omega) (by omega)⟩
  refine CT.of [some (.ref a), some (.ref b)] rfl (Nat.le_of_ble_eq_true rfl) pl_X4 trivial ?_
  refine px_aload_n dX4_takeRule_0 rfl ?_
  refine px_aload_n dX4_takeRule_1 rfl ?_
  refine px_callV0 (ν := mX4_copyRule) (ci := 4) rfl rfl lk_X4_55 in_X4_copyRule se_X4_copyRule mok_X4_copyRule dX4_takeRule_2 (c_X4_copyRule h h2 hab) (by first | exact h.1 | exact h3.1) rfl rfl (by omega) (by simp) ?_
  refine px_aload_n dX4_takeRule_5 rfl ?_
  refine px_callV0 (ν := mX4_dropTrace) (ci := 4) rfl rfl lk_X4_52 in_X4_dropTrace se_X4_dropTrace mok_X4_dropTrace dX4_takeRule_6 (c_X4_dropTrace h3) (by first | exact h.1 | exact h3.1) rfl rfl (by omega) (by simp) ?_
  exact px_retv dX4_takeRule_9 rfl (by rfl)
end M12
