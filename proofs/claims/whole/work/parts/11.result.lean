/-! Result: a chain of cells; told as a list of (content, key, sort, step) -/
abbrev Q4 : Type := Int32 × Int32 × Int32 × Int32
theorem nI_inc (k : Nat) : nI k + Int32.ofInt 1 = nI (k + 1) := by rw [nI_succ]; rfl
def ch (f : Nat → Option va_E) : List Q4 → Option Nat → Prop
  | [], q => q = none
  | (c, k, s, t) :: l, q => ∃ (p : Nat) (q' : Option Nat), q = some p ∧ f p = some (.inr (1, [.int c, .int k, .int s, .int t, va_rf q'])) ∧ ch f l q'
/-- what is a Result stays one -/
def keeps (f g : Nat → Option va_E) : Prop := ∀ (a : Nat) (fs : List Value), f a = some (.inr (1, fs)) → g a = some (.inr (1, fs))
theorem ch_keep {f g : Nat → Option va_E} (hk : keeps f g) : ∀ (l : List Q4) (q : Option Nat), ch f l q → ch g l q
  | [], _, h => h
  | (c, k, s, t) :: l, q, h => by
    obtain ⟨p, q', h1, h2, h3⟩ := h
    exact ⟨p, q', h1, hk _ _ h2, ch_keep hk l q' h3⟩
theorem keeps_rf (f : Nat → Option va_E) : keeps f f := fun _ _ h => h
theorem keeps_tr {f g h : Nat → Option va_E} (h1 : keeps f g) (h2 : keeps g h) : keeps f h := fun a fs e => h2 a fs (h1 a fs e)
theorem keeps_up {f : Nat → Option va_E} {a : Nat} {e : Option va_E} (h : ∀ fs, f a ≠ some (.inr (1, fs))) : keeps f (va_up f a e) := by
  intro b fs hb
  by_cases hba : b = a
  · subst hba; exact absurd hb (h fs)
  · rw [va_up_ne _ _ hba]; exact hb
def q4eq (a b : List Q4) : Bool := decide (a = b)
section M11
variable {B : Nat} {D : va_G} {n w : Nat} {f : Nat → Option va_E}
theorem c_X1_isFailure {p : Nat} {c k s t : Int32} {q : Option Nat} (hp : f p = some (.inr (1, [.int c, .int k, .int s, .int t, va_rf q]))) : CT B D 0 mX1_isFailure [.ref p] (n, w, f) (some (.int (bi (!decide (s = 0))))) (n, w, f) := by
  refine CT.of [some (.ref p)] rfl (Nat.le_of_ble_eq_true rfl) pl_X1 (bi_01 _) ?_
  refine px_aload_n dX1_isFailure_0 rfl ?_
  refine px_getfield fl_X1_18 dX1_isFailure_1 (by assumption) (by rfl) ?_
  refine px_if_eq (tgt := 11) dX1_isFailure_4 (by decide) (fun hc4 => ?_) (fun hc4 => ?_)
  · refine px_iconst (v := 0) dX1_isFailure_11 (by decide) ?_
    exact px_reti dX1_isFailure_12 (by simp [bi, *]) (by rfl)
  · refine px_iconst (v := 1) dX1_isFailure_7 (by decide) ?_
    refine px_goto (tgt := 12) dX1_isFailure_8 (by decide) ?_
    exact px_reti dX1_isFailure_12 (by simp [bi, *]) (by rfl)

theorem c_X1_asTold {p : Nat} {c k s t : Int32} {q : Option Nat} (hp : f p = some (.inr (1, [.int c, .int k, .int s, .int t, va_rf q]))) : CT B D 1 mX1_asTold [.ref p] (n, w, f) (some (.int (if s = 0 then c else 10000000 + s))) (n, w, f) := by
  refine CT.of [some (.ref p)] rfl (Nat.le_of_ble_eq_true rfl) pl_X1 trivial ?_
  refine px_aload_n dX1_asTold_0 rfl ?_
  refine px_callV1 (ν := mX1_isFailure) (ci := 1) rfl rfl lk_X1_31 in_X1_isFailure se_X1_isFailure mok_X1_isFailure dX1_asTold_1 (c_X1_isFailure hp) (by assumption) rfl rfl (by omega) (by simp) ?_
  refine px_ifb_eq (tgt := 17) dX1_asTold_4 (by decide) (fun hc4 => ?_) (fun hc4 => ?_)
  · refine px_aload_n dX1_asTold_17 rfl ?_
    refine px_getfield fl_X1_9 dX1_asTold_18 (by assumption) (by rfl) ?_
    exact px_reti dX1_asTold_21 (by simp at hc4; simp [hc4]) (by rfl)
  · refine px_ldc dX1_asTold_7 kc_X1_35 ?_
    refine px_aload_n dX1_asTold_9 rfl ?_
    refine px_getfield fl_X1_18 dX1_asTold_10 (by assumption) (by rfl) ?_
    refine px_iadd dX1_asTold_13 ?_
    refine px_goto (tgt := 21) dX1_asTold_14 (by decide) ?_
    exact px_reti dX1_asTold_21 (by simp at hc4; simp [hc4]) (by rfl)

def q4_root (k0 : Int32) (l : List Q4) : Int32 := match l with
  | [] => k0
  | (_, k, _, _) :: r => q4_root k r
theorem l_X1_causeCount_7 {d : Nat} {p : Nat} : ∀ (l : List Q4) (q : Option Nat) (j : Nat), ch f l q → EX B D d mX1_causeCount 7 [some (.ref p), some (.int (nI j)), some (va_rf q)] [] (n, w, f) (some (.int (nI (j + l.length)))) (n, w, f) := by
  intro l
  induction l with
  | nil =>
    intro q j h
    have hq : q = none := h
    subst hq
    refine px_aload_nN dX1_causeCount_7 rfl ?_
    refine px_ifnull_t (tgt := 22) dX1_causeCount_8 (by decide) ?_
    refine px_iload_n dX1_causeCount_22 rfl ?_
    exact px_reti dX1_causeCount_23 (by simp) (by rfl)
  | cons x l ih =>
    obtain ⟨c, k, s, t⟩ := x
    intro q j h
    obtain ⟨p2, q2, rfl, hp2, h2⟩ := h
    refine px_aload_n dX1_causeCount_7 rfl ?_
    refine px_ifnull_f dX1_causeCount_8 ?_
    refine px_iinc1 rfl (nI_inc j) dX1_causeCount_11 ?_
    refine px_aload_n dX1_causeCount_14 rfl ?_
    refine px_getfield fl_X1_24 dX1_causeCount_15 (by assumption) (by rfl) ?_
    refine px_astoreQ2 rfl dX1_causeCount_18 ?_
    refine px_goto (tgt := 7) dX1_causeCount_19 (by decide) ?_
    have := ih q2 (j + 1) h2
    rw [show j + 1 + l.length = j + (l.length + 1) by omega] at this
    exact this
theorem c_X1_causeCount {p : Nat} {c k s t : Int32} {q : Option Nat} {l : List Q4} (hp : f p = some (.inr (1, [.int c, .int k, .int s, .int t, va_rf q]))) (hl : ch f l q) : CT B D 0 mX1_causeCount [.ref p] (n, w, f) (some (.int (nI l.length))) (n, w, f) := by
  refine CT.of [some (.ref p), none, none] rfl (Nat.le_of_ble_eq_true rfl) pl_X1 trivial ?_
  refine px_iconst (v := 0) dX1_causeCount_0 (by decide) ?_
  refine px_istore1 rfl dX1_causeCount_1 ?_
  refine px_aload_n dX1_causeCount_2 rfl ?_
  refine px_getfield fl_X1_24 dX1_causeCount_3 (by assumption) (by rfl) ?_
  refine px_astoreQ2 rfl dX1_causeCount_6 ?_
  have := l_X1_causeCount_7 (B := B) (D := D) (d := 0) (p := p) (n := n) (w := w) l q 0 hl
  rw [Nat.zero_add] at this
  exact this

theorem l_X1_rootKey_10 {d : Nat} {p : Nat} : ∀ (l : List Q4) (q : Option Nat) (j : Int32), ch f l q → EX B D d mX1_rootKey 10 [some (.ref p), some (.int j), some (va_rf q)] [] (n, w, f) (some (.int (q4_root j l))) (n, w, f) := by
  intro l
  induction l with
  | nil =>
    intro q j h
    have hq : q = none := h
    subst hq
    refine px_aload_nN dX1_rootKey_10 rfl ?_
    refine px_ifnull_t (tgt := 27) dX1_rootKey_11 (by decide) ?_
    refine px_iload_n dX1_rootKey_27 rfl ?_
    exact px_reti dX1_rootKey_28 (by rfl) (by rfl)
  | cons x l ih =>
    obtain ⟨c, k, s, t⟩ := x
    intro q j h
    obtain ⟨p2, q2, rfl, hp2, h2⟩ := h
    refine px_aload_n dX1_rootKey_10 rfl ?_
    refine px_ifnull_f dX1_rootKey_11 ?_
    refine px_aload_n dX1_rootKey_14 rfl ?_
    refine px_getfield fl_X1_15 dX1_rootKey_15 (by assumption) (by rfl) ?_
    refine px_istore1 rfl dX1_rootKey_18 ?_
    refine px_aload_n dX1_rootKey_19 rfl ?_
    refine px_getfield fl_X1_24 dX1_rootKey_20 (by assumption) (by rfl) ?_
    refine px_astoreQ2 rfl dX1_rootKey_23 ?_
    refine px_goto (tgt := 10) dX1_rootKey_24 (by decide) ?_
    exact ih q2 k h2
theorem c_X1_rootKey {p : Nat} {c k s t : Int32} {q : Option Nat} {l : List Q4} (hp : f p = some (.inr (1, [.int c, .int k, .int s, .int t, va_rf q]))) (hl : ch f l q) : CT B D 0 mX1_rootKey [.ref p] (n, w, f) (some (.int (q4_root k l))) (n, w, f) := by
  refine CT.of [some (.ref p), none, none] rfl (Nat.le_of_ble_eq_true rfl) pl_X1 trivial ?_
  refine px_aload_n dX1_rootKey_0 rfl ?_
  refine px_getfield fl_X1_15 dX1_rootKey_1 (by assumption) (by rfl) ?_
  refine px_istore1 rfl dX1_rootKey_4 ?_
  refine px_aload_n dX1_rootKey_5 rfl ?_
  refine px_getfield fl_X1_24 dX1_rootKey_6 (by assumption) (by rfl) ?_
  refine px_astoreQ2 rfl dX1_rootKey_9 ?_
  exact l_X1_rootKey_10 l q k hl

theorem l_X1_isOrComesOfSort_2 {d : Nat} {p : Nat} {a : Int32} : ∀ (l : List Q4) (q : Option Nat) , ch f l q → EX B D d mX1_isOrComesOfSort 2 [some (.ref p), some (.int a), some (va_rf q)] [] (n, w, f) (some (.int (bi (l.any (fun x => decide (x.2.2.1 = a)))))) (n, w, f) := by
  intro l
  induction l with
  | nil =>
    intro q  h
    have hq : q = none := h
    subst hq
    refine px_aload_nN dX1_isOrComesOfSort_2 rfl ?_
    refine px_ifnull_t (tgt := 24) dX1_isOrComesOfSort_3 (by decide) ?_
    refine px_iconst (v := 0) dX1_isOrComesOfSort_24 (by decide) ?_
    exact px_reti dX1_isOrComesOfSort_25 (by simp [bi, *]) (by rfl)
  | cons x l ih =>
    obtain ⟨c, k, s, t⟩ := x
    intro q  h
    obtain ⟨p2, q2, rfl, hp2, h2⟩ := h
    refine px_aload_n dX1_isOrComesOfSort_2 rfl ?_
    refine px_ifnull_f dX1_isOrComesOfSort_3 ?_
    refine px_aload_n dX1_isOrComesOfSort_6 rfl ?_
    refine px_getfield fl_X1_18 dX1_isOrComesOfSort_7 (by assumption) (by rfl) ?_
    refine px_iload_n dX1_isOrComesOfSort_10 rfl ?_
    refine px_icmp_ne (tgt := 16) dX1_isOrComesOfSort_11 (by decide) (fun hc11 => ?_) (fun hc11 => ?_)
    · refine px_aload_n dX1_isOrComesOfSort_16 rfl ?_
      refine px_getfield fl_X1_24 dX1_isOrComesOfSort_17 (by assumption) (by rfl) ?_
      refine px_astoreQ2 rfl dX1_isOrComesOfSort_20 ?_
      refine px_goto (tgt := 2) dX1_isOrComesOfSort_21 (by decide) ?_
      have hz := ih q2 h2
      simp only [List.any_cons]
      rw [show decide (s = a) = false by simp [hc11], Bool.false_or]
      exact hz
    · refine px_iconst (v := 1) dX1_isOrComesOfSort_14 (by decide) ?_
      exact px_reti dX1_isOrComesOfSort_15 (by simp [bi, *]) (by rfl)
theorem c_X1_isOrComesOfSort {p : Nat} {a : Int32} {l : List Q4} (hl : ch f l (some p)) : CT B D 0 mX1_isOrComesOfSort [.ref p, .int a] (n, w, f) (some (.int (bi (l.any (fun x => decide (x.2.2.1 = a)))))) (n, w, f) := by
  refine CT.of [some (.ref p), some (.int a), none] rfl (Nat.le_of_ble_eq_true rfl) pl_X1 (bi_01 _) ?_
  refine px_aload_n dX1_isOrComesOfSort_0 rfl ?_
  refine px_astore2 rfl dX1_isOrComesOfSort_1 ?_
  exact l_X1_isOrComesOfSort_2 l (some p) hl

theorem l_X1_isOrComesOfKey_2 {d : Nat} {p : Nat} {a : Int32} : ∀ (l : List Q4) (q : Option Nat) , ch f l q → EX B D d mX1_isOrComesOfKey 2 [some (.ref p), some (.int a), some (va_rf q)] [] (n, w, f) (some (.int (bi (l.any (fun x => decide (x.2.1 = a)))))) (n, w, f) := by
  intro l
  induction l with
  | nil =>
    intro q  h
    have hq : q = none := h
    subst hq
    refine px_aload_nN dX1_isOrComesOfKey_2 rfl ?_
    refine px_ifnull_t (tgt := 24) dX1_isOrComesOfKey_3 (by decide) ?_
    refine px_iconst (v := 0) dX1_isOrComesOfKey_24 (by decide) ?_
    exact px_reti dX1_isOrComesOfKey_25 (by simp [bi, *]) (by rfl)
  | cons x l ih =>
    obtain ⟨c, k, s, t⟩ := x
    intro q  h
    obtain ⟨p2, q2, rfl, hp2, h2⟩ := h
    refine px_aload_n dX1_isOrComesOfKey_2 rfl ?_
    refine px_ifnull_f dX1_isOrComesOfKey_3 ?_
    refine px_aload_n dX1_isOrComesOfKey_6 rfl ?_
    refine px_getfield fl_X1_15 dX1_isOrComesOfKey_7 (by assumption) (by rfl) ?_
    refine px_iload_n dX1_isOrComesOfKey_10 rfl ?_
    refine px_icmp_ne (tgt := 16) dX1_isOrComesOfKey_11 (by decide) (fun hc11 => ?_) (fun hc11 => ?_)
    · refine px_aload_n dX1_isOrComesOfKey_16 rfl ?_
      refine px_getfield fl_X1_24 dX1_isOrComesOfKey_17 (by assumption) (by rfl) ?_
      refine px_astoreQ2 rfl dX1_isOrComesOfKey_20 ?_
      refine px_goto (tgt := 2) dX1_isOrComesOfKey_21 (by decide) ?_
      have hz := ih q2 h2
      simp only [List.any_cons]
      rw [show decide (k = a) = false by simp [hc11], Bool.false_or]
      exact hz
    · refine px_iconst (v := 1) dX1_isOrComesOfKey_14 (by decide) ?_
      exact px_reti dX1_isOrComesOfKey_15 (by simp [bi, *]) (by rfl)
theorem c_X1_isOrComesOfKey {p : Nat} {a : Int32} {l : List Q4} (hl : ch f l (some p)) : CT B D 0 mX1_isOrComesOfKey [.ref p, .int a] (n, w, f) (some (.int (bi (l.any (fun x => decide (x.2.1 = a)))))) (n, w, f) := by
  refine CT.of [some (.ref p), some (.int a), none] rfl (Nat.le_of_ble_eq_true rfl) pl_X1 (bi_01 _) ?_
  refine px_aload_n dX1_isOrComesOfKey_0 rfl ?_
  refine px_astore2 rfl dX1_isOrComesOfKey_1 ?_
  exact l_X1_isOrComesOfKey_2 l (some p) hl

theorem l_X1_areSame_14 {d : Nat} {p1 p2 : Nat} : ∀ (l1 l2 : List Q4) (q1 q2 : Option Nat), ch f l1 q1 → ch f l2 q2 → EX B D d mX1_areSame 14 [some (.ref p1), some (.ref p2), some (va_rf q1), some (va_rf q2)] [] (n, w, f) (some (.int (bi (q4eq l1 l2)))) (n, w, f) := by
  intro l1
  induction l1 with
  | nil =>
    intro l2 q1 q2 h1 h2
    have hq : q1 = none := h1
    subst hq
    cases l2 with
    | nil =>
      have hq : q2 = none := h2
      subst hq
      refine px_aload_nN dX1_areSame_14 rfl ?_
      refine px_ifnull_t (tgt := 81) dX1_areSame_15 (by decide) ?_
      refine px_aload_nN dX1_areSame_81 rfl ?_
      refine px_ifnonnull_f dX1_areSame_82 ?_
      refine px_aload_nN dX1_areSame_85 rfl ?_
      refine px_ifnonnull_f dX1_areSame_86 ?_
      refine px_iconst (v := 1) dX1_areSame_89 (by decide) ?_
      refine px_goto (tgt := 94) dX1_areSame_90 (by decide) ?_
      exact px_reti dX1_areSame_94 (by simp [bi, q4eq]) (by rfl)
    | cons y l2 =>
      obtain ⟨c, k, s, t⟩ := y
      obtain ⟨a2, q2', rfl, hp2, h2'⟩ := h2
      refine px_aload_nN dX1_areSame_14 rfl ?_
      refine px_ifnull_t (tgt := 81) dX1_areSame_15 (by decide) ?_
      refine px_aload_nN dX1_areSame_81 rfl ?_
      refine px_ifnonnull_f dX1_areSame_82 ?_
      refine px_aload_n dX1_areSame_85 rfl ?_
      refine px_ifnonnull_t (tgt := 93) dX1_areSame_86 (by decide) ?_
      refine px_iconst (v := 0) dX1_areSame_93 (by decide) ?_
      exact px_reti dX1_areSame_94 (by simp [bi, q4eq]) (by rfl)
  | cons x l1 ih =>
    obtain ⟨c1, k1, s1, t1⟩ := x
    intro l2 q1 q2 h1 h2
    obtain ⟨a1, q1', rfl, hp1, h1'⟩ := h1
    cases l2 with
    | nil =>
      have hq : q2 = none := h2
      subst hq
      refine px_aload_n dX1_areSame_14 rfl ?_
      refine px_ifnull_f dX1_areSame_15 ?_
      refine px_aload_nN dX1_areSame_18 rfl ?_
      refine px_ifnull_t (tgt := 81) dX1_areSame_19 (by decide) ?_
      refine px_aload_n dX1_areSame_81 rfl ?_
      refine px_ifnonnull_t (tgt := 93) dX1_areSame_82 (by decide) ?_
      refine px_iconst (v := 0) dX1_areSame_93 (by decide) ?_
      exact px_reti dX1_areSame_94 (by simp [bi, q4eq]) (by rfl)
    | cons y l2 =>
      obtain ⟨c2, k2, s2, t2⟩ := y
      obtain ⟨a2, q2', rfl, hp2, h2'⟩ := h2
      refine px_aload_n dX1_areSame_14 rfl ?_
      refine px_ifnull_f dX1_areSame_15 ?_
      refine px_aload_n dX1_areSame_18 rfl ?_
      refine px_ifnull_f dX1_areSame_19 ?_
      refine px_aload_n dX1_areSame_22 rfl ?_
      refine px_getfield fl_X1_9 dX1_areSame_23 (by assumption) (by rfl) ?_
      refine px_aload_n dX1_areSame_26 rfl ?_
      refine px_getfield fl_X1_9 dX1_areSame_27 (by assumption) (by rfl) ?_
      refine px_icmp_ne (tgt := 66) dX1_areSame_30 (by decide) (fun hc30 => ?_) (fun hc30 => ?_)
      · refine px_iconst (v := 0) dX1_areSame_66 (by decide) ?_
        exact px_reti dX1_areSame_67 (by simp [bi, q4eq, *]) (by rfl)
      · refine px_aload_n dX1_areSame_33 rfl ?_
        refine px_getfield fl_X1_15 dX1_areSame_34 (by assumption) (by rfl) ?_
        refine px_aload_n dX1_areSame_37 rfl ?_
        refine px_getfield fl_X1_15 dX1_areSame_38 (by assumption) (by rfl) ?_
        refine px_icmp_ne (tgt := 66) dX1_areSame_41 (by decide) (fun hc41 => ?_) (fun hc41 => ?_)
        · refine px_iconst (v := 0) dX1_areSame_66 (by decide) ?_
          exact px_reti dX1_areSame_67 (by simp [bi, q4eq, *]) (by rfl)
        · refine px_aload_n dX1_areSame_44 rfl ?_
          refine px_getfield fl_X1_18 dX1_areSame_45 (by assumption) (by rfl) ?_
          refine px_aload_n dX1_areSame_48 rfl ?_
          refine px_getfield fl_X1_18 dX1_areSame_49 (by assumption) (by rfl) ?_
          refine px_icmp_ne (tgt := 66) dX1_areSame_52 (by decide) (fun hc52 => ?_) (fun hc52 => ?_)
          · refine px_iconst (v := 0) dX1_areSame_66 (by decide) ?_
            exact px_reti dX1_areSame_67 (by simp [bi, q4eq, *]) (by rfl)
          · refine px_aload_n dX1_areSame_55 rfl ?_
            refine px_getfield fl_X1_21 dX1_areSame_56 (by assumption) (by rfl) ?_
            refine px_aload_n dX1_areSame_59 rfl ?_
            refine px_getfield fl_X1_21 dX1_areSame_60 (by assumption) (by rfl) ?_
            refine px_icmp_eq (tgt := 68) dX1_areSame_63 (by decide) (fun hc63 => ?_) (fun hc63 => ?_)
            · refine px_aload_n dX1_areSame_68 rfl ?_
              refine px_getfield fl_X1_24 dX1_areSame_69 (by assumption) (by rfl) ?_
              refine px_astoreQ2 rfl dX1_areSame_72 ?_
              refine px_aload_n dX1_areSame_73 rfl ?_
              refine px_getfield fl_X1_24 dX1_areSame_74 (by assumption) (by rfl) ?_
              refine px_astoreQ3 (nl_rf _) dX1_areSame_77 ?_
              refine px_goto (tgt := 14) dX1_areSame_78 (by decide) ?_
              have hz := ih l2 q1' q2' h1' h2'
              have he : q4eq ((c1, k1, s1, t1) :: l1) ((c2, k2, s2, t2) :: l2) = q4eq l1 l2 := by simp [q4eq, *]
              rw [he]
              exact hz
            · refine px_iconst (v := 0) dX1_areSame_66 (by decide) ?_
              exact px_reti dX1_areSame_67 (by simp [bi, q4eq, *]) (by rfl)
/-- the SAME, where both are there -/
def oSame : Option (List Q4) → Option (List Q4) → Bool
  | some a, some b => q4eq a b
  | _, _ => false
/-- a pointer that may be null, and what it tells -/
def chO (f : Nat → Option va_E) (q : Option Nat) (r : Option (List Q4)) : Prop := match r with
  | none => q = none
  | some l => ∃ p : Nat, q = some p ∧ ch f l (some p)
theorem chO_keep {f g : Nat → Option va_E} (hk : keeps f g) {q : Option Nat} {r : Option (List Q4)} (h : chO f q r) : chO g q r := by
  cases r with
  | none => exact h
  | some l => obtain ⟨p, h1, h2⟩ := h; exact ⟨p, h1, ch_keep hk _ _ h2⟩
theorem c_X1_areSame {q1 q2 : Option Nat} {r1 r2 : Option (List Q4)} (h1 : chO f q1 r1) (h2 : chO f q2 r2) : CT B D 0 mX1_areSame [va_rf q1, va_rf q2] (n, w, f) (some (.int (bi (oSame r1 r2)))) (n, w, f) := by
  rcases r1 with _ | l1
  · have hq : q1 = none := h1
    subst hq
    rw [show oSame none r2 = false from rfl]
    refine CT.of [some .null, some (va_rf q2), none, none] (by simp [pm_ent, pm_sl, cat_rf, cat_null, rf_none]) (by simp [pm_sl, cat_rf, cat_null, rf_none]) pl_X1 (bi_01 _) ?_
    refine px_aload_nN dX1_areSame_0 rfl ?_
    refine px_ifnull_t (tgt := 8) dX1_areSame_1 (by decide) ?_
    refine px_iconst (v := 0) dX1_areSame_8 (by decide) ?_
    exact px_reti dX1_areSame_9 (by rfl) (by rfl)
  · obtain ⟨p1, rfl, h1⟩ := h1
    rcases r2 with _ | l2
    · have hq : q2 = none := h2
      subst hq
      rw [show oSame (some l1) none = false from rfl]
      refine CT.of [some (.ref p1), some .null, none, none] rfl (Nat.le_of_ble_eq_true rfl) pl_X1 (bi_01 _) ?_
      refine px_aload_n dX1_areSame_0 rfl ?_
      refine px_ifnull_f dX1_areSame_1 ?_
      refine px_aload_nN dX1_areSame_4 rfl ?_
      refine px_ifnonnull_f dX1_areSame_5 ?_
      refine px_iconst (v := 0) dX1_areSame_8 (by decide) ?_
      exact px_reti dX1_areSame_9 (by rfl) (by rfl)
    · obtain ⟨p2, rfl, h2⟩ := h2
      rw [show oSame (some l1) (some l2) = q4eq l1 l2 from rfl]
      refine CT.of [some (.ref p1), some (.ref p2), none, none] rfl (Nat.le_of_ble_eq_true rfl) pl_X1 (bi_01 _) ?_
      refine px_aload_n dX1_areSame_0 rfl ?_
      refine px_ifnull_f dX1_areSame_1 ?_
      refine px_aload_n dX1_areSame_4 rfl ?_
      refine px_ifnonnull_t (tgt := 10) dX1_areSame_5 (by decide) ?_
      refine px_aload_n dX1_areSame_10 rfl ?_
      refine px_astore2 rfl dX1_areSame_11 ?_
      refine px_aload_n dX1_areSame_12 rfl ?_
      refine px_astore3 rfl dX1_areSame_13 ?_
      exact l_X1_areSame_14 _ _ _ _ h1 h2
theorem def_X0 : ∀ j, j < 11 → defaultValue (tyX0 j) = vp_V [.null, .null, .int 0, .int 0, .int 0, .int 0, .int 0, .int 0, .int 0, .int 0, .int 0] j := by decide +kernel
theorem def_X1 : ∀ j, j < 5 → defaultValue (tyX1 j) = vp_V [.int 0, .int 0, .int 0, .int 0, .null] j := by decide +kernel
theorem def_X2 : ∀ j, j < 3 → defaultValue (tyX2 j) = vp_V [.int 0, .null, .int 0] j := by decide +kernel
theorem def_X3 : ∀ j, j < 2 → defaultValue (tyX3 j) = vp_V [.null, .int 0] j := by decide +kernel
theorem def_X4 : ∀ j, j < 7 → defaultValue (tyX4 j) = vp_V [.int 0, .null, .null, .null, .int 0, .null, .null] j := by decide +kernel
theorem def_X5 : ∀ j, j < 4 → defaultValue (tyX5 j) = vp_V [.null, .null, .null, .null] j := by decide +kernel
theorem def_X6 : ∀ j, j < 7 → defaultValue (tyX6 j) = vp_V [.null, .null, .null, .null, .null, .null, .int 0] j := by decide +kernel
theorem def_X7 : ∀ j, j < 29 → defaultValue (tyX7 j) = vp_V [.null, .null, .null, .null, .int 0, .null, .null, .null, .int 0, .null, .int 0, .null, .null, .null, .int 0, .int 0, .int 0, .int 0, .int 0, .int 0, .null, .null, .int 0, .null, .null, .null, .null, .null, .null] j := by decide +kernel
theorem c_X1_init {a : Nat} {c k s t : Int32} {q : Option Nat} {v1 v2 v3 v4 v5 : Value} (hp : f a = some (.inr (1, [v1, v2, v3, v4, v5]))) : CT B D 1 mX1_init [.ref a, .int c, .int k, .int s, .int t, va_rf q] (n, w, f) none (n, w, va_up f a (some (.inr (1, [.int c, .int k, .int s, .int t, va_rf q])))) := by
  refine CT.of [some (.ref a), some (.int c), some (.int k), some (.int s), some (.int t), some (va_rf q)] (by simp [pm_ent, pm_sl, cat_rf, cat_int, cat_long, cat_null, cat_ref]) (by simp [pm_sl, cat_rf, cat_int, cat_long, cat_null, cat_ref]) pl_X1 trivial ?_
  refine px_aload_n dX1_init_0 rfl ?_
  refine px_objinit lk_X1_3 in_obj co_obj (by omega) (by simp) dX1_init_1 ?_
  refine px_aload_n dX1_init_4 rfl ?_
  refine px_iload_n dX1_init_5 rfl ?_
  refine px_putfieldF fp_X1_9 rfl rfl dX1_init_6 (by first | assumption | exact va_up_self _ _ _) rfl rfl (by simp) ?_
  refine px_aload_n dX1_init_9 rfl ?_
  refine px_iload_n dX1_init_10 rfl ?_
  refine px_putfieldF fp_X1_15 rfl rfl dX1_init_11 (by first | assumption | exact va_up_self _ _ _) rfl rfl (by simp) ?_
  refine px_aload_n dX1_init_14 rfl ?_
  refine px_iload_n dX1_init_15 rfl ?_
  refine px_putfieldF fp_X1_18 rfl rfl dX1_init_16 (by first | assumption | exact va_up_self _ _ _) rfl rfl (by simp) ?_
  refine px_aload_n dX1_init_19 rfl ?_
  refine px_iload dX1_init_20 rfl ?_
  refine px_putfieldF fp_X1_21 rfl rfl dX1_init_22 (by first | assumption | exact va_up_self _ _ _) rfl rfl (by simp) ?_
  refine px_aload_n dX1_init_25 rfl ?_
  refine px_aloadQ dX1_init_26 rfl ?_
  refine px_putfieldF fp_X1_24 rfl rfl dX1_init_28 (by first | assumption | exact va_up_self _ _ _) (nar_rf _ _) (fit_rf _ _) (by simp) ?_
  exact px_retv dX1_init_31 rfl (by simp only [bx_uu, List.set_cons_zero, List.set_cons_succ])

theorem c_X1_ofContent {c : Int32} : CT B D 2 mX1_ofContent [.int c] (n, w, f) (some (.ref n)) (n + 1, w + 5, va_up f n (some (.inr (1, [.int c, .int (-1), .int 0, .int (-1), .null])))) := by
  refine CT.of [some (.int c)] rfl (Nat.le_of_ble_eq_true rfl) pl_X1 trivial ?_
  refine px_new (ci := 1) (fs := [.int 0, .int 0, .int 0, .int 0, .null]) rfl cl_X1_10 ins_RX1 ini_RX1 tyX1 tyX1_ok (def_X1) dX1_ofContent_0 ?_
  refine px_dup dX1_ofContent_3 rfl ?_
  refine px_iload_n dX1_ofContent_4 rfl ?_
  refine px_iconst (v := (-1)) dX1_ofContent_5 (by decide) ?_
  refine px_iconst (v := 0) dX1_ofContent_6 (by decide) ?_
  refine px_iconst (v := (-1)) dX1_ofContent_7 (by decide) ?_
  refine px_null dX1_ofContent_8 ?_
  refine px_callI (ν := mX1_init) rfl rfl lk_X1_28 in_X1_init mok_X1_init dX1_ofContent_9 (c_X1_init (q := none) (va_up_self _ _ _)) rfl rfl (by omega) (by simp) ?_
  exact px_reta dX1_ofContent_12 (by rfl) (by simp only [bx_uu]; rfl)

theorem c_X1_ofFailure {k s t : Int32} {q : Option Nat} : CT B D 2 mX1_ofFailure [.int k, .int s, .int t, va_rf q] (n, w, f) (some (.ref n)) (n + 1, w + 5, va_up f n (some (.inr (1, [.int 0, .int k, .int s, .int t, va_rf q])))) := by
  refine CT.of [some (.int k), some (.int s), some (.int t), some (va_rf q)] (by simp [pm_ent, pm_sl, cat_rf, cat_int, cat_long, cat_null, cat_ref]) (by simp [pm_sl, cat_rf, cat_int, cat_long, cat_null, cat_ref]) pl_X1 trivial ?_
  refine px_new (ci := 1) (fs := [.int 0, .int 0, .int 0, .int 0, .null]) rfl cl_X1_10 ins_RX1 ini_RX1 tyX1 tyX1_ok (def_X1) dX1_ofFailure_0 ?_
  refine px_dup dX1_ofFailure_3 rfl ?_
  refine px_iconst (v := 0) dX1_ofFailure_4 (by decide) ?_
  refine px_iload_n dX1_ofFailure_5 rfl ?_
  refine px_iload_n dX1_ofFailure_6 rfl ?_
  refine px_iload_n dX1_ofFailure_7 rfl ?_
  refine px_aload_nQ dX1_ofFailure_8 rfl ?_
  refine px_callI (ν := mX1_init) rfl rfl lk_X1_28 in_X1_init mok_X1_init dX1_ofFailure_9 (c_X1_init (q := q) (va_up_self _ _ _)) rfl rfl (by omega) (by simp) ?_
  exact px_reta dX1_ofFailure_12 (by rfl) (by simp only [bx_uu])

end M11
