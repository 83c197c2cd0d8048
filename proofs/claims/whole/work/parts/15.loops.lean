/-! World: loops over the TARGETS -/
def bitsF (p : Nat → Bool) : Nat → Nat → Int32 → Int32
  | 0, _, x => x
  | k + 1, i, x => bitsF p k (i + 1) (if p i = true then x ||| ((1 : Int32) <<< (nI i &&& 31)) else x)
def cntF (p : Nat → Bool) : Nat → Nat → Int32 → Int32
  | 0, _, x => x
  | k + 1, i, x => cntF p k (i + 1) (if p i = true then x + 1 else x)
theorem bitsF_t {p : Nat → Bool} {k i : Nat} {x : Int32} (h : p i = true) : bitsF p (k + 1) i x = bitsF p k (i + 1) (x ||| ((1 : Int32) <<< (nI i &&& 31))) := by rw [bitsF, if_pos h]
theorem bitsF_f {p : Nat → Bool} {k i : Nat} {x : Int32} (h : p i = false) : bitsF p (k + 1) i x = bitsF p k (i + 1) x := by rw [bitsF, if_neg (by simp [h])]
theorem cntF_t {p : Nat → Bool} {k i : Nat} {x : Int32} (h : p i = true) : cntF p (k + 1) i x = cntF p k (i + 1) (x + 1) := by rw [cntF, if_pos h]
theorem cntF_f {p : Nat → Bool} {k i : Nat} {x : Int32} (h : p i = false) : cntF p (k + 1) i x = cntF p k (i + 1) x := by rw [cntF, if_neg (by simp [h])]
theorem bitsF_ext {p q : Nat → Bool} : ∀ (k i : Nat) (x : Int32), (∀ j, i ≤ j → j < i + k → p j = q j) → bitsF p k i x = bitsF q k i x
  | 0, _, _, _ => rfl
  | k + 1, i, x, h => by
    rw [bitsF, bitsF, h i (Nat.le_refl _) (by omega)]
    exact bitsF_ext k (i + 1) _ (fun j h1 h2 => h j (by omega) (by omega))
theorem cntF_ext {p q : Nat → Bool} : ∀ (k i : Nat) (x : Int32), (∀ j, i ≤ j → j < i + k → p j = q j) → cntF p k i x = cntF q k i x
  | 0, _, _, _ => rfl
  | k + 1, i, x, h => by
    rw [cntF, cntF, h i (Nat.le_refl _) (by omega)]
    exact cntF_ext k (i + 1) _ (fun j h1 h2 => h j (by omega) (by omega))
theorem anyN_list {α : Type} (p : α → Bool) (q : Nat → Bool) : ∀ (T : List α), (∀ (i : Nat) (x : α), T[i]? = some x → q i = p x) → anyN T.length q = T.any p := by
  intro T
  induction T generalizing q with
  | nil => intro _; rfl
  | cons x T ih =>
    intro h
    rw [List.length_cons, anyN, List.any_cons, h 0 x rfl, ih (fun j => q (j + 1)) (fun i y hy => h (i + 1) y (by rw [List.getElem?_cons_succ]; exact hy))]
def aBlames (A : AW) (key : Int32) (k : Nat) : Bool := match aFail A k with
  | some l => l.any (fun x => decide (x.2.1 = key))
  | none => false
def aTraces (A : AW) (key : Int32) (k : Nat) : Bool := match A.tr k with
  | some T => T.any (fun x => decide (nI x.1 = key))
  | none => false
def aFresh (A : AW) (k : Nat) : Bool := match A.tr k with
  | some T => T.all (fun x => oSame (aHas A x.1) (some x.2))
  | none => false
def aSameBelow (A : AW) (k : Nat) : Bool := anyN (k - 8) (fun j => oSame (aHas A (8 + j)) (aHas A k))
section M15
variable {B : Nat} {D : va_G} {n w : Nat} {f : Nat → Option va_E} {a : Nat} {A : AW}
theorem l_X5_resultCount_5 {d : Nat} (hd : 4 ≤ d) (hW : IsW f a A) : ∀ (k i : Nat) (x : Int32), i + k = 24 → EX B D d mX5_resultCount 5 [some (.ref a), some (.int x), some (.int (nI i))] [] (n, w, f) (some (.int (cntF (fun k => (aHas A k).isSome) k i x))) (n, w, f) := by
  intro k
  induction k with
  | zero =>
    intro i x hi
    refine px_iload_n dX5_resultCount_5 rfl ?_
    refine px_bipush (v := 24) dX5_resultCount_6 (by decide) ?_
    refine px_icmp_ge (tgt := 28) dX5_resultCount_8 (by decide) (fun hc8 => ?_) (fun hc8 => ?_)
    · refine px_iload_n dX5_resultCount_28 rfl ?_
      exact px_reti dX5_resultCount_29 (by rfl) (by rfl)
    · exact absurd (nI_le (a := 24) (b := i) (by omega) (by omega)) hc8
  | succ k ih =>
    intro i x hi
    obtain ⟨q, hq, hc⟩ := c_X5_resultOf (B := B) (D := D) (n := n) (w := w) hW (k := i) (by omega)
    cases hr : aHas A i with
    | none =>
      rw [hr] at hc
      have hq0 : q = none := hc
      subst hq0
      refine px_iload_n dX5_resultCount_5 rfl ?_
      refine px_bipush (v := 24) dX5_resultCount_6 (by decide) ?_
      refine px_icmp_ge (tgt := 28) dX5_resultCount_8 (by decide) (fun hc8 => ?_) (fun hc8 => ?_)
      · exact absurd hc8 (nI_ge (a := i) (b := 24) (by omega) (by omega))
      · refine px_aload_n dX5_resultCount_11 rfl ?_
        refine px_iload_n dX5_resultCount_12 rfl ?_
        refine px_callV1 (ν := mX5_resultOf) (ci := 5) rfl rfl lk_X5_67 in_X5_resultOf se_X5_resultOf mok_X5_resultOf dX5_resultCount_13 (hq) (by exact hW.1) rfl rfl (by omega) (by simp) ?_
        refine px_ifnull_t (tgt := 22) dX5_resultCount_16 (by decide) ?_
        refine px_iinc2 rfl (nI_inc i) dX5_resultCount_22 ?_
        refine px_goto (tgt := 5) dX5_resultCount_25 (by decide) ?_
        rw [cntF_f (by simp [hr])]
        exact ih (i + 1) _ (by omega)
    | some l =>
      rw [hr] at hc
      obtain ⟨p, hp, hc2⟩ := hc
      subst hp
      refine px_iload_n dX5_resultCount_5 rfl ?_
      refine px_bipush (v := 24) dX5_resultCount_6 (by decide) ?_
      refine px_icmp_ge (tgt := 28) dX5_resultCount_8 (by decide) (fun hc8 => ?_) (fun hc8 => ?_)
      · exact absurd hc8 (nI_ge (a := i) (b := 24) (by omega) (by omega))
      · refine px_aload_n dX5_resultCount_11 rfl ?_
        refine px_iload_n dX5_resultCount_12 rfl ?_
        refine px_callV1 (ν := mX5_resultOf) (ci := 5) rfl rfl lk_X5_67 in_X5_resultOf se_X5_resultOf mok_X5_resultOf dX5_resultCount_13 (hq) (by exact hW.1) rfl rfl (by omega) (by simp) ?_
        refine px_ifnull_f dX5_resultCount_16 ?_
        refine px_iinc1 rfl rfl dX5_resultCount_19 ?_
        refine px_iinc2 rfl (nI_inc i) dX5_resultCount_22 ?_
        refine px_goto (tgt := 5) dX5_resultCount_25 (by decide) ?_
        rw [cntF_t (by simp [hr])]
        exact ih (i + 1) _ (by omega)
theorem c_X5_resultCount (hW : IsW f a A) : CT B D 4 mX5_resultCount [.ref a] (n, w, f) (some (.int (cntF (fun k => (aHas A k).isSome) 16 8 0))) (n, w, f) := by
  refine CT.of [some (.ref a), none, none] rfl (Nat.le_of_ble_eq_true rfl) pl_X5 trivial ?_
  refine px_iconst (v := 0) dX5_resultCount_0 (by decide) ?_
  refine px_istore1 rfl dX5_resultCount_1 ?_
  refine px_bipush (v := 8) dX5_resultCount_2 (by decide) ?_
  refine px_istore2 rfl dX5_resultCount_4 ?_
  exact l_X5_resultCount_5 (by omega) hW 16 8 0 (by omega)

theorem l_X5_failureCount_5 {d : Nat} (hd : 4 ≤ d) (hW : IsW f a A) : ∀ (k i : Nat) (x : Int32), i + k = 24 → EX B D d mX5_failureCount 5 [some (.ref a), some (.int x), some (.int (nI i))] [] (n, w, f) (some (.int (cntF (fun k => (aFail A k).isSome) k i x))) (n, w, f) := by
  intro k
  induction k with
  | zero =>
    intro i x hi
    refine px_iload_n dX5_failureCount_5 rfl ?_
    refine px_bipush (v := 24) dX5_failureCount_6 (by decide) ?_
    refine px_icmp_ge (tgt := 28) dX5_failureCount_8 (by decide) (fun hc8 => ?_) (fun hc8 => ?_)
    · refine px_iload_n dX5_failureCount_28 rfl ?_
      exact px_reti dX5_failureCount_29 (by rfl) (by rfl)
    · exact absurd (nI_le (a := 24) (b := i) (by omega) (by omega)) hc8
  | succ k ih =>
    intro i x hi
    obtain ⟨q, hq, hc⟩ := c_X5_failureOf (B := B) (D := D) (n := n) (w := w) hW (k := i) (by omega)
    cases hr : aFail A i with
    | none =>
      rw [hr] at hc
      have hq0 : q = none := hc
      subst hq0
      refine px_iload_n dX5_failureCount_5 rfl ?_
      refine px_bipush (v := 24) dX5_failureCount_6 (by decide) ?_
      refine px_icmp_ge (tgt := 28) dX5_failureCount_8 (by decide) (fun hc8 => ?_) (fun hc8 => ?_)
      · exact absurd hc8 (nI_ge (a := i) (b := 24) (by omega) (by omega))
      · refine px_aload_n dX5_failureCount_11 rfl ?_
        refine px_iload_n dX5_failureCount_12 rfl ?_
        refine px_callV1 (ν := mX5_failureOf) (ci := 5) rfl rfl lk_X5_79 in_X5_failureOf se_X5_failureOf mok_X5_failureOf dX5_failureCount_13 (hq) (by exact hW.1) rfl rfl (by omega) (by simp) ?_
        refine px_ifnull_t (tgt := 22) dX5_failureCount_16 (by decide) ?_
        refine px_iinc2 rfl (nI_inc i) dX5_failureCount_22 ?_
        refine px_goto (tgt := 5) dX5_failureCount_25 (by decide) ?_
        rw [cntF_f (by simp [hr])]
        exact ih (i + 1) _ (by omega)
    | some l =>
      rw [hr] at hc
      obtain ⟨p, hp, hc2⟩ := hc
      subst hp
      refine px_iload_n dX5_failureCount_5 rfl ?_
      refine px_bipush (v := 24) dX5_failureCount_6 (by decide) ?_
      refine px_icmp_ge (tgt := 28) dX5_failureCount_8 (by decide) (fun hc8 => ?_) (fun hc8 => ?_)
      · exact absurd hc8 (nI_ge (a := i) (b := 24) (by omega) (by omega))
      · refine px_aload_n dX5_failureCount_11 rfl ?_
        refine px_iload_n dX5_failureCount_12 rfl ?_
        refine px_callV1 (ν := mX5_failureOf) (ci := 5) rfl rfl lk_X5_79 in_X5_failureOf se_X5_failureOf mok_X5_failureOf dX5_failureCount_13 (hq) (by exact hW.1) rfl rfl (by omega) (by simp) ?_
        refine px_ifnull_f dX5_failureCount_16 ?_
        refine px_iinc1 rfl rfl dX5_failureCount_19 ?_
        refine px_iinc2 rfl (nI_inc i) dX5_failureCount_22 ?_
        refine px_goto (tgt := 5) dX5_failureCount_25 (by decide) ?_
        rw [cntF_t (by simp [hr])]
        exact ih (i + 1) _ (by omega)
theorem c_X5_failureCount (hW : IsW f a A) : CT B D 4 mX5_failureCount [.ref a] (n, w, f) (some (.int (cntF (fun k => (aFail A k).isSome) 16 8 0))) (n, w, f) := by
  refine CT.of [some (.ref a), none, none] rfl (Nat.le_of_ble_eq_true rfl) pl_X5 trivial ?_
  refine px_iconst (v := 0) dX5_failureCount_0 (by decide) ?_
  refine px_istore1 rfl dX5_failureCount_1 ?_
  refine px_bipush (v := 8) dX5_failureCount_2 (by decide) ?_
  refine px_istore2 rfl dX5_failureCount_4 ?_
  exact l_X5_failureCount_5 (by omega) hW 16 8 0 (by omega)

theorem l_X5_targetsFailingBy_4 {d : Nat} (hd : 4 ≤ d) (hW : IsW f a A) {key : Int32} : ∀ (k i : Nat) (x : Int32) (z : Option Value), i + k = 16 → EX B D d mX5_targetsFailingBy 4 [some (.ref a), some (.int key), some (.int x), some (.int (nI i)), z] [] (n, w, f) (some (.int (bitsF (fun t => aBlames A key (8 + t)) k i x))) (n, w, f) := by
  intro k
  induction k with
  | zero =>
    intro i x z hi
    refine px_iload_n dX5_targetsFailingBy_4 rfl ?_
    refine px_bipush (v := 16) dX5_targetsFailingBy_5 (by decide) ?_
    refine px_icmp_ge (tgt := 46) dX5_targetsFailingBy_7 (by decide) (fun hc7 => ?_) (fun hc7 => ?_)
    · refine px_iload_n dX5_targetsFailingBy_46 rfl ?_
      exact px_reti dX5_targetsFailingBy_47 (by rfl) (by rfl)
    · exact absurd (nI_le (a := 16) (b := i) (by omega) (by omega)) hc7
  | succ k ih =>
    intro i x z hi
    obtain ⟨q, hq, hc⟩ := c_X5_failureOf (B := B) (D := D) (n := n) (w := w) hW (k := 8 + i) (by omega)
    cases hr : aFail A (8 + i) with
    | none =>
      rw [hr] at hc
      have hq0 : q = none := hc
      subst hq0
      refine px_iload_n dX5_targetsFailingBy_4 rfl ?_
      refine px_bipush (v := 16) dX5_targetsFailingBy_5 (by decide) ?_
      refine px_icmp_ge (tgt := 46) dX5_targetsFailingBy_7 (by decide) (fun hc7 => ?_) (fun hc7 => ?_)
      · exact absurd hc7 (nI_ge (a := i) (b := 16) (by omega) (by omega))
      · refine px_aload_n dX5_targetsFailingBy_10 rfl ?_
        refine px_bipush (v := 8) dX5_targetsFailingBy_11 (by decide) ?_
        refine px_iload_n dX5_targetsFailingBy_13 rfl ?_
        refine px_iadd dX5_targetsFailingBy_14 ?_
        rw [show (8 : Int32) + nI i = nI (8 + i) from nI_add 8 i]
        refine px_callV1 (ν := mX5_failureOf) (ci := 5) rfl rfl lk_X5_79 in_X5_failureOf se_X5_failureOf mok_X5_failureOf dX5_targetsFailingBy_15 (hq) (by exact hW.1) rfl rfl (by omega) (by simp) ?_
        refine px_astoreN4 rfl dX5_targetsFailingBy_18 ?_
        refine px_aloadN dX5_targetsFailingBy_20 rfl ?_
        refine px_ifnull_t (tgt := 40) dX5_targetsFailingBy_22 (by decide) ?_
        refine px_iinc3 rfl (nI_inc i) dX5_targetsFailingBy_40 ?_
        refine px_goto (tgt := 4) dX5_targetsFailingBy_43 (by decide) ?_
        rw [bitsF_f (by simp [aBlames, hr])]
        exact ih (i + 1) _ _ (by omega)
    | some l =>
      rw [hr] at hc
      obtain ⟨p, hp, hc2⟩ := hc
      subst hp
      refine px_iload_n dX5_targetsFailingBy_4 rfl ?_
      refine px_bipush (v := 16) dX5_targetsFailingBy_5 (by decide) ?_
      refine px_icmp_ge (tgt := 46) dX5_targetsFailingBy_7 (by decide) (fun hc7 => ?_) (fun hc7 => ?_)
      · exact absurd hc7 (nI_ge (a := i) (b := 16) (by omega) (by omega))
      · refine px_aload_n dX5_targetsFailingBy_10 rfl ?_
        refine px_bipush (v := 8) dX5_targetsFailingBy_11 (by decide) ?_
        refine px_iload_n dX5_targetsFailingBy_13 rfl ?_
        refine px_iadd dX5_targetsFailingBy_14 ?_
        rw [show (8 : Int32) + nI i = nI (8 + i) from nI_add 8 i]
        refine px_callV1 (ν := mX5_failureOf) (ci := 5) rfl rfl lk_X5_79 in_X5_failureOf se_X5_failureOf mok_X5_failureOf dX5_targetsFailingBy_15 (hq) (by first | exact hW.1 | exact hcell) rfl rfl (by omega) (by simp) ?_
        refine px_astore4 rfl dX5_targetsFailingBy_18 ?_
        refine px_aload dX5_targetsFailingBy_20 rfl ?_
        refine px_ifnull_f dX5_targetsFailingBy_22 ?_
        refine px_aload dX5_targetsFailingBy_25 rfl ?_
        refine px_iload_n dX5_targetsFailingBy_27 rfl ?_
        obtain ⟨cc, kk, ss, tt, ll, qq, hcell⟩ : ∃ cc kk ss tt, ∃ (ll : List Q4) (qq : Option Nat), f p = some (.inr (1, [.int cc, .int kk, .int ss, .int tt, va_rf qq])) := by cases l with | nil => cases hc2 | cons y l => (obtain ⟨p0, q0, e0, e1, e2⟩ := hc2; cases e0; exact ⟨_, _, _, _, l, _, e1⟩)
        refine px_callV1 (ν := mX1_isOrComesOfKey) (ci := 1) rfl rfl lk_X5_82 in_X1_isOrComesOfKey se_X1_isOrComesOfKey mok_X1_isOrComesOfKey dX5_targetsFailingBy_28 (c_X1_isOrComesOfKey (a := key) hc2) (by first | exact hW.1 | exact hcell) rfl rfl (by omega) (by simp) ?_
        refine px_ifb_eq (tgt := 40) dX5_targetsFailingBy_31 (by decide) (fun hc31 => ?_) (fun hc31 => ?_)
        · refine px_iinc3 rfl (nI_inc i) dX5_targetsFailingBy_40 ?_
          refine px_goto (tgt := 4) dX5_targetsFailingBy_43 (by decide) ?_
          rw [bitsF]
          simp only [aBlames, hr, hc31, if_true, Bool.false_eq_true, if_false, Bool.not_true, Bool.not_false, Bool.and_true, Bool.and_false, Bool.true_and, Bool.false_and]
          exact ih (i + 1) _ _ (by omega)
        · refine px_iload_n dX5_targetsFailingBy_34 rfl ?_
          refine px_iconst (v := 1) dX5_targetsFailingBy_35 (by decide) ?_
          refine px_iload_n dX5_targetsFailingBy_36 rfl ?_
          refine px_ishl dX5_targetsFailingBy_37 ?_
          refine px_ior dX5_targetsFailingBy_38 ?_
          refine px_istore2 rfl dX5_targetsFailingBy_39 ?_
          refine px_iinc3 rfl (nI_inc i) dX5_targetsFailingBy_40 ?_
          refine px_goto (tgt := 4) dX5_targetsFailingBy_43 (by decide) ?_
          rw [bitsF]
          simp only [aBlames, hr, hc31, if_true, Bool.false_eq_true, if_false, Bool.not_true, Bool.not_false, Bool.and_true, Bool.and_false, Bool.true_and, Bool.false_and]
          exact ih (i + 1) _ _ (by omega)
theorem c_X5_targetsFailingBy (hW : IsW f a A) (key : Int32) : CT B D 4 mX5_targetsFailingBy [.ref a, .int key] (n, w, f) (some (.int (bitsF (fun t => aBlames A key (8 + t)) 16 0 0))) (n, w, f) := by
  refine CT.of [some (.ref a), some (.int key), none, none, none] rfl (Nat.le_of_ble_eq_true rfl) pl_X5 trivial ?_
  refine px_iconst (v := 0) dX5_targetsFailingBy_0 (by decide) ?_
  refine px_istore2 rfl dX5_targetsFailingBy_1 ?_
  refine px_iconst (v := 0) dX5_targetsFailingBy_2 (by decide) ?_
  refine px_istore3 rfl dX5_targetsFailingBy_3 ?_
  exact l_X5_targetsFailingBy_4 (by omega) hW 16 0 0 none (by omega)

theorem l_X5_targetsTracing_4 {d : Nat} (hd : 4 ≤ d) (hW : IsW f a A) {key : Int32} : ∀ (k i : Nat) (x : Int32) (z : Option Value), i + k = 16 → EX B D d mX5_targetsTracing 4 [some (.ref a), some (.int key), some (.int x), some (.int (nI i)), z] [] (n, w, f) (some (.int (bitsF (fun t => aTraces A key (8 + t)) k i x))) (n, w, f) := by
  intro k
  induction k with
  | zero =>
    intro i x z hi
    refine px_iload_n dX5_targetsTracing_4 rfl ?_
    refine px_bipush (v := 16) dX5_targetsTracing_5 (by decide) ?_
    refine px_icmp_ge (tgt := 44) dX5_targetsTracing_7 (by decide) (fun hc7 => ?_) (fun hc7 => ?_)
    · refine px_iload_n dX5_targetsTracing_44 rfl ?_
      exact px_reti dX5_targetsTracing_45 (by rfl) (by rfl)
    · exact absurd (nI_le (a := 16) (b := i) (by omega) (by omega)) hc7
  | succ k ih =>
    intro i x z hi
    obtain ⟨tg, htg, htt⟩ := hW.2.2.1
    obtain ⟨c, q, l, sg, fg, tk, tp, h1, h2, h3, h4, h5, h6⟩ := hW.2.2.2.2.2 i (by omega)
    cases hr : A.tr (8 + i) with
    | none =>
      rw [hr] at h6
      refine px_iload_n dX5_targetsTracing_4 rfl ?_
      refine px_bipush (v := 16) dX5_targetsTracing_5 (by decide) ?_
      refine px_icmp_ge (tgt := 44) dX5_targetsTracing_7 (by decide) (fun hc7 => ?_) (fun hc7 => ?_)
      · exact absurd hc7 (nI_ge (a := i) (b := 16) (by omega) (by omega))
      · refine px_aload_n dX5_targetsTracing_10 rfl ?_
        refine px_getfield fl_X5_19 dX5_targetsTracing_11 (by first | exact hW.1 | exact htg | exact h1.1) (by rfl) ?_
        refine px_iload_n dX5_targetsTracing_14 rfl ?_
        refine px_aaload rfl dX5_targetsTracing_15 (by first | exact hW.1 | exact htg | exact h1.1) (by decide) (by exact ixn (by omega) (by omega)) ?_
        rw [nI_clamp (by omega), htt i (by omega)]
        refine px_astore4 rfl dX5_targetsTracing_16 ?_
        refine px_aload dX5_targetsTracing_18 rfl ?_
        refine px_ifnull_f dX5_targetsTracing_20 ?_
        refine px_aload dX5_targetsTracing_23 rfl ?_
        refine px_iload_n dX5_targetsTracing_25 rfl ?_
        refine px_callV1 (ν := mX4_traces) (ci := 4) rfl rfl lk_X5_85 in_X4_traces se_X4_traces mok_X4_traces dX5_targetsTracing_26 (c_X4_traces_none h1 h6 key) (by first | exact hW.1 | exact htg | exact h1.1) rfl rfl (by omega) (by simp) ?_
        refine px_ifb_eq (tgt := 38) dX5_targetsTracing_29 (by decide) (fun hc29 => ?_) (fun hc29 => ?_)
        · refine px_iinc3 rfl (nI_inc i) dX5_targetsTracing_38 ?_
          refine px_goto (tgt := 4) dX5_targetsTracing_41 (by decide) ?_
          rw [bitsF]
          simp only [aTraces, hr, if_true, Bool.false_eq_true, if_false, Bool.not_true, Bool.not_false, Bool.and_true, Bool.and_false, Bool.true_and, Bool.false_and]
          exact ih (i + 1) _ _ (by omega)
        · cases hc29
    | some T =>
      rw [hr] at h6
      have hany := anyN_list (fun x : Nat × List Q4 => decide (nI x.1 = key)) (fun j => decide (tk j = key)) T (fun i x hx => by rw [(h6.2.2 i x hx).2.1])
      refine px_iload_n dX5_targetsTracing_4 rfl ?_
      refine px_bipush (v := 16) dX5_targetsTracing_5 (by decide) ?_
      refine px_icmp_ge (tgt := 44) dX5_targetsTracing_7 (by decide) (fun hc7 => ?_) (fun hc7 => ?_)
      · exact absurd hc7 (nI_ge (a := i) (b := 16) (by omega) (by omega))
      · refine px_aload_n dX5_targetsTracing_10 rfl ?_
        refine px_getfield fl_X5_19 dX5_targetsTracing_11 (by first | exact hW.1 | exact htg | exact h1.1) (by rfl) ?_
        refine px_iload_n dX5_targetsTracing_14 rfl ?_
        refine px_aaload rfl dX5_targetsTracing_15 (by first | exact hW.1 | exact htg | exact h1.1) (by decide) (by exact ixn (by omega) (by omega)) ?_
        rw [nI_clamp (by omega), htt i (by omega)]
        refine px_astore4 rfl dX5_targetsTracing_16 ?_
        refine px_aload dX5_targetsTracing_18 rfl ?_
        refine px_ifnull_f dX5_targetsTracing_20 ?_
        refine px_aload dX5_targetsTracing_23 rfl ?_
        refine px_iload_n dX5_targetsTracing_25 rfl ?_
        refine px_callV1 (ν := mX4_traces) (ci := 4) rfl rfl lk_X5_85 in_X4_traces se_X4_traces mok_X4_traces dX5_targetsTracing_26 (c_X4_traces h1 h6.1 h6.2.1 key) (by first | exact hW.1 | exact htg | exact h1.1) rfl rfl (by omega) (by simp) ?_
        rw [hany]
        refine px_ifb_eq (tgt := 38) dX5_targetsTracing_29 (by decide) (fun hc29 => ?_) (fun hc29 => ?_)
        · refine px_iinc3 rfl (nI_inc i) dX5_targetsTracing_38 ?_
          refine px_goto (tgt := 4) dX5_targetsTracing_41 (by decide) ?_
          rw [bitsF]
          simp only [aTraces, hr, hc29, if_true, Bool.false_eq_true, if_false, Bool.not_true, Bool.not_false, Bool.and_true, Bool.and_false, Bool.true_and, Bool.false_and]
          exact ih (i + 1) _ _ (by omega)
        · refine px_iload_n dX5_targetsTracing_32 rfl ?_
          refine px_iconst (v := 1) dX5_targetsTracing_33 (by decide) ?_
          refine px_iload_n dX5_targetsTracing_34 rfl ?_
          refine px_ishl dX5_targetsTracing_35 ?_
          refine px_ior dX5_targetsTracing_36 ?_
          refine px_istore2 rfl dX5_targetsTracing_37 ?_
          refine px_iinc3 rfl (nI_inc i) dX5_targetsTracing_38 ?_
          refine px_goto (tgt := 4) dX5_targetsTracing_41 (by decide) ?_
          rw [bitsF]
          simp only [aTraces, hr, hc29, if_true, Bool.false_eq_true, if_false, Bool.not_true, Bool.not_false, Bool.and_true, Bool.and_false, Bool.true_and, Bool.false_and]
          exact ih (i + 1) _ _ (by omega)
theorem c_X5_targetsTracing (hW : IsW f a A) (key : Int32) : CT B D 4 mX5_targetsTracing [.ref a, .int key] (n, w, f) (some (.int (bitsF (fun t => aTraces A key (8 + t)) 16 0 0))) (n, w, f) := by
  refine CT.of [some (.ref a), some (.int key), none, none, none] rfl (Nat.le_of_ble_eq_true rfl) pl_X5 trivial ?_
  refine px_iconst (v := 0) dX5_targetsTracing_0 (by decide) ?_
  refine px_istore2 rfl dX5_targetsTracing_1 ?_
  refine px_iconst (v := 0) dX5_targetsTracing_2 (by decide) ?_
  refine px_istore3 rfl dX5_targetsTracing_3 ?_
  exact l_X5_targetsTracing_4 (by omega) hW 16 0 0 none (by omega)

theorem l_X5_ruleCount_4 {d : Nat} (hd : 4 ≤ d) (hW : IsW f a A) : ∀ (k i : Nat) (x : Int32) (z : Option Value), i + k = 16 → EX B D d mX5_ruleCount 4 [some (.ref a), some (.int x), some (.int (nI i)), z] [] (n, w, f) (some (.int (cntF (fun t => !(A.ru (8 + t)).isEmpty) k i x))) (n, w, f) := by
  intro k
  induction k with
  | zero =>
    intro i x z hi
    refine px_iload_n dX5_ruleCount_4 rfl ?_
    refine px_bipush (v := 16) dX5_ruleCount_5 (by decide) ?_
    refine px_icmp_ge (tgt := 37) dX5_ruleCount_7 (by decide) (fun hc7 => ?_) (fun hc7 => ?_)
    · refine px_iload_n dX5_ruleCount_37 rfl ?_
      exact px_reti dX5_ruleCount_38 (by rfl) (by rfl)
    · exact absurd (nI_le (a := 16) (b := i) (by omega) (by omega)) hc7
  | succ k ih =>
    intro i x z hi
    obtain ⟨tg, htg, htt⟩ := hW.2.2.1
    obtain ⟨c, q, l, sg, fg, tk, tp, h1, h2, h3, h4, h5, h6⟩ := hW.2.2.2.2.2 i (by omega)
    have hpos : (nI (A.ru (8 + i)).length ≤ 0) = ((A.ru (8 + i)).isEmpty = true) := propext ((nI_leI (a := (A.ru (8 + i)).length) (b := 0) (by omega) (by omega)).trans (by rw [List.isEmpty_iff_length_eq_zero]; omega))
    subst h3
    refine px_iload_n dX5_ruleCount_4 rfl ?_
    refine px_bipush (v := 16) dX5_ruleCount_5 (by decide) ?_
    refine px_icmp_ge (tgt := 37) dX5_ruleCount_7 (by decide) (fun hc7 => ?_) (fun hc7 => ?_)
    · exact absurd hc7 (nI_ge (a := i) (b := 16) (by omega) (by omega))
    · refine px_aload_n dX5_ruleCount_10 rfl ?_
      refine px_getfield fl_X5_19 dX5_ruleCount_11 (by first | exact hW.1 | exact htg | exact h1.1) (by rfl) ?_
      refine px_iload_n dX5_ruleCount_14 rfl ?_
      refine px_aaload rfl dX5_ruleCount_15 (by first | exact hW.1 | exact htg | exact h1.1) (by decide) (by exact ixn (by omega) (by omega)) ?_
      rw [nI_clamp (by omega), htt i (by omega)]
      refine px_astore3 rfl dX5_ruleCount_16 ?_
      refine px_aload_n dX5_ruleCount_17 rfl ?_
      refine px_ifnull_f dX5_ruleCount_18 ?_
      refine px_aload_n dX5_ruleCount_21 rfl ?_
      refine px_getfield fl_X5_131 dX5_ruleCount_22 (by first | exact hW.1 | exact htg | exact h1.1) (by rfl) ?_
      refine px_if_le (tgt := 31) dX5_ruleCount_25 (by decide) (fun hc25 => ?_) (fun hc25 => ?_)
      · refine px_iinc2 rfl (nI_inc i) dX5_ruleCount_31 ?_
        refine px_goto (tgt := 4) dX5_ruleCount_34 (by decide) ?_
        rw [hpos] at hc25
        rw [cntF]
        simp only [hc25, if_true, Bool.false_eq_true, if_false, Bool.not_true, Bool.not_false, Bool.and_true, Bool.and_false, Bool.true_and, Bool.false_and]
        exact ih (i + 1) _ _ (by omega)
      · refine px_iinc1 rfl rfl dX5_ruleCount_28 ?_
        refine px_iinc2 rfl (nI_inc i) dX5_ruleCount_31 ?_
        refine px_goto (tgt := 4) dX5_ruleCount_34 (by decide) ?_
        rw [hpos] at hc25
        rw [cntF]
        simp only [hc25, if_true, Bool.false_eq_true, if_false, Bool.not_true, Bool.not_false, Bool.and_true, Bool.and_false, Bool.true_and, Bool.false_and]
        exact ih (i + 1) _ _ (by omega)
theorem c_X5_ruleCount (hW : IsW f a A) : CT B D 4 mX5_ruleCount [.ref a] (n, w, f) (some (.int (cntF (fun t => !(A.ru (8 + t)).isEmpty) 16 0 0))) (n, w, f) := by
  refine CT.of [some (.ref a), none, none, none] rfl (Nat.le_of_ble_eq_true rfl) pl_X5 trivial ?_
  refine px_iconst (v := 0) dX5_ruleCount_0 (by decide) ?_
  refine px_istore1 rfl dX5_ruleCount_1 ?_
  refine px_iconst (v := 0) dX5_ruleCount_2 (by decide) ?_
  refine px_istore2 rfl dX5_ruleCount_3 ?_
  exact l_X5_ruleCount_4 (by omega) hW 16 0 0 none (by omega)

theorem tl_ne {l : Int32} {tr : Option (List (Nat × List Q4))} {tk : Nat → Int32} {tp : Nat → Option Nat} (h6 : match tr with
      | none => l = -1
      | some T => T.length ≤ 12 ∧ l = nI T.length ∧ ∀ (i : Nat) (x : Nat × List Q4), T[i]? = some x → x.1 < 24 ∧ tk i = nI x.1 ∧ ∃ p : Nat, tp i = some p ∧ ch f x.2 (some p)) : (!decide (l = -1)) = tr.isSome := by
  cases tr with
  | none => simp [h6]
  | some T =>
    obtain ⟨g1, g2, -⟩ := h6
    have : ¬ l = -1 := by
      rw [g2]
      intro e
      have := congrArg Int32.toInt e
      rw [nI_toInt (by omega)] at this
      have h0 : (-1 : Int32).toInt = -1 := rfl
      omega
    simp [this]
theorem l_X5_traceCount_4 {d : Nat} (hd : 4 ≤ d) (hW : IsW f a A) : ∀ (k i : Nat) (x : Int32) (z : Option Value), i + k = 16 → EX B D d mX5_traceCount 4 [some (.ref a), some (.int x), some (.int (nI i)), z] [] (n, w, f) (some (.int (cntF (fun t => (A.tr (8 + t)).isSome) k i x))) (n, w, f) := by
  intro k
  induction k with
  | zero =>
    intro i x z hi
    refine px_iload_n dX5_traceCount_4 rfl ?_
    refine px_bipush (v := 16) dX5_traceCount_5 (by decide) ?_
    refine px_icmp_ge (tgt := 37) dX5_traceCount_7 (by decide) (fun hc7 => ?_) (fun hc7 => ?_)
    · refine px_iload_n dX5_traceCount_37 rfl ?_
      exact px_reti dX5_traceCount_38 (by rfl) (by rfl)
    · exact absurd (nI_le (a := 16) (b := i) (by omega) (by omega)) hc7
  | succ k ih =>
    intro i x z hi
    obtain ⟨tg, htg, htt⟩ := hW.2.2.1
    obtain ⟨c, q, l, sg, fg, tk, tp, h1, h2, h3, h4, h5, h6⟩ := hW.2.2.2.2.2 i (by omega)
    have hne := tl_ne h6
    refine px_iload_n dX5_traceCount_4 rfl ?_
    refine px_bipush (v := 16) dX5_traceCount_5 (by decide) ?_
    refine px_icmp_ge (tgt := 37) dX5_traceCount_7 (by decide) (fun hc7 => ?_) (fun hc7 => ?_)
    · exact absurd hc7 (nI_ge (a := i) (b := 16) (by omega) (by omega))
    · refine px_aload_n dX5_traceCount_10 rfl ?_
      refine px_getfield fl_X5_19 dX5_traceCount_11 (by first | exact hW.1 | exact htg | exact h1.1) (by rfl) ?_
      refine px_iload_n dX5_traceCount_14 rfl ?_
      refine px_aaload rfl dX5_traceCount_15 (by first | exact hW.1 | exact htg | exact h1.1) (by decide) (by exact ixn (by omega) (by omega)) ?_
      rw [nI_clamp (by omega), htt i (by omega)]
      refine px_astore3 rfl dX5_traceCount_16 ?_
      refine px_aload_n dX5_traceCount_17 rfl ?_
      refine px_ifnull_f dX5_traceCount_18 ?_
      refine px_aload_n dX5_traceCount_21 rfl ?_
      refine px_callV1 (ν := mX4_hasTrace) (ci := 4) rfl rfl lk_X5_92 in_X4_hasTrace se_X4_hasTrace mok_X4_hasTrace dX5_traceCount_22 (c_X4_hasTrace h1) (by first | exact hW.1 | exact htg | exact h1.1) rfl rfl (by omega) (by simp) ?_
      rw [hne]
      refine px_ifb_eq (tgt := 31) dX5_traceCount_25 (by decide) (fun hc25 => ?_) (fun hc25 => ?_)
      · refine px_iinc2 rfl (nI_inc i) dX5_traceCount_31 ?_
        refine px_goto (tgt := 4) dX5_traceCount_34 (by decide) ?_
        rw [cntF]
        simp only [hc25, if_true, Bool.false_eq_true, if_false, Bool.not_true, Bool.not_false, Bool.and_true, Bool.and_false, Bool.true_and, Bool.false_and]
        exact ih (i + 1) _ _ (by omega)
      · refine px_iinc1 rfl rfl dX5_traceCount_28 ?_
        refine px_iinc2 rfl (nI_inc i) dX5_traceCount_31 ?_
        refine px_goto (tgt := 4) dX5_traceCount_34 (by decide) ?_
        rw [cntF]
        simp only [hc25, if_true, Bool.false_eq_true, if_false, Bool.not_true, Bool.not_false, Bool.and_true, Bool.and_false, Bool.true_and, Bool.false_and]
        exact ih (i + 1) _ _ (by omega)
theorem c_X5_traceCount (hW : IsW f a A) : CT B D 4 mX5_traceCount [.ref a] (n, w, f) (some (.int (cntF (fun t => (A.tr (8 + t)).isSome) 16 0 0))) (n, w, f) := by
  refine CT.of [some (.ref a), none, none, none] rfl (Nat.le_of_ble_eq_true rfl) pl_X5 trivial ?_
  refine px_iconst (v := 0) dX5_traceCount_0 (by decide) ?_
  refine px_istore1 rfl dX5_traceCount_1 ?_
  refine px_iconst (v := 0) dX5_traceCount_2 (by decide) ?_
  refine px_istore2 rfl dX5_traceCount_3 ?_
  exact l_X5_traceCount_4 (by omega) hW 16 0 0 none (by omega)

theorem l_X5_hasSameBelow_3 {d : Nat} (hd : 4 ≤ d) (hW : IsW f a A) {k : Nat} (hk : k < 24) : ∀ (j i : Nat), i + j = k → 8 ≤ i → EX B D d mX5_hasSameBelow 3 [some (.ref a), some (.int (nI k)), some (.int (nI i))] [] (n, w, f) (some (.int (bi (anyN j (fun z => oSame (aHas A (i + z)) (aHas A k)))))) (n, w, f) := by
  intro j
  induction j with
  | zero =>
    intro i hi h8
    refine px_iload_n dX5_hasSameBelow_3 rfl ?_
    refine px_iload_n dX5_hasSameBelow_4 rfl ?_
    refine px_icmp_ge (tgt := 32) dX5_hasSameBelow_5 (by decide) (fun hc5 => ?_) (fun hc5 => ?_)
    · refine px_iconst (v := 0) dX5_hasSameBelow_32 (by decide) ?_
      exact px_reti dX5_hasSameBelow_33 (by rfl) (by rfl)
    · exact absurd (nI_le (by omega) (by omega)) hc5
  | succ j ih =>
    intro i hi h8
    obtain ⟨q1, hq1, hc1⟩ := c_X5_resultOf (B := B) (D := D) (n := n) (w := w) hW (k := i) (by omega)
    obtain ⟨q2, hq2, hc2⟩ := c_X5_resultOf (B := B) (D := D) (n := n) (w := w) hW hk
    refine px_iload_n dX5_hasSameBelow_3 rfl ?_
    refine px_iload_n dX5_hasSameBelow_4 rfl ?_
    refine px_icmp_ge (tgt := 32) dX5_hasSameBelow_5 (by decide) (fun hc5 => ?_) (fun hc5 => ?_)
    · exact absurd hc5 (nI_ge (by omega) (by omega))
    · refine px_aload_n dX5_hasSameBelow_8 rfl ?_
      refine px_iload_n dX5_hasSameBelow_9 rfl ?_
      refine px_callV1 (ν := mX5_resultOf) (ci := 5) rfl rfl lk_X5_67 in_X5_resultOf se_X5_resultOf mok_X5_resultOf dX5_hasSameBelow_10 (hq1) (by exact hW.1) rfl rfl (by omega) (by simp) ?_
      refine px_aload_n dX5_hasSameBelow_13 rfl ?_
      refine px_iload_n dX5_hasSameBelow_14 rfl ?_
      refine px_callV1 (ν := mX5_resultOf) (ci := 5) rfl rfl lk_X5_67 in_X5_resultOf se_X5_resultOf mok_X5_resultOf dX5_hasSameBelow_15 (hq2) (by exact hW.1) rfl rfl (by omega) (by simp) ?_
      refine px_callS1 (ν := mX1_areSame) lk_X5_105 st_X1_areSame mok_X1_areSame dX5_hasSameBelow_18 (c_X1_areSame hc1 hc2) rfl rfl (by omega) (by simp) ?_
      refine px_ifb_eq (tgt := 26) dX5_hasSameBelow_21 (by decide) (fun hc21 => ?_) (fun hc21 => ?_)
      · refine px_iinc2 rfl (nI_inc i) dX5_hasSameBelow_26 ?_
        refine px_goto (tgt := 3) dX5_hasSameBelow_29 (by decide) ?_
        have hz := ih (i + 1) (by omega) (by omega)
        simp only [anyN, Nat.add_zero, hc21, Bool.false_or]
        simp only [show ∀ z, i + 1 + z = i + (z + 1) from fun z => by omega] at hz
        exact hz
      · refine px_iconst (v := 1) dX5_hasSameBelow_24 (by decide) ?_
        exact px_reti dX5_hasSameBelow_25 (by rw [anyN, Nat.add_zero, hc21, Bool.true_or]; rfl) (by rfl)
theorem c_X5_hasSameBelow (hW : IsW f a A) {k : Nat} (hk : k < 24) (h8 : 8 ≤ k) : CT B D 4 mX5_hasSameBelow [.ref a, .int (nI k)] (n, w, f) (some (.int (bi (aSameBelow A k)))) (n, w, f) := by
  refine CT.of [some (.ref a), some (.int (nI k)), none] rfl (Nat.le_of_ble_eq_true rfl) pl_X5 (bi_01 _) ?_
  refine px_bipush (v := 8) dX5_hasSameBelow_0 (by decide) ?_
  refine px_istore2 rfl dX5_hasSameBelow_2 ?_
  exact l_X5_hasSameBelow_3 (by omega) hW hk (k - 8) 8 (by omega) (by omega)

theorem l_X5_unlikeResults_5 {d : Nat} (hd : 5 ≤ d) (hW : IsW f a A) : ∀ (k i : Nat) (x : Int32), i + k = 24 → 8 ≤ i → EX B D d mX5_unlikeResults 5 [some (.ref a), some (.int x), some (.int (nI i))] [] (n, w, f) (some (.int (cntF (fun k => (aHas A k).isSome && !aSameBelow A k) k i x))) (n, w, f) := by
  intro k
  induction k with
  | zero =>
    intro i x hi h8
    refine px_iload_n dX5_unlikeResults_5 rfl ?_
    refine px_bipush (v := 24) dX5_unlikeResults_6 (by decide) ?_
    refine px_icmp_ge (tgt := 36) dX5_unlikeResults_8 (by decide) (fun hc8 => ?_) (fun hc8 => ?_)
    · refine px_iload_n dX5_unlikeResults_36 rfl ?_
      exact px_reti dX5_unlikeResults_37 (by rfl) (by rfl)
    · exact absurd (nI_le (a := 24) (b := i) (by omega) (by omega)) hc8
  | succ k ih =>
    intro i x hi h8
    obtain ⟨q1, hq1, hc1⟩ := c_X5_resultOf (B := B) (D := D) (n := n) (w := w) hW (k := i) (by omega)
    cases hr : aHas A i with
    | none =>
      rw [hr] at hc1
      have hq0 : q1 = none := hc1
      subst hq0
      refine px_iload_n dX5_unlikeResults_5 rfl ?_
      refine px_bipush (v := 24) dX5_unlikeResults_6 (by decide) ?_
      refine px_icmp_ge (tgt := 36) dX5_unlikeResults_8 (by decide) (fun hc8 => ?_) (fun hc8 => ?_)
      · exact absurd hc8 (nI_ge (a := i) (b := 24) (by omega) (by omega))
      · refine px_aload_n dX5_unlikeResults_11 rfl ?_
        refine px_iload_n dX5_unlikeResults_12 rfl ?_
        refine px_callV1 (ν := mX5_resultOf) (ci := 5) rfl rfl lk_X5_67 in_X5_resultOf se_X5_resultOf mok_X5_resultOf dX5_unlikeResults_13 (hq1) (by exact hW.1) rfl rfl (by omega) (by simp) ?_
        refine px_ifnull_t (tgt := 30) dX5_unlikeResults_16 (by decide) ?_
        refine px_iinc2 rfl (nI_inc i) dX5_unlikeResults_30 ?_
        refine px_goto (tgt := 5) dX5_unlikeResults_33 (by decide) ?_
        rw [cntF]
        simp only [hr, Option.isSome_none, Option.isSome_some, if_true, Bool.false_eq_true, if_false, Bool.not_true, Bool.not_false, Bool.and_true, Bool.and_false, Bool.true_and, Bool.false_and]
        exact ih (i + 1) _ (by omega) (by omega)
    | some l =>
      rw [hr] at hc1
      obtain ⟨p, hp, hc2⟩ := hc1
      subst hp
      refine px_iload_n dX5_unlikeResults_5 rfl ?_
      refine px_bipush (v := 24) dX5_unlikeResults_6 (by decide) ?_
      refine px_icmp_ge (tgt := 36) dX5_unlikeResults_8 (by decide) (fun hc8 => ?_) (fun hc8 => ?_)
      · exact absurd hc8 (nI_ge (a := i) (b := 24) (by omega) (by omega))
      · refine px_aload_n dX5_unlikeResults_11 rfl ?_
        refine px_iload_n dX5_unlikeResults_12 rfl ?_
        refine px_callV1 (ν := mX5_resultOf) (ci := 5) rfl rfl lk_X5_67 in_X5_resultOf se_X5_resultOf mok_X5_resultOf dX5_unlikeResults_13 (hq1) (by exact hW.1) rfl rfl (by omega) (by simp) ?_
        refine px_ifnull_f dX5_unlikeResults_16 ?_
        refine px_aload_n dX5_unlikeResults_19 rfl ?_
        refine px_iload_n dX5_unlikeResults_20 rfl ?_
        refine px_callV1 (ν := mX5_hasSameBelow) (ci := 5) rfl rfl lk_X5_128 in_X5_hasSameBelow se_X5_hasSameBelow mok_X5_hasSameBelow dX5_unlikeResults_21 (c_X5_hasSameBelow hW (k := i) (by omega) h8) (by exact hW.1) rfl rfl (by omega) (by simp) ?_
        refine px_ifb_ne (tgt := 30) dX5_unlikeResults_24 (by decide) (fun hc24 => ?_) (fun hc24 => ?_)
        · refine px_iinc2 rfl (nI_inc i) dX5_unlikeResults_30 ?_
          refine px_goto (tgt := 5) dX5_unlikeResults_33 (by decide) ?_
          rw [cntF]
          simp only [hr, hc24, Option.isSome_none, Option.isSome_some, if_true, Bool.false_eq_true, if_false, Bool.not_true, Bool.not_false, Bool.and_true, Bool.and_false, Bool.true_and, Bool.false_and]
          exact ih (i + 1) _ (by omega) (by omega)
        · refine px_iinc1 rfl rfl dX5_unlikeResults_27 ?_
          refine px_iinc2 rfl (nI_inc i) dX5_unlikeResults_30 ?_
          refine px_goto (tgt := 5) dX5_unlikeResults_33 (by decide) ?_
          rw [cntF]
          simp only [hr, hc24, Option.isSome_none, Option.isSome_some, if_true, Bool.false_eq_true, if_false, Bool.not_true, Bool.not_false, Bool.and_true, Bool.and_false, Bool.true_and, Bool.false_and]
          exact ih (i + 1) _ (by omega) (by omega)
theorem c_X5_unlikeResults (hW : IsW f a A) : CT B D 5 mX5_unlikeResults [.ref a] (n, w, f) (some (.int (cntF (fun k => (aHas A k).isSome && !aSameBelow A k) 16 8 0))) (n, w, f) := by
  refine CT.of [some (.ref a), none, none] rfl (Nat.le_of_ble_eq_true rfl) pl_X5 trivial ?_
  refine px_iconst (v := 0) dX5_unlikeResults_0 (by decide) ?_
  refine px_istore1 rfl dX5_unlikeResults_1 ?_
  refine px_bipush (v := 8) dX5_unlikeResults_2 (by decide) ?_
  refine px_istore2 rfl dX5_unlikeResults_4 ?_
  exact l_X5_unlikeResults_5 (by omega) hW 16 8 0 (by omega) (by omega)

theorem l_X5_isUpToDate_15 {d : Nat} (hd : 4 ≤ d) (hW : IsW f a A) {b : Nat} {c l : Int32} {q : Option Nat} {sg fg tk : Nat → Int32} {tp : Nat → Option Nat} {T : List (Nat × List Q4)} (h1 : IsT f b c q l sg fg tk tp) (h6 : T.length ≤ 12 ∧ l = nI T.length ∧ ∀ (i : Nat) (x : Nat × List Q4), T[i]? = some x → x.1 < 24 ∧ tk i = nI x.1 ∧ ∃ p : Nat, tp i = some p ∧ ch f x.2 (some p)) : ∀ (U : List (Nat × List Q4)) (i : Nat), i ≤ T.length → T.drop i = U → EX B D d mX5_isUpToDate 15 [some (.ref a), some (.ref b), some (.int (nI i))] [] (n, w, f) (some (.int (bi (U.all (fun x => oSame (aHas A x.1) (some x.2)))))) (n, w, f) := by
  obtain ⟨hT, hl, hx⟩ := h6
  have hl12 : l.toInt ≤ 12 := by rw [hl, nI_toInt (by omega)]; omega
  intro U
  induction U with
  | nil =>
    intro i hi hU
    have hi2 : T.length ≤ i := by have := congrArg List.length hU; rw [List.length_drop] at this; simp at this; omega
    have hi3 : i = T.length := by omega
    subst hi3 hl
    refine px_iload_n dX5_isUpToDate_15 rfl ?_
    refine px_aload_n dX5_isUpToDate_16 rfl ?_
    refine px_getfield fl_X5_95 dX5_isUpToDate_17 (by exact h1.1) (by rfl) ?_
    refine px_icmp_ge (tgt := 51) dX5_isUpToDate_20 (by decide) (fun hc20 => ?_) (fun hc20 => ?_)
    · refine px_iconst (v := 1) dX5_isUpToDate_51 (by decide) ?_
      exact px_reti dX5_isUpToDate_52 (by rfl) (by rfl)
    · exact absurd (nI_le (Nat.le_refl _) (by omega)) hc20
  | cons x U ih =>
    intro i hi hU
    have hx0 : T[i]? = some x := by rw [← List.head?_drop, hU]; rfl
    have hilt : i < T.length := (List.getElem?_eq_some_iff.mp hx0).1
    have hU2 : T.drop (i + 1) = U := by rw [← List.tail_drop, hU]; rfl
    obtain ⟨g1, g2, p, g3, g4⟩ := hx i x hx0
    obtain ⟨q1, hq1, hc1⟩ := c_X5_resultOf (B := B) (D := D) (n := n) (w := w) hW g1
    have hq0 : ¬ (nI i < 0 ∨ l ≤ nI i) := by rw [hl]; rintro (z | z); exact nI_pos (by omega) z; exact nI_ge (by omega) (by omega) z
    refine px_iload_n dX5_isUpToDate_15 rfl ?_
    refine px_aload_n dX5_isUpToDate_16 rfl ?_
    refine px_getfield fl_X5_95 dX5_isUpToDate_17 (by first | exact h1.1 | exact hW.1) (by rfl) ?_
    refine px_icmp_ge (tgt := 51) dX5_isUpToDate_20 (by decide) (fun hc20 => ?_) (fun hc20 => ?_)
    · exact absurd hc20 (by rw [hl]; exact nI_ge (by omega) (by omega))
    · refine px_aload_n dX5_isUpToDate_23 rfl ?_
      refine px_aload_n dX5_isUpToDate_24 rfl ?_
      refine px_iload_n dX5_isUpToDate_25 rfl ?_
      refine px_callV1 (ν := mX4_tracedKey) (ci := 4) rfl rfl lk_X5_98 in_X4_tracedKey se_X4_tracedKey mok_X4_tracedKey dX5_isUpToDate_26 (c_X4_tracedKey h1 hl12 (nI i)) (by first | exact h1.1 | exact hW.1) rfl rfl (by omega) (by simp) ?_
      rw [if_neg hq0, nI_clamp (by omega), g2]
      refine px_callV1 (ν := mX5_resultOf) (ci := 5) rfl rfl lk_X5_67 in_X5_resultOf se_X5_resultOf mok_X5_resultOf dX5_isUpToDate_29 (hq1) (by first | exact h1.1 | exact hW.1) rfl rfl (by omega) (by simp) ?_
      refine px_aload_n dX5_isUpToDate_32 rfl ?_
      refine px_iload_n dX5_isUpToDate_33 rfl ?_
      refine px_callV1 (ν := mX4_tracedResult) (ci := 4) rfl rfl lk_X5_102 in_X4_tracedResult se_X4_tracedResult mok_X4_tracedResult dX5_isUpToDate_34 (c_X4_tracedResult h1 hl12 (nI i)) (by first | exact h1.1 | exact hW.1) rfl rfl (by omega) (by simp) ?_
      rw [if_neg hq0, nI_clamp (by omega), g3]
      refine px_callS1 (ν := mX1_areSame) lk_X5_105 st_X1_areSame mok_X1_areSame dX5_isUpToDate_37 (c_X1_areSame hc1 (r2 := some x.2) ⟨p, rfl, g4⟩) rfl rfl (by omega) (by simp) ?_
      refine px_ifb_ne (tgt := 45) dX5_isUpToDate_40 (by decide) (fun hc40 => ?_) (fun hc40 => ?_)
      · refine px_iinc2 rfl (nI_inc i) dX5_isUpToDate_45 ?_
        refine px_goto (tgt := 15) dX5_isUpToDate_48 (by decide) ?_
        rw [List.all_cons, hc40, Bool.true_and]
        exact ih (i + 1) (by omega) hU2
      · refine px_iconst (v := 0) dX5_isUpToDate_43 (by decide) ?_
        exact px_reti dX5_isUpToDate_44 (by rw [List.all_cons, hc40, Bool.false_and]; rfl) (by rfl)
theorem c_X5_isUpToDate (hW : IsW f a A) {t : Nat} (ht : t < 16) : CT B D 4 mX5_isUpToDate [.ref a, .ref (a + 5 + 5 * t)] (n, w, f) (some (.int (bi (aFresh A (8 + t))))) (n, w, f) := by
  obtain ⟨c, q, l, sg, fg, tk, tp, h1, h2, h3, h4, h5, h6⟩ := hW.2.2.2.2.2 t ht
  have hne := tl_ne h6
  cases hr : A.tr (8 + t) with
  | none =>
    rw [hr] at h6 hne
    refine CT.of [some (.ref a), some (.ref (a + 5 + 5 * t)), none] rfl (Nat.le_of_ble_eq_true rfl) pl_X5 (bi_01 _) ?_
    refine px_aload_n dX5_isUpToDate_0 rfl ?_
    refine px_ifnull_f dX5_isUpToDate_1 ?_
    refine px_aload_n dX5_isUpToDate_4 rfl ?_
    refine px_callV1 (ν := mX4_hasTrace) (ci := 4) rfl rfl lk_X5_92 in_X4_hasTrace se_X4_hasTrace mok_X4_hasTrace dX5_isUpToDate_5 (c_X4_hasTrace h1) (by exact h1.1) rfl rfl (by omega) (by simp) ?_
    rw [hne]
    refine px_ifb_ne (tgt := 13) dX5_isUpToDate_8 (by decide) (fun hc8 => ?_) (fun hc8 => ?_)
    · cases hc8
    · refine px_iconst (v := 0) dX5_isUpToDate_11 (by decide) ?_
      exact px_reti dX5_isUpToDate_12 (by rw [aFresh, hr]; rfl) (by rfl)
  | some T =>
    rw [hr] at h6 hne
    refine CT.of [some (.ref a), some (.ref (a + 5 + 5 * t)), none] rfl (Nat.le_of_ble_eq_true rfl) pl_X5 (bi_01 _) ?_
    refine px_aload_n dX5_isUpToDate_0 rfl ?_
    refine px_ifnull_f dX5_isUpToDate_1 ?_
    refine px_aload_n dX5_isUpToDate_4 rfl ?_
    refine px_callV1 (ν := mX4_hasTrace) (ci := 4) rfl rfl lk_X5_92 in_X4_hasTrace se_X4_hasTrace mok_X4_hasTrace dX5_isUpToDate_5 (c_X4_hasTrace h1) (by exact h1.1) rfl rfl (by omega) (by simp) ?_
    rw [hne]
    refine px_ifb_ne (tgt := 13) dX5_isUpToDate_8 (by decide) (fun hc8 => ?_) (fun hc8 => ?_)
    · refine px_iconst (v := 0) dX5_isUpToDate_13 (by decide) ?_
      refine px_istore2 rfl dX5_isUpToDate_14 ?_
      rw [show aFresh A (8 + t) = T.all (fun x => oSame (aHas A x.1) (some x.2)) by rw [aFresh, hr]]
      exact l_X5_isUpToDate_15 (by omega) hW h1 h6 T 0 (by omega) rfl
    · cases hc8
theorem l_X5_targetsUpToDate_4 {d : Nat} (hd : 5 ≤ d) (hW : IsW f a A) : ∀ (k i : Nat) (x : Int32), i + k = 16 → EX B D d mX5_targetsUpToDate 4 [some (.ref a), some (.int x), some (.int (nI i))] [] (n, w, f) (some (.int (bitsF (fun t => aFresh A (8 + t)) k i x))) (n, w, f) := by
  intro k
  induction k with
  | zero =>
    intro i x hi
    refine px_iload_n dX5_targetsUpToDate_4 rfl ?_
    refine px_bipush (v := 16) dX5_targetsUpToDate_5 (by decide) ?_
    refine px_icmp_ge (tgt := 35) dX5_targetsUpToDate_7 (by decide) (fun hc7 => ?_) (fun hc7 => ?_)
    · refine px_iload_n dX5_targetsUpToDate_35 rfl ?_
      exact px_reti dX5_targetsUpToDate_36 (by rfl) (by rfl)
    · exact absurd (nI_le (a := 16) (b := i) (by omega) (by omega)) hc7
  | succ k ih =>
    intro i x hi
    obtain ⟨tg, htg, htt⟩ := hW.2.2.1
    refine px_iload_n dX5_targetsUpToDate_4 rfl ?_
    refine px_bipush (v := 16) dX5_targetsUpToDate_5 (by decide) ?_
    refine px_icmp_ge (tgt := 35) dX5_targetsUpToDate_7 (by decide) (fun hc7 => ?_) (fun hc7 => ?_)
    · exact absurd hc7 (nI_ge (a := i) (b := 16) (by omega) (by omega))
    · refine px_aload_n dX5_targetsUpToDate_10 rfl ?_
      refine px_aload_n dX5_targetsUpToDate_11 rfl ?_
      refine px_getfield fl_X5_19 dX5_targetsUpToDate_12 (by first | exact hW.1 | exact htg) (by rfl) ?_
      refine px_iload_n dX5_targetsUpToDate_15 rfl ?_
      refine px_aaload rfl dX5_targetsUpToDate_16 (by first | exact hW.1 | exact htg) (by decide) (by exact ixn (by omega) (by omega)) ?_
      rw [nI_clamp (by omega), htt i (by omega)]
      refine px_callV1 (ν := mX5_isUpToDate) (ci := 5) rfl rfl lk_X5_88 in_X5_isUpToDate se_X5_isUpToDate mok_X5_isUpToDate dX5_targetsUpToDate_17 (c_X5_isUpToDate hW (t := i) (by omega)) (by first | exact hW.1 | exact htg) rfl rfl (by omega) (by simp) ?_
      refine px_ifb_eq (tgt := 29) dX5_targetsUpToDate_20 (by decide) (fun hc20 => ?_) (fun hc20 => ?_)
      · refine px_iinc2 rfl (nI_inc i) dX5_targetsUpToDate_29 ?_
        refine px_goto (tgt := 4) dX5_targetsUpToDate_32 (by decide) ?_
        rw [bitsF]
        simp only [hc20, if_true, Bool.false_eq_true, if_false, Bool.not_true, Bool.not_false, Bool.and_true, Bool.and_false, Bool.true_and, Bool.false_and]
        exact ih (i + 1) _ (by omega)
      · refine px_iload_n dX5_targetsUpToDate_23 rfl ?_
        refine px_iconst (v := 1) dX5_targetsUpToDate_24 (by decide) ?_
        refine px_iload_n dX5_targetsUpToDate_25 rfl ?_
        refine px_ishl dX5_targetsUpToDate_26 ?_
        refine px_ior dX5_targetsUpToDate_27 ?_
        refine px_istore1 rfl dX5_targetsUpToDate_28 ?_
        refine px_iinc2 rfl (nI_inc i) dX5_targetsUpToDate_29 ?_
        refine px_goto (tgt := 4) dX5_targetsUpToDate_32 (by decide) ?_
        rw [bitsF]
        simp only [hc20, if_true, Bool.false_eq_true, if_false, Bool.not_true, Bool.not_false, Bool.and_true, Bool.and_false, Bool.true_and, Bool.false_and]
        exact ih (i + 1) _ (by omega)
theorem c_X5_targetsUpToDate (hW : IsW f a A) : CT B D 5 mX5_targetsUpToDate [.ref a] (n, w, f) (some (.int (bitsF (fun t => aFresh A (8 + t)) 16 0 0))) (n, w, f) := by
  refine CT.of [some (.ref a), none, none] rfl (Nat.le_of_ble_eq_true rfl) pl_X5 trivial ?_
  refine px_iconst (v := 0) dX5_targetsUpToDate_0 (by decide) ?_
  refine px_istore1 rfl dX5_targetsUpToDate_1 ?_
  refine px_iconst (v := 0) dX5_targetsUpToDate_2 (by decide) ?_
  refine px_istore2 rfl dX5_targetsUpToDate_3 ?_
  exact l_X5_targetsUpToDate_4 (by omega) hW 16 0 0 (by omega)

end M15
