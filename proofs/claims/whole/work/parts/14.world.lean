/-! World, told without addresses: contents, rules, results, traces by KEYS -/
abbrev AW : Type := (Nat → Option Int32) × (Nat → List (Int32 × Nat)) × (Nat → Option (List Q4)) × (Nat → Option (List (Nat × List Q4)))
abbrev AW.inn (A : AW) : Nat → Option Int32 := A.1
abbrev AW.ru (A : AW) : Nat → List (Int32 × Nat) := A.2.1
abbrev AW.rs (A : AW) : Nat → Option (List Q4) := A.2.2.1
abbrev AW.tr (A : AW) : Nat → Option (List (Nat × List Q4)) := A.2.2.2
def numR (c : Int32) : List Q4 := [(c, -1, 0, -1)]
def emR (k : Nat) : List Q4 := [(0, nI k, 6, -1)]
def aHas (A : AW) (k : Nat) : Option (List Q4) := if k < 8 then some (match A.inn k with | some c => numR c | none => emR k) else A.rs k
def isF (l : List Q4) : Bool := match l with
  | (_, _, s, _) :: _ => !decide (s = 0)
  | [] => false
def aFail (A : AW) (k : Nat) : Option (List Q4) := match aHas A k with
  | some l => if isF l = true then some l else none
  | none => none
def toldL (l : List Q4) : Int32 := match l with
  | (c, _, s, _) :: _ => if s = 0 then c else 10000000 + s
  | [] => 0
def toldO (r : Option (List Q4)) : Int32 := match r with
  | some l => toldL l
  | none => 10000000
/-- what a row of references holds are Results -/
def isRP (f : Nat → Option va_E) (tp : Nat → Option Nat) : Prop := ∀ (j p : Nat), tp j = some p → ∃ fs : List Value, f p = some (.inr (1, fs))
theorem isRP.keep {f g : Nat → Option va_E} {tp : Nat → Option Nat} (h : isRP f tp) (hk : keeps f g) : isRP g tp := fun j p e => by obtain ⟨fs, h1⟩ := h j p e; exact ⟨fs, hk _ _ h1⟩
def IsTA (f : Nat → Option va_E) (a : Nat) (ru : List (Int32 × Nat)) (rs : Option (List Q4)) (tr : Option (List (Nat × List Q4))) : Prop :=
  ∃ (c : Int32) (q : Option Nat) (l : Int32) (sg fg tk : Nat → Int32) (tp : Nat → Option Nat), IsT f a c q l sg fg tk tp ∧ ru.length ≤ 12 ∧ c = nI ru.length ∧ (∀ (i : Nat) (x : Int32 × Nat), ru[i]? = some x → sg i = x.1 ∧ fg i = nI x.2) ∧ (chO f q rs ∧ isRP f tp) ∧
    (match tr with
      | none => l = -1
      | some T => T.length ≤ 12 ∧ l = nI T.length ∧ ∀ (i : Nat) (x : Nat × List Q4), T[i]? = some x → x.1 < 24 ∧ tk i = nI x.1 ∧ ∃ p : Nat, tp i = some p ∧ ch f x.2 (some p))
theorem IsTA.ag {f g : Nat → Option va_E} {lo hi n a : Nat} {ru rs tr} (h : IsTA f a ru rs tr) (hg : Ag f g lo hi n) (hn : a + 5 ≤ n) (hr : a + 5 ≤ lo ∨ hi ≤ a) (hk : keeps f g) : IsTA g a ru rs tr := by
  obtain ⟨c, q, l, sg, fg, tk, tp, h1, h2, h3, h4, h5, h6⟩ := h
  refine ⟨c, q, l, sg, fg, tk, tp, h1.ag hg hn hr, h2, h3, h4, ⟨chO_keep hk h5.1, h5.2.keep hk⟩, ?_⟩
  cases tr with
  | none => exact h6
  | some T =>
    refine ⟨h6.1, h6.2.1, fun i x hx => ?_⟩
    obtain ⟨g1, g2, p, g3, g4⟩ := h6.2.2 i x hx
    exact ⟨g1, g2, p, g3, ch_keep hk _ _ g4⟩
def IsW (f : Nat → Option va_E) (w : Nat) (A : AW) : Prop :=
  f w = some (.inr (5, [.ref (w + 1), .ref (w + 2), .ref (w + 3), .ref (w + 4)])) ∧
  (∃ ct : Nat → Option Nat, f (w + 1) = some (.inl (3, 8, .inr (.inr (.inr (.inr ct))))) ∧ ∀ k, k < 8 → chO f (ct k) ((A.inn k).map numR)) ∧
  (∃ tg : Nat → Option Nat, f (w + 2) = some (.inl (4, 16, .inr (.inr (.inr (.inr tg))))) ∧ ∀ t, t < 16 → tg t = some (w + 5 + 5 * t)) ∧
  (∃ em : Nat → Option Nat, f (w + 3) = some (.inl (3, 24, .inr (.inr (.inr (.inr em))))) ∧ ∀ k, k < 24 → ∃ p : Nat, em k = some p ∧ ch f (emR k) (some p)) ∧
  (∃ dp : Nat → Int32, f (w + 4) = some (.inl (0, 24, .inl dp))) ∧
  ∀ t, t < 16 → IsTA f (w + 5 + 5 * t) (A.ru (8 + t)) (A.rs (8 + t)) (A.tr (8 + t))
theorem IsW.ag {f g : Nat → Option va_E} {lo hi n w : Nat} {A : AW} (h : IsW f w A) (hg : Ag f g lo hi n) (hn : w + 85 ≤ n) (hr : w + 85 ≤ lo ∨ hi ≤ w) (hk : keeps f g) : IsW g w A := by
  obtain ⟨h1, ⟨ct, h2, h2'⟩, ⟨tg, h3, h3'⟩, ⟨em, h4, h4'⟩, ⟨dp, h5⟩, h6⟩ := h
  refine ⟨?_, ⟨ct, ?_, fun k hk' => chO_keep hk (h2' k hk')⟩, ⟨tg, ?_, h3'⟩, ⟨em, ?_, fun k hk' => ?_⟩, ⟨dp, ?_⟩, fun t ht => (h6 t ht).ag hg (by omega) (by omega) hk⟩
  · rw [hg _ (by omega) (by omega)]; exact h1
  · rw [hg _ (by omega) (by omega)]; exact h2
  · rw [hg _ (by omega) (by omega)]; exact h3
  · rw [hg _ (by omega) (by omega)]; exact h4
  · obtain ⟨p, g1, g2⟩ := h4' k hk'; exact ⟨p, g1, ch_keep hk _ _ g2⟩
  · rw [hg _ (by omega) (by omega)]; exact h5
theorem inT {k : Int32} : s_isTarget k = true ↔ ∃ t : Nat, t < 16 ∧ k = nI (8 + t) := by
  simp only [s_isTarget, Bool.and_eq_true, Bool.not_eq_true', decide_eq_false_iff_not]
  constructor
  · rintro ⟨h1, h2⟩
    obtain ⟨j, hj, rfl⟩ := nI_of (x := k) (fun h => h1 (by rw [Int32.lt_iff_toInt_lt] at h ⊢; exact Int.lt_trans h (by decide)))
    rw [show ((8 : Int32)) = nI 8 from rfl, nI_ltI (by omega) (by omega)] at h1
    rw [show ((24 : Int32)) = nI 24 from rfl, nI_leI (by omega) (by omega)] at h2
    exact ⟨j - 8, by omega, by rw [show 8 + (j - 8) = j by omega]⟩
  · rintro ⟨t, ht, rfl⟩
    rw [show ((8 : Int32)) = nI 8 from rfl, show ((24 : Int32)) = nI 24 from rfl, nI_ltI (by omega) (by omega), nI_leI (by omega) (by omega)]
    omega
theorem inI {k : Int32} : s_isInput k = true ↔ ∃ t : Nat, t < 8 ∧ k = nI t := by
  simp only [s_isInput, Bool.and_eq_true, Bool.not_eq_true', decide_eq_false_iff_not]
  constructor
  · rintro ⟨h1, h2⟩
    obtain ⟨j, hj, rfl⟩ := nI_of h1
    rw [show ((8 : Int32)) = nI 8 from rfl, nI_leI (by omega) (by omega)] at h2
    exact ⟨j, by omega, rfl⟩
  · rintro ⟨t, ht, rfl⟩
    rw [show ((8 : Int32)) = nI 8 from rfl, nI_leI (by omega) (by omega)]
    exact ⟨nI_pos (by omega), by omega⟩
theorem inK {k : Int32} : s_isKey k = true ↔ ∃ t : Nat, t < 24 ∧ k = nI t := by
  simp only [s_isKey, Bool.and_eq_true, Bool.not_eq_true', decide_eq_false_iff_not]
  constructor
  · rintro ⟨h1, h2⟩
    obtain ⟨j, hj, rfl⟩ := nI_of h1
    rw [show ((24 : Int32)) = nI 24 from rfl, nI_leI (by omega) (by omega)] at h2
    exact ⟨j, by omega, rfl⟩
  · rintro ⟨t, ht, rfl⟩
    rw [show ((24 : Int32)) = nI 24 from rfl, nI_leI (by omega) (by omega)]
    exact ⟨nI_pos (by omega), by omega⟩
theorem inT_t {t : Nat} (h : t < 16) : s_isTarget (nI (8 + t)) = true := inT.mpr ⟨t, h, rfl⟩
theorem inT_i {k : Nat} (h : k < 8) : s_isTarget (nI k) = false := by
  cases hb : s_isTarget (nI k) with
  | false => rfl
  | true =>
    obtain ⟨t, ht, he⟩ := inT.mp hb
    rw [nI_eq (by omega) (by omega)] at he
    omega
theorem inI_i {k : Nat} (h : k < 8) : s_isInput (nI k) = true := inI.mpr ⟨k, h, rfl⟩
theorem inI_t {t : Nat} (h : t < 16) : s_isInput (nI (8 + t)) = false := by
  cases hb : s_isInput (nI (8 + t)) with
  | false => rfl
  | true =>
    obtain ⟨k, hk, he⟩ := inI.mp hb
    rw [nI_eq (by omega) (by omega)] at he
    omega
theorem inK_k {k : Nat} (h : k < 24) : s_isKey (nI k) = true := inK.mpr ⟨k, h, rfl⟩
theorem sub8 {t : Nat} (h : t < 16) : nI (8 + t) - 8 = nI t := by
  rw [show (8 : Int32) = nI 8 from rfl, pk_sub (by omega)]; congr 1; omega
section M14
variable {B : Nat} {D : va_G} {n w : Nat} {f : Nat → Option va_E} {a : Nat} {A : AW}
theorem c_X5_targetOf (hW : IsW f a A) {t : Nat} (ht : t < 16) : CT B D 1 mX5_targetOf [.ref a, .int (nI (8 + t))] (n, w, f) (some (.ref (a + 5 + 5 * t))) (n, w, f) := by
  obtain ⟨tg, htg, htt⟩ := hW.2.2.1
  refine CT.of [some (.ref a), some (.int (nI (8 + t)))] rfl (Nat.le_of_ble_eq_true rfl) pl_X5 trivial ?_
  refine px_iload_n dX5_targetOf_0 rfl ?_
  refine px_callSN1 (ν := mX6_isTarget) lk_X5_35 st_X6_isTarget mok_X6_isTarget dX5_targetOf_1 (c_X6_isTarget _) rfl rfl (by omega) (by simp) ?_
  refine px_ifb_eq (tgt := 19) dX5_targetOf_4 (by decide) (fun hc4 => ?_) (fun hc4 => ?_)
  · rw [inT_t ht] at hc4; cases hc4
  · refine px_aload_n dX5_targetOf_7 rfl ?_
    refine px_getfield fl_X5_19 dX5_targetOf_8 (by first | assumption | exact hW.1) (by rfl) ?_
    refine px_iload_n dX5_targetOf_11 rfl ?_
    refine px_bipush (v := 8) dX5_targetOf_12 (by decide) ?_
    refine px_isub dX5_targetOf_14 ?_
    rw [sub8 ht]
    refine px_aaload rfl dX5_targetOf_15 (by first | assumption | exact hW.1) (by decide) (by exact ixn ht (by omega)) ?_
    rw [nI_clamp (by omega), htt t ht]
    refine px_goto (tgt := 20) dX5_targetOf_16 (by decide) ?_
    exact px_reta dX5_targetOf_20 (by rfl) (by rfl)

theorem c_X5_targetOf_n {key : Int32} (hk : s_isTarget key = false) : CT B D 1 mX5_targetOf [.ref a, .int key] (n, w, f) (some .null) (n, w, f) := by
  refine CT.of [some (.ref a), some (.int key)] rfl (Nat.le_of_ble_eq_true rfl) pl_X5 trivial ?_
  refine px_iload_n dX5_targetOf_0 rfl ?_
  refine px_callSN1 (ν := mX6_isTarget) lk_X5_35 st_X6_isTarget mok_X6_isTarget dX5_targetOf_1 (c_X6_isTarget _) rfl rfl (by omega) (by simp) ?_
  refine px_ifb_eq (tgt := 19) dX5_targetOf_4 (by decide) (fun hc4 => ?_) (fun hc4 => ?_)
  · refine px_null dX5_targetOf_19 ?_
    exact px_reta dX5_targetOf_20 (by rfl) (by rfl)
  · rw [hk] at hc4; cases hc4

theorem c_X5_contentOf (hW : IsW f a A) {k : Nat} (hk : k < 8) : ∃ q, CT B D 1 mX5_contentOf [.ref a, .int (nI k)] (n, w, f) (some (va_rf q)) (n, w, f) ∧ chO f q ((A.inn k).map numR) := by
  obtain ⟨ct, hct, hcc⟩ := hW.2.1
  refine ⟨ct k, ?_, hcc k hk⟩
  refine CT.of [some (.ref a), some (.int (nI k))] rfl (Nat.le_of_ble_eq_true rfl) pl_X5 (rok_rf _ _) ?_
  refine px_iload_n dX5_contentOf_0 rfl ?_
  refine px_callSN1 (ν := mX6_isInput) lk_X5_39 st_X6_isInput mok_X6_isInput dX5_contentOf_1 (c_X6_isInput _) rfl rfl (by omega) (by simp) ?_
  refine px_ifb_eq (tgt := 16) dX5_contentOf_4 (by decide) (fun hc4 => ?_) (fun hc4 => ?_)
  · rw [inI_i hk] at hc4; cases hc4
  · refine px_aload_n dX5_contentOf_7 rfl ?_
    refine px_getfield fl_X5_11 dX5_contentOf_8 (by first | assumption | exact hW.1) (by rfl) ?_
    refine px_iload_n dX5_contentOf_11 rfl ?_
    refine px_aaload rfl dX5_contentOf_12 (by first | assumption | exact hW.1) (by decide) (by exact ixn hk (by omega)) ?_
    refine px_goto (tgt := 17) dX5_contentOf_13 (by decide) ?_
    exact px_reta dX5_contentOf_17 (by rw [nI_clamp (by omega)]) (by rfl)

theorem c_X5_contentOf_n {key : Int32} (hk : s_isInput key = false) : CT B D 1 mX5_contentOf [.ref a, .int key] (n, w, f) (some .null) (n, w, f) := by
  refine CT.of [some (.ref a), some (.int key)] rfl (Nat.le_of_ble_eq_true rfl) pl_X5 trivial ?_
  refine px_iload_n dX5_contentOf_0 rfl ?_
  refine px_callSN1 (ν := mX6_isInput) lk_X5_39 st_X6_isInput mok_X6_isInput dX5_contentOf_1 (c_X6_isInput _) rfl rfl (by omega) (by simp) ?_
  refine px_ifb_eq (tgt := 16) dX5_contentOf_4 (by decide) (fun hc4 => ?_) (fun hc4 => ?_)
  · refine px_null dX5_contentOf_16 ?_
    exact px_reta dX5_contentOf_17 (by rfl) (by rfl)
  · rw [hk] at hc4; cases hc4

theorem c_X5_emptyOf (hW : IsW f a A) {k : Nat} (hk : k < 24) : ∃ p, CT B D 1 mX5_emptyOf [.ref a, .int (nI k)] (n, w, f) (some (.ref p)) (n, w, f) ∧ ch f (emR k) (some p) := by
  obtain ⟨em, hem, hee⟩ := hW.2.2.2.1
  obtain ⟨p, hp1, hp2⟩ := hee k hk
  refine ⟨p, ?_, hp2⟩
  refine CT.of [some (.ref a), some (.int (nI k))] rfl (Nat.le_of_ble_eq_true rfl) pl_X5 trivial ?_
  refine px_iload_n dX5_emptyOf_0 rfl ?_
  refine px_callSN1 (ν := mX6_isKey) lk_X5_53 st_X6_isKey mok_X6_isKey dX5_emptyOf_1 (c_X6_isKey _) rfl rfl (by omega) (by simp) ?_
  refine px_ifb_eq (tgt := 16) dX5_emptyOf_4 (by decide) (fun hc4 => ?_) (fun hc4 => ?_)
  · rw [inK_k hk] at hc4; cases hc4
  · refine px_aload_n dX5_emptyOf_7 rfl ?_
    refine px_getfield fl_X5_23 dX5_emptyOf_8 (by first | assumption | exact hW.1) (by rfl) ?_
    refine px_iload_n dX5_emptyOf_11 rfl ?_
    refine px_aaload rfl dX5_emptyOf_12 (by first | assumption | exact hW.1) (by decide) (by exact ixn hk (by omega)) ?_
    refine px_goto (tgt := 17) dX5_emptyOf_13 (by decide) ?_
    exact px_reta dX5_emptyOf_17 (by rw [nI_clamp (by omega), hp1]; rfl) (by rfl)

theorem c_X5_resultOf_t (hW : IsW f a A) {t : Nat} (ht : t < 16) : ∃ q, CT B D 2 mX5_resultOf [.ref a, .int (nI (8 + t))] (n, w, f) (some (va_rf q)) (n, w, f) ∧ chO f q (A.rs (8 + t)) := by
  obtain ⟨c, q, l, sg, fg, tk, tp, h1, h2, h3, h4, h5, h6⟩ := hW.2.2.2.2.2 t ht
  refine ⟨q, ?_, h5.1⟩
  refine CT.of [some (.ref a), some (.int (nI (8 + t))), none, none] rfl (Nat.le_of_ble_eq_true rfl) pl_X5 (rok_rf _ _) ?_
  refine px_aload_n dX5_resultOf_0 rfl ?_
  refine px_iload_n dX5_resultOf_1 rfl ?_
  refine px_callV1 (ν := mX5_targetOf) (ci := 5) rfl rfl lk_X5_56 in_X5_targetOf se_X5_targetOf mok_X5_targetOf dX5_resultOf_2 (c_X5_targetOf hW ht) (by first | exact hW.1 | exact h1.1) rfl rfl (by omega) (by simp) ?_
  refine px_astore2 rfl dX5_resultOf_5 ?_
  refine px_aload_n dX5_resultOf_6 rfl ?_
  refine px_ifnull_f dX5_resultOf_7 ?_
  refine px_aload_n dX5_resultOf_10 rfl ?_
  refine px_getfield fl_X5_60 dX5_resultOf_11 (by first | exact hW.1 | exact h1.1) (by rfl) ?_
  exact px_reta dX5_resultOf_14 (by rfl) (by rfl)

theorem map_num {x : Option Int32} : (x.map numR = none ↔ x = none) := by cases x <;> simp
theorem c_X5_resultOf_i (hW : IsW f a A) {k : Nat} (hk : k < 8) : ∃ q, CT B D 2 mX5_resultOf [.ref a, .int (nI k)] (n, w, f) (some (va_rf q)) (n, w, f) ∧ chO f q (aHas A k) := by
  obtain ⟨q, hq, hc⟩ := c_X5_contentOf (B := B) (D := D) (n := n) (w := w) hW hk
  obtain ⟨p, hp, he⟩ := c_X5_emptyOf (B := B) (D := D) (n := n) (w := w) hW (show k < 24 by omega)
  unfold aHas
  rw [if_pos hk]
  cases hi : A.inn k with
  | none =>
    rw [hi] at hc
    have hq0 : q = none := hc
    subst hq0
    refine ⟨some p, ?_, p, rfl, he⟩
    refine CT.of [some (.ref a), some (.int (nI k)), none, none] rfl (Nat.le_of_ble_eq_true rfl) pl_X5 (rok_rf _ _) ?_
    refine px_aload_n dX5_resultOf_0 rfl ?_
    refine px_iload_n dX5_resultOf_1 rfl ?_
    refine px_callV1 (ν := mX5_targetOf) (ci := 5) rfl rfl lk_X5_56 in_X5_targetOf se_X5_targetOf mok_X5_targetOf dX5_resultOf_2 (c_X5_targetOf_n (inT_i hk)) (by exact hW.1) rfl rfl (by omega) (by simp) ?_
    refine px_astoreN2 rfl dX5_resultOf_5 ?_
    refine px_aload_nN dX5_resultOf_6 rfl ?_
    refine px_ifnull_t (tgt := 15) dX5_resultOf_7 (by decide) ?_
    refine px_aload_n dX5_resultOf_15 rfl ?_
    refine px_iload_n dX5_resultOf_16 rfl ?_
    refine px_callV1 (ν := mX5_contentOf) (ci := 5) rfl rfl lk_X5_42 in_X5_contentOf se_X5_contentOf mok_X5_contentOf dX5_resultOf_17 (hq) (by exact hW.1) rfl rfl (by omega) (by simp) ?_
    refine px_astoreN3 rfl dX5_resultOf_20 ?_
    refine px_aload_nN dX5_resultOf_21 rfl ?_
    refine px_ifnonnull_f dX5_resultOf_22 ?_
    refine px_aload_n dX5_resultOf_25 rfl ?_
    refine px_iload_n dX5_resultOf_26 rfl ?_
    refine px_callV1 (ν := mX5_emptyOf) (ci := 5) rfl rfl lk_X5_64 in_X5_emptyOf se_X5_emptyOf mok_X5_emptyOf dX5_resultOf_27 (hp) (by exact hW.1) rfl rfl (by omega) (by simp) ?_
    refine px_goto (tgt := 34) dX5_resultOf_30 (by decide) ?_
    exact px_reta dX5_resultOf_34 (by rfl) (by rfl)
  | some c =>
    rw [hi] at hc
    obtain ⟨p', hp', hc'⟩ := hc
    subst hp'
    refine ⟨some p', ?_, p', rfl, hc'⟩
    refine CT.of [some (.ref a), some (.int (nI k)), none, none] rfl (Nat.le_of_ble_eq_true rfl) pl_X5 (rok_rf _ _) ?_
    refine px_aload_n dX5_resultOf_0 rfl ?_
    refine px_iload_n dX5_resultOf_1 rfl ?_
    refine px_callV1 (ν := mX5_targetOf) (ci := 5) rfl rfl lk_X5_56 in_X5_targetOf se_X5_targetOf mok_X5_targetOf dX5_resultOf_2 (c_X5_targetOf_n (inT_i hk)) (by exact hW.1) rfl rfl (by omega) (by simp) ?_
    refine px_astoreN2 rfl dX5_resultOf_5 ?_
    refine px_aload_nN dX5_resultOf_6 rfl ?_
    refine px_ifnull_t (tgt := 15) dX5_resultOf_7 (by decide) ?_
    refine px_aload_n dX5_resultOf_15 rfl ?_
    refine px_iload_n dX5_resultOf_16 rfl ?_
    refine px_callV1 (ν := mX5_contentOf) (ci := 5) rfl rfl lk_X5_42 in_X5_contentOf se_X5_contentOf mok_X5_contentOf dX5_resultOf_17 (hq) (by exact hW.1) rfl rfl (by omega) (by simp) ?_
    refine px_astore3 rfl dX5_resultOf_20 ?_
    refine px_aload_n dX5_resultOf_21 rfl ?_
    refine px_ifnonnull_t (tgt := 33) dX5_resultOf_22 (by decide) ?_
    refine px_aload_n dX5_resultOf_33 rfl ?_
    exact px_reta dX5_resultOf_34 (by rfl) (by rfl)
theorem c_X5_resultOf (hW : IsW f a A) {k : Nat} (hk : k < 24) : ∃ q, CT B D 2 mX5_resultOf [.ref a, .int (nI k)] (n, w, f) (some (va_rf q)) (n, w, f) ∧ chO f q (aHas A k) := by
  by_cases h8 : k < 8
  · exact c_X5_resultOf_i hW h8
  · obtain ⟨q, h1, h2⟩ := c_X5_resultOf_t (B := B) (D := D) (n := n) (w := w) hW (t := k - 8) (by omega)
    rw [show 8 + (k - 8) = k by omega] at h1 h2
    exact ⟨q, h1, by unfold aHas; rw [if_neg h8]; exact h2⟩
theorem isF_ch {c k s t : Int32} {l : List Q4} : isF ((c, k, s, t) :: l) = !decide (s = 0) := rfl
theorem c_X5_failureOf (hW : IsW f a A) {k : Nat} (hk : k < 24) : ∃ q, CT B D 3 mX5_failureOf [.ref a, .int (nI k)] (n, w, f) (some (va_rf q)) (n, w, f) ∧ chO f q (aFail A k) := by
  obtain ⟨q, hq, hc⟩ := c_X5_resultOf (B := B) (D := D) (n := n) (w := w) hW hk
  unfold aFail
  cases hr : aHas A k with
  | none =>
    rw [hr] at hc
    have hq0 : q = none := hc
    subst hq0
    refine ⟨none, ?_, rfl⟩
    refine CT.of [some (.ref a), some (.int (nI k)), none] rfl (Nat.le_of_ble_eq_true rfl) pl_X5 (rok_rf _ _) ?_
    refine px_aload_n dX5_failureOf_0 rfl ?_
    refine px_iload_n dX5_failureOf_1 rfl ?_
    refine px_callV1 (ν := mX5_resultOf) (ci := 5) rfl rfl lk_X5_67 in_X5_resultOf se_X5_resultOf mok_X5_resultOf dX5_failureOf_2 (hq) (by exact hW.1) rfl rfl (by omega) (by simp) ?_
    refine px_astoreN2 rfl dX5_failureOf_5 ?_
    refine px_aload_nN dX5_failureOf_6 rfl ?_
    refine px_ifnull_t (tgt := 21) dX5_failureOf_7 (by decide) ?_
    refine px_null dX5_failureOf_21 ?_
    exact px_reta dX5_failureOf_22 (by rfl) (by rfl)
  | some l =>
    rw [hr] at hc
    obtain ⟨p, hp, hc'⟩ := hc
    subst hp
    cases l with
    | nil => cases hc'
    | cons x l =>
      obtain ⟨c, kk, s, t⟩ := x
      obtain ⟨p0, q', hp0, hcell, hl⟩ := id hc'
      cases hp0
      dsimp only
      rw [isF_ch]
      by_cases hs : s = 0
      · rw [if_neg (by simp [hs])]
        refine ⟨none, ?_, rfl⟩
        refine CT.of [some (.ref a), some (.int (nI k)), none] rfl (Nat.le_of_ble_eq_true rfl) pl_X5 (rok_rf _ _) ?_
        refine px_aload_n dX5_failureOf_0 rfl ?_
        refine px_iload_n dX5_failureOf_1 rfl ?_
        refine px_callV1 (ν := mX5_resultOf) (ci := 5) rfl rfl lk_X5_67 in_X5_resultOf se_X5_resultOf mok_X5_resultOf dX5_failureOf_2 (hq) (by first | exact hW.1 | exact hcell) rfl rfl (by omega) (by simp) ?_
        refine px_astore2 rfl dX5_failureOf_5 ?_
        refine px_aload_n dX5_failureOf_6 rfl ?_
        refine px_ifnull_f dX5_failureOf_7 ?_
        refine px_aload_n dX5_failureOf_10 rfl ?_
        refine px_callV1 (ν := mX1_isFailure) (ci := 1) rfl rfl lk_X5_70 in_X1_isFailure se_X1_isFailure mok_X1_isFailure dX5_failureOf_11 (c_X1_isFailure hcell) (by first | exact hW.1 | exact hcell) rfl rfl (by omega) (by simp) ?_
        refine px_ifb_eq (tgt := 21) dX5_failureOf_14 (by decide) (fun hc14 => ?_) (fun hc14 => ?_)
        · refine px_null dX5_failureOf_21 ?_
          exact px_reta dX5_failureOf_22 (by rfl) (by rfl)
        · simp [hs] at hc14
      · rw [if_pos (by simp [hs])]
        refine ⟨some p, ?_, p, rfl, hc'⟩
        refine CT.of [some (.ref a), some (.int (nI k)), none] rfl (Nat.le_of_ble_eq_true rfl) pl_X5 (rok_rf _ _) ?_
        refine px_aload_n dX5_failureOf_0 rfl ?_
        refine px_iload_n dX5_failureOf_1 rfl ?_
        refine px_callV1 (ν := mX5_resultOf) (ci := 5) rfl rfl lk_X5_67 in_X5_resultOf se_X5_resultOf mok_X5_resultOf dX5_failureOf_2 (hq) (by first | exact hW.1 | exact hcell) rfl rfl (by omega) (by simp) ?_
        refine px_astore2 rfl dX5_failureOf_5 ?_
        refine px_aload_n dX5_failureOf_6 rfl ?_
        refine px_ifnull_f dX5_failureOf_7 ?_
        refine px_aload_n dX5_failureOf_10 rfl ?_
        refine px_callV1 (ν := mX1_isFailure) (ci := 1) rfl rfl lk_X5_70 in_X1_isFailure se_X1_isFailure mok_X1_isFailure dX5_failureOf_11 (c_X1_isFailure hcell) (by first | exact hW.1 | exact hcell) rfl rfl (by omega) (by simp) ?_
        refine px_ifb_eq (tgt := 21) dX5_failureOf_14 (by decide) (fun hc14 => ?_) (fun hc14 => ?_)
        · simp [hs] at hc14
        · refine px_aload_n dX5_failureOf_17 rfl ?_
          refine px_goto (tgt := 22) dX5_failureOf_18 (by decide) ?_
          exact px_reta dX5_failureOf_22 (by rfl) (by rfl)
theorem c_X5_toldResult (hW : IsW f a A) {k : Nat} (hk : k < 24) : CT B D 3 mX5_toldResult [.ref a, .int (nI k)] (n, w, f) (some (.int (toldO (aHas A k)))) (n, w, f) := by
  obtain ⟨q, hq, hc⟩ := c_X5_resultOf (B := B) (D := D) (n := n) (w := w) hW hk
  cases hr : aHas A k with
  | none =>
    rw [hr] at hc
    have hq0 : q = none := hc
    subst hq0
    refine CT.of [some (.ref a), some (.int (nI k)), none] rfl (Nat.le_of_ble_eq_true rfl) pl_X5 trivial ?_
    refine px_aload_n dX5_toldResult_0 rfl ?_
    refine px_iload_n dX5_toldResult_1 rfl ?_
    refine px_callV1 (ν := mX5_resultOf) (ci := 5) rfl rfl lk_X5_67 in_X5_resultOf se_X5_resultOf mok_X5_resultOf dX5_toldResult_2 (hq) (by exact hW.1) rfl rfl (by omega) (by simp) ?_
    refine px_astoreN2 rfl dX5_toldResult_5 ?_
    refine px_aload_nN dX5_toldResult_6 rfl ?_
    refine px_ifnonnull_f dX5_toldResult_7 ?_
    refine px_ldc dX5_toldResult_10 kc_X5_74 ?_
    refine px_goto (tgt := 19) dX5_toldResult_12 (by decide) ?_
    exact px_reti dX5_toldResult_19 (by rfl) (by rfl)
  | some l =>
    rw [hr] at hc
    obtain ⟨p, hp, hc'⟩ := hc
    subst hp
    cases l with
    | nil => cases hc'
    | cons x l =>
      obtain ⟨c, kk, s, t⟩ := x
      obtain ⟨p0, q', hp0, hcell, hl⟩ := hc'
      cases hp0
      refine CT.of [some (.ref a), some (.int (nI k)), none] rfl (Nat.le_of_ble_eq_true rfl) pl_X5 trivial ?_
      refine px_aload_n dX5_toldResult_0 rfl ?_
      refine px_iload_n dX5_toldResult_1 rfl ?_
      refine px_callV1 (ν := mX5_resultOf) (ci := 5) rfl rfl lk_X5_67 in_X5_resultOf se_X5_resultOf mok_X5_resultOf dX5_toldResult_2 (hq) (by first | exact hW.1 | exact hcell) rfl rfl (by omega) (by simp) ?_
      refine px_astore2 rfl dX5_toldResult_5 ?_
      refine px_aload_n dX5_toldResult_6 rfl ?_
      refine px_ifnonnull_t (tgt := 15) dX5_toldResult_7 (by decide) ?_
      refine px_aload_n dX5_toldResult_15 rfl ?_
      refine px_callV1 (ν := mX1_asTold) (ci := 1) rfl rfl lk_X5_75 in_X1_asTold se_X1_asTold mok_X1_asTold dX5_toldResult_16 (c_X1_asTold hcell) (by first | exact hW.1 | exact hcell) rfl rfl (by omega) (by simp) ?_
      exact px_reti dX5_toldResult_19 (by rfl) (by rfl)
end M14
