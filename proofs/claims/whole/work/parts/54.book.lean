/-! the reference's book of failures; RESULTS as codes -/
abbrev BK : Type := List (Int32 × Int32 × Int32 × Int32)
def ne (bk : BK) : Nat := bk.countP (fun x => decide (¬ x.2.1 = 6))
def Bk (M : MS) (bk : BK) : Prop := M.1 4 = nI bk.length ∧ (∀ (i : Nat) (x : Int32 × Int32 × Int32 × Int32), bk[i]? = some x → M.2.1 1 i = x.1 ∧ M.2.1 2 i = x.2.1 ∧ M.2.1 3 i = x.2.2.1 ∧ M.2.1 4 i = x.2.2.2) ∧ bk.Nodup ∧ ∀ x, x ∈ bk → x.2.1 = 6 → ∃ k : Nat, k < 24 ∧ x = (nI k, 6, -1, -1)
/-- only the book is changed -/
def Bo (M M' : MS) : Prop := (∀ j, j ≠ 4 → M'.1 j = M.1 j) ∧ (∀ j, 4 < j → M'.2.1 j = M.2.1 j) ∧ M'.2.2 = M.2.2
theorem Bo.rf (M : MS) : Bo M M := ⟨fun _ _ => rfl, fun _ _ => rfl, rfl⟩
theorem Bo.tra {M N K : MS} (h1 : Bo M N) (h2 : Bo N K) : Bo M K := ⟨fun j hj => (h2.1 j hj).trans (h1.1 j hj), fun j hj => (h2.2.1 j hj).trans (h1.2.1 j hj), h2.2.2.trans h1.2.2⟩
/-- the book as it stands in another state -/
theorem Bk.of {M M' : MS} {bk : BK} (h : Bk M bk) (h4 : M'.1 4 = M.1 4) (ha : ∀ j, 1 ≤ j → j < 5 → M'.2.1 j = M.2.1 j) : Bk M' bk := ⟨h4.trans h.1, fun i x hx => by
  obtain ⟨a, b, c, d⟩ := h.2.1 i x hx
  rw [ha 1 (by omega) (by omega), ha 2 (by omega) (by omega), ha 3 (by omega) (by omega), ha 4 (by omega) (by omega)]
  exact ⟨a, b, c, d⟩, h.2.2⟩
theorem Bk.len {M : MS} {bk : BK} (h : Bk M bk) : bk.length ≤ 24 + ne bk := by
  rw [List.length_eq_countP_add_countP (fun x => decide (¬ x.2.1 = 6)) (l := bk)]
  have h1 : bk.countP (fun a => decide ¬ decide (¬ a.2.1 = 6) = true) ≤ 24 := by
    rw [List.countP_eq_length_filter]
    have h2 : (bk.filter (fun a => decide ¬ decide (¬ a.2.1 = 6) = true)).Nodup := h.2.2.1.sublist List.filter_sublist
    have h3 := List.Nodup.length_le_of_subset (l₂ := (List.range 24).map (fun k => ((nI k, 6, -1, -1) : Int32 × Int32 × Int32 × Int32))) h2 (fun x hx => by
      obtain ⟨hx1, hx2⟩ := List.mem_filter.mp hx
      obtain ⟨k, hk, e⟩ := h.2.2.2 x hx1 (by simpa using hx2)
      exact List.mem_map.mpr ⟨k, List.mem_range.mpr hk, e.symm⟩)
    simpa using h3
  show bk.countP (fun x => decide (¬ x.2.1 = 6)) + _ ≤ 24 + bk.countP (fun x => decide (¬ x.2.1 = 6))
  omega
theorem ne_app (bk : BK) (x : Int32 × Int32 × Int32 × Int32) : ne (bk ++ [x]) = ne bk + (if x.2.1 = 6 then 0 else 1) := by
  unfold ne
  rw [List.countP_append, List.countP_singleton]
  by_cases h : x.2.1 = 6 <;> simp [h]
/-- the code of a chain of FAILURES, or of a number; -1: of none -/
def Cd (bk : BK) : List Q4 → Int32 → Prop
  | [], x => x = -1
  | (c, k, s, t) :: l, x => (s = 0 ∧ l = [] ∧ k = -1 ∧ t = -1 ∧ s_isContent c.toInt64 = true ∧ x = (c + 1000000) * 2) ∨ (¬ s = 0 ∧ c = 0 ∧ (l = [] ∨ isF l = true) ∧ ∃ (i : Nat) (y : Int32), i < 9000 ∧ bk[i]? = some (k, s, t, y) ∧ x = nI (2 * i + 1) ∧ Cd bk l y)
def CdO (bk : BK) (r : Option (List Q4)) (x : Int32) : Prop := match r with
  | none => x = -1
  | some l => l ≠ [] ∧ Cd bk l x
theorem pre_get {α : Type} {a b : List α} (h : a <+: b) {i : Nat} {x : α} (hx : a[i]? = some x) : b[i]? = some x := by
  obtain ⟨t, rfl⟩ := h
  rw [List.getElem?_append_left (List.getElem?_eq_some_iff.mp hx).1]
  exact hx
theorem Cd.mono {bk bk' : BK} (h : bk <+: bk') : ∀ {l : List Q4} {x : Int32}, Cd bk l x → Cd bk' l x
  | [], _, hx => hx
  | (c, k, s, t) :: l, x, hx => by
    rcases hx with hx | ⟨h1, h2, h3, i, y, h4, h5, h6, h7⟩
    · exact Or.inl hx
    · exact Or.inr ⟨h1, h2, h3, i, y, h4, pre_get h h5, h6, Cd.mono h h7⟩
theorem CdO.mono {bk bk' : BK} (h : bk <+: bk') {r : Option (List Q4)} {x : Int32} (hx : CdO bk r x) : CdO bk' r x := by
  cases r with
  | none => exact hx
  | some l => exact ⟨hx.1, hx.2.mono h⟩
/-! codes of numbers -/
theorem ic_iff {c : Int32} : s_isContent c.toInt64 = true ↔ -1000000 ≤ c.toInt ∧ c.toInt ≤ 1000000 := by
  unfold s_isContent
  simp only [Bool.and_eq_true, Bool.not_eq_true', decide_eq_false_iff_not, Int64.lt_iff_toInt_lt, Int32.toInt_toInt64]
  have e1 : (-1000000 : Int64).toInt = -1000000 := by decide
  have e2 : (1000000 : Int64).toInt = 1000000 := by decide
  rw [e1, e2]
  omega
theorem cn_nI {c : Int32} (h : s_isContent c.toInt64 = true) : ∃ j : Nat, j ≤ 2000000 ∧ c.toInt = (j : Int) - 1000000 ∧ c = nI j - 1000000 ∧ (c + 1000000) * 2 = nI (2 * j) := by
  obtain ⟨h1, h2⟩ := ic_iff.mp h
  have e : c = nI (c.toInt + 1000000).toNat - 1000000 := by
    apply Int32.toInt_inj.mp
    have e2 : (1000000 : Int32) = nI 1000000 := rfl
    rw [Int32.toInt_sub, e2, nI_toInt (by omega), nI_toInt (by omega), Int.bmod_eq_of_le (by omega) (by omega)]
    omega
  refine ⟨(c.toInt + 1000000).toNat, by omega, by omega, e, ?_⟩
  generalize (c.toInt + 1000000).toNat = j at e
  rw [e, Int32.sub_add_cancel, show (2 : Int32) = nI 2 from rfl, nI_mul, Nat.mul_comm]
theorem nI_inj {a b : Nat} (ha : a < 2 ^ 31) (hb : b < 2 ^ 31) (h : nI a = nI b) : a = b := (nI_eq ha hb).mp h
theorem nI_m1 {a : Nat} (ha : a < 2 ^ 31) : ¬ nI a = -1 := fun h => nI_pos ha (by rw [h]; decide)
theorem Cd.inj {bk : BK} : ∀ {l l' : List Q4} {x : Int32}, Cd bk l x → Cd bk l' x → l = l'
  | [], [], _, _, _ => rfl
  | [], (c, k, s, t) :: l', x, h, h' => by
    exfalso
    have h : x = -1 := h
    subst h
    rcases h' with ⟨-, -, -, -, h5, h6⟩ | ⟨-, -, -, i, y, h4, -, h6, -⟩
    · obtain ⟨j, hj, -, -, e⟩ := cn_nI h5
      rw [e] at h6
      exact nI_m1 (by omega) h6.symm
    · exact nI_m1 (by omega) h6.symm
  | (c, k, s, t) :: l, [], x, h', h => by
    exfalso
    have h : x = -1 := h
    subst h
    rcases h' with ⟨-, -, -, -, h5, h6⟩ | ⟨-, -, -, i, y, h4, -, h6, -⟩
    · obtain ⟨j, hj, -, -, e⟩ := cn_nI h5
      rw [e] at h6
      exact nI_m1 (by omega) h6.symm
    · exact nI_m1 (by omega) h6.symm
  | (c, k, s, t) :: l, (c', k', s', t') :: l', x, h, h' => by
    rcases h with ⟨h1, h2, h3, h4, h5, h6⟩ | ⟨h1, h2, h3, i, y, h4, h5, h6, h7⟩ <;> rcases h' with ⟨g1, g2, g3, g4, g5, g6⟩ | ⟨g1, g2, g3, i', y', g4, g5, g6, g7⟩
    · obtain ⟨j, hj, -, e1, e2⟩ := cn_nI h5
      obtain ⟨j', hj', -, e1', e2'⟩ := cn_nI g5
      rw [h6, e2, e2'] at g6
      have := nI_inj (by omega) (by omega) g6
      have : j = j' := by omega
      subst this
      rw [← e1'] at e1
      subst h1 h2 h3 h4 g1 g2 g3 g4 e1
      rfl
    · obtain ⟨j, hj, -, e1, e2⟩ := cn_nI h5
      rw [h6, e2] at g6
      have := nI_inj (by omega) (by omega) g6
      omega
    · obtain ⟨j, hj, -, e1, e2⟩ := cn_nI g5
      rw [g6, e2] at h6
      have := nI_inj (by omega) (by omega) h6
      omega
    · rw [h6] at g6
      have := nI_inj (by omega) (by omega) g6
      have : i = i' := by omega
      subst this
      rw [h5] at g5
      cases g5
      rw [Cd.inj h7 g7, h2, g2]
theorem Cd.det {bk : BK} (hn : bk.Nodup) : ∀ {l : List Q4} {x x' : Int32}, Cd bk l x → Cd bk l x' → x = x'
  | [], _, _, h, h' => Eq.trans h (Eq.symm h')
  | (c, k, s, t) :: l, x, x', h, h' => by
    rcases h with ⟨h1, h2, h3, h4, h5, h6⟩ | ⟨h1, h2, h3, i, y, h4, h5, h6, h7⟩ <;> rcases h' with ⟨g1, g2, g3, g4, g5, g6⟩ | ⟨g1, g2, g3, i', y', g4, g5, g6, g7⟩
    · rw [h6, g6]
    · exact absurd h1 g1
    · exact absurd g1 h1
    · have e := Cd.det hn h7 g7
      subst e
      have hi := (List.getElem?_eq_some_iff.mp h5).1
      have : i = i' := (List.getElem?_inj hi hn).mp (h5.trans g5.symm)
      rw [h6, g6, this]
theorem Cd.eq {bk : BK} (hn : bk.Nodup) {l l' : List Q4} {x x' : Int32} (h : Cd bk l x) (h' : Cd bk l' x') : x = x' ↔ l = l' :=
  ⟨fun e => by subst e; exact h.inj h', fun e => by subst e; exact h.det hn h'⟩
theorem Cd.num {bk : BK} {c : Int32} (h : s_isContent c.toInt64 = true) : Cd bk (numR c) ((c + 1000000) * 2) := Or.inl ⟨rfl, rfl, rfl, rfl, h, rfl⟩
/-- what the functions of codes tell -/
theorem t_fail_m1 : t_isFail (-1) = false := by decide
theorem nI_half (j : Nat) (h : j < 2 ^ 31) : nI j / 2 = nI (j / 2) := by
  apply Int32.toInt_inj.mp
  rw [Int32.toInt_div, nI_toInt h, nI_toInt (by omega), show (2 : Int32).toInt = 2 from rfl, Int.tdiv_eq_ediv_of_nonneg (by omega), Int.bmod_eq_of_le (by omega) (by omega)]
  omega
theorem t_fail_nI {j : Nat} (h : j < 2 ^ 30) : t_isFail (nI j) = decide (j % 2 = 1) := by
  unfold t_isFail
  have h1 : ¬ nI j < 0 := nI_pos (by omega)
  rw [nI_half j (by omega), show (2 : Int32) = nI 2 from rfl, nI_mul, nI_sub (by omega), show (1 : Int32) = nI 1 from rfl]
  have h2 : nI (j - j / 2 * 2) = nI 1 ↔ j % 2 = 1 := by rw [nI_eq (by omega) (by omega)]; omega
  simp only [h1, h2, decide_false, Bool.not_false, Bool.true_and]
theorem Cd.fail {bk : BK} {l : List Q4} {x : Int32} (h : Cd bk l x) : t_isFail x = isF l := by
  match l, h with
  | [], h => have h : x = -1 := h
             subst h; rfl
  | (c, k, s, t) :: l, h =>
    rw [isF_ch]
    rcases h with ⟨h1, h2, h3, h4, h5, h6⟩ | ⟨h1, h2, h3, i, y, h4, h5, h6, h7⟩
    · obtain ⟨j, hj, -, e1, e2⟩ := cn_nI h5
      rw [h6, e2, t_fail_nI (by omega), h1]
      simp
    · rw [h6, t_fail_nI (by omega)]
      simp [h1]
theorem Cd.ne {bk : BK} {l : List Q4} {x : Int32} (h : Cd bk l x) (hl : l ≠ []) : ¬ x < 0 := by
  match l, h with
  | [], h => exact absurd rfl hl
  | (c, k, s, t) :: l, h =>
    rcases h with ⟨h1, h2, h3, h4, h5, h6⟩ | ⟨h1, h2, h3, i, y, h4, h5, h6, h7⟩
    · obtain ⟨j, hj, -, e1, e2⟩ := cn_nI h5
      rw [h6, e2]; exact nI_pos (by omega)
    · rw [h6]; exact nI_pos (by omega)
/-- a number's code, looked at -/
theorem Cd.val {bk : BK} {l : List Q4} {x : Int32} (h : Cd bk l x) (hl : l ≠ []) (hf : isF l = false) : x / 2 - 1000000 = toldL l ∧ l = numR (toldL l) ∧ s_isContent (toldL l).toInt64 = true := by
  match l, h with
  | [], h => exact absurd rfl hl
  | (c, k, s, t) :: l, h =>
    rw [isF_ch] at hf
    rcases h with ⟨h1, h2, h3, h4, h5, h6⟩ | ⟨h1, h2, h3, i, y, h4, h5, h6, h7⟩
    · obtain ⟨j, hj, -, e1, e2⟩ := cn_nI h5
      subst h1 h2 h3 h4
      refine ⟨?_, rfl, h5⟩
      rw [h6, e2, nI_half _ (by omega), show 2 * j / 2 = j by omega, ← e1]
      rfl
    · simp [h1] at hf
/-- a failure's row -/
theorem Cd.row {bk : BK} {l : List Q4} {x : Int32} (h : Cd bk l x) (hf : isF l = true) : ∃ (k s t : Int32) (l' : List Q4) (i : Nat) (y : Int32), l = (0, k, s, t) :: l' ∧ ¬ s = 0 ∧ i < 9000 ∧ x = nI (2 * i + 1) ∧ x / 2 = nI i ∧ bk[i]? = some (k, s, t, y) ∧ Cd bk l' y ∧ (l' = [] ∨ isF l' = true) := by
  match l, h with
  | [], h => cases hf
  | (c, k, s, t) :: l, h =>
    rw [isF_ch] at hf
    rcases h with ⟨h1, h2, h3, h4, h5, h6⟩ | ⟨h1, h2, h3, i, y, h4, h5, h6, h7⟩
    · simp [h1] at hf
    · subst h2
      exact ⟨k, s, t, l, i, y, rfl, h1, h4, h6, by rw [h6, nI_half _ (by omega), show (2 * i + 1) / 2 = i by omega], h5, h7, h3⟩
/-! the statics, by the class's own words -/
theorem sin_lt {k : Int32} {a b : Int64} {x y : Int} (ha : a.toInt = x) (hb : b.toInt = y) : s_isInL k.toInt64 a b = (decide (x ≤ k.toInt) && decide (k.toInt ≤ y)) := by
  unfold s_isInL
  rw [Bool.eq_iff_iff]
  simp only [Bool.and_eq_true, Bool.not_eq_true', decide_eq_false_iff_not, decide_eq_true_eq, Int64.lt_iff_toInt_lt, Int32.toInt_toInt64, ha, hb]
  omega
theorem s_lt {k : Int32} {a b : Int32} {x y : Int} (ha : a.toInt = x) (hb : b.toInt = y + 1) : (!decide (k < a) && !decide (b ≤ k)) = (decide (x ≤ k.toInt) && decide (k.toInt ≤ y)) := by
  rw [Bool.eq_iff_iff]
  simp only [Bool.and_eq_true, Bool.not_eq_true', decide_eq_false_iff_not, decide_eq_true_eq, Int32.lt_iff_toInt_lt, Int32.le_iff_toInt_le, ha, hb]
  omega
theorem sin_i (k : Int32) : s_isInL k.toInt64 0 7 = s_isInput k := by rw [sin_lt (x := 0) (y := 7) (by decide) (by decide)]; exact (s_lt (by decide) (by decide)).symm
theorem sin_t (k : Int32) : s_isInL k.toInt64 8 23 = s_isTarget k := by rw [sin_lt (x := 8) (y := 23) (by decide) (by decide)]; exact (s_lt (by decide) (by decide)).symm
theorem sin_k (k : Int32) : s_isInL k.toInt64 0 23 = s_isKey k := by rw [sin_lt (x := 0) (y := 23) (by decide) (by decide)]; exact (s_lt (by decide) (by decide)).symm
theorem sin_r (k : Int32) : s_isInL k.toInt64 0 3 = s_isRow k := by rw [sin_lt (x := 0) (y := 3) (by decide) (by decide)]; exact (s_lt (by decide) (by decide)).symm
section M54
variable {B : Nat} {D : va_G} {n w r : Nat} {f : Nat → Option va_E} {M : MS} {bk : BK}
theorem cr_isInput (k : Int32) {h : pm_H} : CT B D 1 mX7_isInput [.int k] h (some (.int (bi (s_isInput k)))) h := by
  obtain ⟨n, w, f⟩ := h
  rw [← sin_i]; exact c_X7_isInput k
theorem cr_isTarget (k : Int32) {h : pm_H} : CT B D 1 mX7_isTarget [.int k] h (some (.int (bi (s_isTarget k)))) h := by
  obtain ⟨n, w, f⟩ := h
  rw [← sin_t]; exact c_X7_isTarget k
theorem cr_isKey (k : Int32) {h : pm_H} : CT B D 1 mX7_isKey [.int k] h (some (.int (bi (s_isKey k)))) h := by
  obtain ⟨n, w, f⟩ := h
  rw [← sin_k]; exact c_X7_isKey k
theorem cr_isList (k : Int32) {h : pm_H} : CT B D 1 mX7_isList [.int k] h (some (.int (bi (s_isRow k)))) h := by
  obtain ⟨n, w, f⟩ := h
  rw [← sin_r]; exact c_X7_isList k
theorem l_X7_fails_3 {d : Nat} {k s t y : Int32} (hb : Bk M bk) (hlen : bk.length < 9000) : ∀ (j i : Nat), i + j = bk.length → (∀ i', i' < i → bk[i']? ≠ some (k, s, t, y)) →
    ((∃ i1, bk[i1]? = some (k, s, t, y) ∧ EX B D d mX7_fails 3 [some (.ref r), some (.int k), some (.int s), some (.int t), some (.int y), some (.int (nI i))] [] (n, w, mH r f M) (some (.int (nI (2 * i1 + 1)))) (n, w, mH r f M)) ∨ ((k, s, t, y) ∉ bk ∧ ∀ (rr : Option Value) (h1 : pm_H), EX B D d mX7_fails 70 [some (.ref r), some (.int k), some (.int s), some (.int t), some (.int y), some (.int (nI bk.length))] [] (n, w, mH r f M) rr h1 → EX B D d mX7_fails 3 [some (.ref r), some (.int k), some (.int s), some (.int t), some (.int y), some (.int (nI i))] [] (n, w, mH r f M) rr h1))
  | 0, i, hij, hno => by
    have hi : i = bk.length := by omega
    subst hi
    refine Or.inr ⟨fun hm => ?_, fun rr h1 hk => ?_⟩
    · obtain ⟨q, hq⟩ := List.mem_iff_getElem?.mp hm
      exact hno q (List.getElem?_eq_some_iff.mp hq).1 hq
    refine px_iload dX7_fails_3 rfl ?_
    refine px_aload_n dX7_fails_5 rfl ?_
    refine mx_get fl_X7_16 dX7_fails_6 rfl ?_
    refine px_icmp_ge (tgt := 70) dX7_fails_9 (by decide) (fun hc9 => ?_) (fun hc9 => ?_)
    · exact hk
    · exact absurd (by rw [hb.1]; exact Int32.le_refl _) hc9
  | j + 1, i, hij, hno => by
    have hi : i < bk.length := by omega
    obtain ⟨a1, a2, a3, a4⟩ := hb.2.1 i _ (List.getElem?_eq_getElem hi)
    have hge : ¬ M.1 4 ≤ nI i := by rw [hb.1]; exact nI_ge hi (by omega)
    by_cases hx : bk[i]? = some (k, s, t, y)
    · refine Or.inl ⟨i, hx, ?_⟩
      rw [List.getElem?_eq_getElem hi] at hx
      have hx := Option.some.inj hx
      rw [hx] at a1 a2 a3 a4
      refine px_iload dX7_fails_3 rfl ?_
      refine px_aload_n dX7_fails_5 rfl ?_
      refine mx_get fl_X7_16 dX7_fails_6 rfl ?_
      refine px_icmp_ge (tgt := 70) dX7_fails_9 (by decide) (fun hc9 => ?_) (fun hc9 => ?_)
      · exact absurd hc9 hge
      · refine px_aload_n dX7_fails_12 rfl ?_
        refine mx_get fl_X7_20 dX7_fails_13 rfl ?_
        refine px_iload dX7_fails_16 rfl ?_
        refine mx_iaload (j := 1) (m := 9000) (q := i) dX7_fails_18 (by decide) (by first | rfl | (simp (disch := omega) only [li0, li1, li2, li3, li5, li6, li8, li9, li10, li12, li13, li16, li20, li24, li25, li100, li408, li424, li824, nI_add, nI_mul, nI_sub]; first | done | rfl | (congr 1; omega))) (by omega) ?_
        refine px_iload_n dX7_fails_19 rfl ?_
        refine px_icmp_ne (tgt := 64) dX7_fails_20 (by decide) (fun hc20 => ?_) (fun hc20 => ?_)
        · exact absurd a1 hc20
        · refine px_aload_n dX7_fails_23 rfl ?_
          refine mx_get fl_X7_24 dX7_fails_24 rfl ?_
          refine px_iload dX7_fails_27 rfl ?_
          refine mx_iaload (j := 2) (m := 9000) (q := i) dX7_fails_29 (by decide) (by first | rfl | (simp (disch := omega) only [li0, li1, li2, li3, li5, li6, li8, li9, li10, li12, li13, li16, li20, li24, li25, li100, li408, li424, li824, nI_add, nI_mul, nI_sub]; first | done | rfl | (congr 1; omega))) (by omega) ?_
          refine px_iload_n dX7_fails_30 rfl ?_
          refine px_icmp_ne (tgt := 64) dX7_fails_31 (by decide) (fun hc31 => ?_) (fun hc31 => ?_)
          · exact absurd a2 hc31
          · refine px_aload_n dX7_fails_34 rfl ?_
            refine mx_get fl_X7_27 dX7_fails_35 rfl ?_
            refine px_iload dX7_fails_38 rfl ?_
            refine mx_iaload (j := 3) (m := 9000) (q := i) dX7_fails_40 (by decide) (by first | rfl | (simp (disch := omega) only [li0, li1, li2, li3, li5, li6, li8, li9, li10, li12, li13, li16, li20, li24, li25, li100, li408, li424, li824, nI_add, nI_mul, nI_sub]; first | done | rfl | (congr 1; omega))) (by omega) ?_
            refine px_iload_n dX7_fails_41 rfl ?_
            refine px_icmp_ne (tgt := 64) dX7_fails_42 (by decide) (fun hc42 => ?_) (fun hc42 => ?_)
            · exact absurd a3 hc42
            · refine px_aload_n dX7_fails_45 rfl ?_
              refine mx_get fl_X7_30 dX7_fails_46 rfl ?_
              refine px_iload dX7_fails_49 rfl ?_
              refine mx_iaload (j := 4) (m := 9000) (q := i) dX7_fails_51 (by decide) (by first | rfl | (simp (disch := omega) only [li0, li1, li2, li3, li5, li6, li8, li9, li10, li12, li13, li16, li20, li24, li25, li100, li408, li424, li824, nI_add, nI_mul, nI_sub]; first | done | rfl | (congr 1; omega))) (by omega) ?_
              refine px_iload dX7_fails_52 rfl ?_
              refine px_icmp_ne (tgt := 64) dX7_fails_54 (by decide) (fun hc54 => ?_) (fun hc54 => ?_)
              · exact absurd a4 hc54
              · refine px_iconst (v := 2) dX7_fails_57 (by decide) ?_
                refine px_iload dX7_fails_58 rfl ?_
                refine px_imul dX7_fails_60 ?_
                refine px_iconst (v := 1) dX7_fails_61 (by decide) ?_
                refine px_iadd dX7_fails_62 ?_
                exact px_reti dX7_fails_63 (by rw [show (2 : Int32) = nI 2 from rfl, show (1 : Int32) = nI 1 from rfl, nI_mul, nI_add]) (by rfl)
    · have hno' : ∀ i', i' < i + 1 → bk[i']? ≠ some (k, s, t, y) := fun i' hi' => by
        by_cases e : i' = i
        · subst e; exact hx
        · exact hno i' (by omega)
      have hstep : ∀ (rr : Option Value) (h1 : pm_H), EX B D d mX7_fails 3 [some (.ref r), some (.int k), some (.int s), some (.int t), some (.int y), some (.int (nI (i + 1)))] [] (n, w, mH r f M) rr h1 → EX B D d mX7_fails 3 [some (.ref r), some (.int k), some (.int s), some (.int t), some (.int y), some (.int (nI i))] [] (n, w, mH r f M) rr h1 := fun rr h1 hk => by
        have hn4 : M.2.1 1 i = k → M.2.1 2 i = s → M.2.1 3 i = t → M.2.1 4 i = y → False := fun e1 e2 e3 e4 => hx (by rw [List.getElem?_eq_getElem hi]; congr 1; exact Prod.ext (a1.symm.trans e1) (Prod.ext (a2.symm.trans e2) (Prod.ext (a3.symm.trans e3) (a4.symm.trans e4))))
        refine px_iload dX7_fails_3 rfl ?_
        refine px_aload_n dX7_fails_5 rfl ?_
        refine mx_get fl_X7_16 dX7_fails_6 rfl ?_
        refine px_icmp_ge (tgt := 70) dX7_fails_9 (by decide) (fun hc9 => ?_) (fun hc9 => ?_)
        · exact absurd hc9 hge
        · refine px_aload_n dX7_fails_12 rfl ?_
          refine mx_get fl_X7_20 dX7_fails_13 rfl ?_
          refine px_iload dX7_fails_16 rfl ?_
          refine mx_iaload (j := 1) (m := 9000) (q := i) dX7_fails_18 (by decide) (by first | rfl | (simp (disch := omega) only [li0, li1, li2, li3, li5, li6, li8, li9, li10, li12, li13, li16, li20, li24, li25, li100, li408, li424, li824, nI_add, nI_mul, nI_sub]; first | done | rfl | (congr 1; omega))) (by omega) ?_
          refine px_iload_n dX7_fails_19 rfl ?_
          refine px_icmp_ne (tgt := 64) dX7_fails_20 (by decide) (fun hc20 => ?_) (fun hc20 => ?_)
          · refine px_iinc5 rfl (nI_inc i) dX7_fails_64 ?_
            refine px_goto (tgt := 3) dX7_fails_67 (by decide) ?_
            exact hk
          · refine px_aload_n dX7_fails_23 rfl ?_
            refine mx_get fl_X7_24 dX7_fails_24 rfl ?_
            refine px_iload dX7_fails_27 rfl ?_
            refine mx_iaload (j := 2) (m := 9000) (q := i) dX7_fails_29 (by decide) (by first | rfl | (simp (disch := omega) only [li0, li1, li2, li3, li5, li6, li8, li9, li10, li12, li13, li16, li20, li24, li25, li100, li408, li424, li824, nI_add, nI_mul, nI_sub]; first | done | rfl | (congr 1; omega))) (by omega) ?_
            refine px_iload_n dX7_fails_30 rfl ?_
            refine px_icmp_ne (tgt := 64) dX7_fails_31 (by decide) (fun hc31 => ?_) (fun hc31 => ?_)
            · refine px_iinc5 rfl (nI_inc i) dX7_fails_64 ?_
              refine px_goto (tgt := 3) dX7_fails_67 (by decide) ?_
              exact hk
            · refine px_aload_n dX7_fails_34 rfl ?_
              refine mx_get fl_X7_27 dX7_fails_35 rfl ?_
              refine px_iload dX7_fails_38 rfl ?_
              refine mx_iaload (j := 3) (m := 9000) (q := i) dX7_fails_40 (by decide) (by first | rfl | (simp (disch := omega) only [li0, li1, li2, li3, li5, li6, li8, li9, li10, li12, li13, li16, li20, li24, li25, li100, li408, li424, li824, nI_add, nI_mul, nI_sub]; first | done | rfl | (congr 1; omega))) (by omega) ?_
              refine px_iload_n dX7_fails_41 rfl ?_
              refine px_icmp_ne (tgt := 64) dX7_fails_42 (by decide) (fun hc42 => ?_) (fun hc42 => ?_)
              · refine px_iinc5 rfl (nI_inc i) dX7_fails_64 ?_
                refine px_goto (tgt := 3) dX7_fails_67 (by decide) ?_
                exact hk
              · refine px_aload_n dX7_fails_45 rfl ?_
                refine mx_get fl_X7_30 dX7_fails_46 rfl ?_
                refine px_iload dX7_fails_49 rfl ?_
                refine mx_iaload (j := 4) (m := 9000) (q := i) dX7_fails_51 (by decide) (by first | rfl | (simp (disch := omega) only [li0, li1, li2, li3, li5, li6, li8, li9, li10, li12, li13, li16, li20, li24, li25, li100, li408, li424, li824, nI_add, nI_mul, nI_sub]; first | done | rfl | (congr 1; omega))) (by omega) ?_
                refine px_iload dX7_fails_52 rfl ?_
                refine px_icmp_ne (tgt := 64) dX7_fails_54 (by decide) (fun hc54 => ?_) (fun hc54 => ?_)
                · refine px_iinc5 rfl (nI_inc i) dX7_fails_64 ?_
                  refine px_goto (tgt := 3) dX7_fails_67 (by decide) ?_
                  exact hk
                · exact (hn4 hc20 hc31 hc42 hc54).elim
      rcases l_X7_fails_3 (d := d) hb hlen j (i + 1) (by omega) hno' with ⟨i1, h1, h2⟩ | ⟨h1, h2⟩
      · exact Or.inl ⟨i1, h1, hstep _ _ h2⟩
      · exact Or.inr ⟨h1, fun rr h1 hk => hstep _ _ (h2 rr h1 hk)⟩
def MS.fl (M : MS) (L : Nat) (k s t y : Int32) : MS := ((((M.sa 1 L k).sa 2 L s).sa 3 L t).sa 4 L y).sets 4 (nI (L + 1))
theorem c_X7_fails {k s t y : Int32} (hb : Bk M bk) (hlen : bk.length < 9000) (h6 : s = 6 → ∃ q : Nat, q < 24 ∧ k = nI q ∧ t = -1 ∧ y = -1) : ∃ (M' : MS) (bk' : BK) (i : Nat), CT B D 0 mX7_fails [.ref r, .int k, .int s, .int t, .int y] (n, w, mH r f M) (some (.int (nI (2 * i + 1)))) (n, w, mH r f M') ∧ Bk M' bk' ∧ Bo M M' ∧ bk <+: bk' ∧ bk'[i]? = some (k, s, t, y) ∧ i < 9000 ∧ ne bk' ≤ ne bk + (if s = 6 then 0 else 1) := by
  rcases l_X7_fails_3 (B := B) (D := D) (n := n) (w := w) (r := r) (f := f) (d := 0) (k := k) (s := s) (t := t) (y := y) hb hlen bk.length 0 (by omega) (fun i h => by omega) with ⟨i, h1, h2⟩ | ⟨h1, h2⟩
  · refine ⟨M, bk, i, ?_, hb, Bo.rf M, List.prefix_rfl, h1, ?_, by omega⟩
    refine CT.of [some (.ref r), some (.int k), some (.int s), some (.int t), some (.int y), none] rfl (Nat.le_of_ble_eq_true rfl) pl_X7 trivial ?_
    refine px_iconst (v := 0) dX7_fails_0 (by decide) ?_
    refine px_istore5 rfl dX7_fails_1 ?_
    exact h2
    · have := (List.getElem?_eq_some_iff.mp h1).1; omega
  · have hL : bk.length < 9000 := hlen
    refine ⟨M.fl bk.length k s t y, bk ++ [(k, s, t, y)], bk.length, ?_, ⟨?_, ?_, ?_, ?_⟩, ⟨?_, ?_, rfl⟩, List.prefix_append _ _, ?_, hL, by rw [ne_app]; exact Nat.le_refl _⟩
    · refine CT.of [some (.ref r), some (.int k), some (.int s), some (.int t), some (.int y), none] rfl (Nat.le_of_ble_eq_true rfl) pl_X7 trivial ?_
      refine px_iconst (v := 0) dX7_fails_0 (by decide) ?_
      refine px_istore5 rfl dX7_fails_1 ?_
      refine h2 _ _ ?_
      refine px_aload_n dX7_fails_70 rfl ?_
      refine mx_get fl_X7_20 dX7_fails_71 rfl ?_
      refine px_aload_n dX7_fails_74 rfl ?_
      refine mx_get fl_X7_16 dX7_fails_75 rfl ?_
      refine px_iload_n dX7_fails_78 rfl ?_
      refine mx_iastore (j := 1) (m := 9000) (q := bk.length) dX7_fails_79 (by decide) (by exact hb.1) (by omega) ?_
      refine px_aload_n dX7_fails_80 rfl ?_
      refine mx_get fl_X7_24 dX7_fails_81 rfl ?_
      refine px_aload_n dX7_fails_84 rfl ?_
      refine mx_get fl_X7_16 dX7_fails_85 rfl ?_
      refine px_iload_n dX7_fails_88 rfl ?_
      refine mx_iastore (j := 2) (m := 9000) (q := bk.length) dX7_fails_89 (by decide) (by exact hb.1) (by omega) ?_
      refine px_aload_n dX7_fails_90 rfl ?_
      refine mx_get fl_X7_27 dX7_fails_91 rfl ?_
      refine px_aload_n dX7_fails_94 rfl ?_
      refine mx_get fl_X7_16 dX7_fails_95 rfl ?_
      refine px_iload_n dX7_fails_98 rfl ?_
      refine mx_iastore (j := 3) (m := 9000) (q := bk.length) dX7_fails_99 (by decide) (by exact hb.1) (by omega) ?_
      refine px_aload_n dX7_fails_100 rfl ?_
      refine mx_get fl_X7_30 dX7_fails_101 rfl ?_
      refine px_aload_n dX7_fails_104 rfl ?_
      refine mx_get fl_X7_16 dX7_fails_105 rfl ?_
      refine px_iload dX7_fails_108 rfl ?_
      refine mx_iastore (j := 4) (m := 9000) (q := bk.length) dX7_fails_110 (by decide) (by exact hb.1) (by omega) ?_
      refine px_aload_n dX7_fails_111 rfl ?_
      refine px_dup dX7_fails_112 rfl ?_
      refine mx_get fl_X7_16 dX7_fails_113 rfl ?_
      refine px_iconst (v := 1) dX7_fails_116 (by decide) ?_
      refine px_iadd dX7_fails_117 ?_
      refine mx_put fp_X7_16 dX7_fails_118 rfl rfl (by decide) rfl ?_
      refine px_iconst (v := 2) dX7_fails_121 (by decide) ?_
      refine px_aload_n dX7_fails_122 rfl ?_
      refine mx_get fl_X7_16 dX7_fails_123 rfl ?_
      refine px_imul dX7_fails_126 ?_
      refine px_iconst (v := 1) dX7_fails_127 (by decide) ?_
      refine px_isub dX7_fails_128 ?_
      exact px_reti dX7_fails_129 (by show _ = some (Value.int (2 * (M.1 4 + 1) - 1)); rw [hb.1, ← nI_succ, show (2 : Int32) = nI 2 from rfl, nI_mul, show (1 : Int32) = nI 1 from rfl, nI_sub (by omega)]; congr 3) (by show _ = (n, w, mH r f (MS.sets _ 4 (M.1 4 + 1))); rw [hb.1, ← nI_succ]; rfl)
    · rw [List.length_append]; rfl
    · intro i x hx
      by_cases hi : i < bk.length
      · rw [List.getElem?_append_left hi] at hx
        obtain ⟨a1, a2, a3, a4⟩ := hb.2.1 i x hx
        refine ⟨?_, ?_, ?_, ?_⟩
        · show va_up (M.2.1 1) bk.length k i = _; rw [va_up_ne _ _ (by omega)]; exact a1
        · show va_up (M.2.1 2) bk.length s i = _; rw [va_up_ne _ _ (by omega)]; exact a2
        · show va_up (M.2.1 3) bk.length t i = _; rw [va_up_ne _ _ (by omega)]; exact a3
        · show va_up (M.2.1 4) bk.length y i = _; rw [va_up_ne _ _ (by omega)]; exact a4
      · have hi1 := (List.getElem?_eq_some_iff.mp hx).1
        rw [List.length_append] at hi1
        have hi2 : i = bk.length := by simp at hi1; omega
        subst hi2
        rw [List.getElem?_append_right (Nat.le_refl _), Nat.sub_self] at hx
        cases hx
        exact ⟨va_up_self _ _ _, va_up_self _ _ _, va_up_self _ _ _, va_up_self _ _ _⟩
    · refine List.nodup_append.mpr ⟨hb.2.2.1, by simp, fun a ha b hbm e => ?_⟩
      rw [List.mem_singleton] at hbm
      subst hbm e
      exact h1 ha
    · intro x hx hx6
      rcases List.mem_append.mp hx with hx | hx
      · exact hb.2.2.2 x hx hx6
      · rw [List.mem_singleton] at hx
        subst hx
        obtain ⟨q, q1, q2, q3, q4⟩ := h6 hx6
        have hx6 : s = 6 := hx6
        subst q2 q3 q4 hx6
        exact ⟨q, q1, rfl⟩
    · intro j hj
      show va_up M.1 4 _ j = _
      rw [va_up_ne _ _ hj]
    · intro j hj
      show va_up (va_up (va_up (va_up M.2.1 1 _) 2 _) 3 _) 4 _ j = _
      rw [va_up_ne _ _ (by omega), va_up_ne _ _ (by omega), va_up_ne _ _ (by omega), va_up_ne _ _ (by omega)]
    · rw [List.getElem?_append_right (Nat.le_refl _), Nat.sub_self]; rfl
end M54
