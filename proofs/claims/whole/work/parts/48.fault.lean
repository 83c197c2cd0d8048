/-! what THE TAPE without a FAULT tells -/
theorem nI_ne_m1 {x : Nat} (h : x < 2 ^ 31) : ¬ nI x = -1 := fun e => nI_pos h (by rw [e]; decide)
theorem tp_ok {L : Nat} {lt : Nat → Int32} (hL : L ≤ 50) : ∀ k i : Nat, i + k = L → tp_fault L lt k i = -1 → (∀ j, i ≤ j → j < L → j < 36 ∧ (if j % 3 = 0 then s_isSign (lt j) else s_isFigure (lt j)) = true ∧ ¬ (0 < j % 3 ∧ tp_nokey L lt (j - j % 3) (j % 3) = true)) ∧ 0 < L ∧ L % 3 = 0
  | 0, i, hi, h => by
    rw [tp_fault] at h
    by_cases hc : 0 < L ∧ L % 3 = 0
    · exact ⟨fun j h1 h2 => by omega, hc⟩
    · rw [if_neg hc] at h
      exact absurd h (nI_ne_m1 (by omega))
  | k + 1, i, hi, h => by
    by_cases h1 : 36 ≤ i ∨ (if i % 3 = 0 then s_isSign (lt i) else s_isFigure (lt i)) = false
    · rw [tp_fault_s1 h1] at h
      exact absurd h (nI_ne_m1 (by omega))
    · by_cases h2 : 0 < i % 3 ∧ tp_nokey L lt (i - i % 3) (i % 3) = true
      · rw [tp_fault_s2 h1 h2] at h
        exact absurd h (nI_ne_m1 (by omega))
      · rw [tp_fault_s3 h1 h2] at h
        obtain ⟨a1, a2⟩ := tp_ok hL k (i + 1) (by omega) h
        refine ⟨fun j h3 h4 => ?_, a2⟩
        by_cases hji : j = i
        · subst hji
          refine ⟨?_, ?_, h2⟩
          · rcases Nat.lt_or_ge j 36 with q | q
            · exact q
            · exact absurd (Or.inl q) h1
          · cases hq : (if j % 3 = 0 then s_isSign (lt j) else s_isFigure (lt j)) with
            | true => rfl
            | false => exact absurd (Or.inr hq) h1
        · exact a1 j (by omega) h4
