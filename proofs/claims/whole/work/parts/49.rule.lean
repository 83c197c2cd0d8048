/-! the RULE that THE TAPE tells -/
theorem fig_of {c : Int32} (h : s_isFigure c = true) : ∃ a : Nat, a < 10 ∧ c = nI (48 + a) := by
  simp only [s_isFigure, Bool.and_eq_true, Bool.not_eq_true', decide_eq_false_iff_not] at h
  obtain ⟨h1, h2⟩ := h
  have h0 : ¬ c < 0 := fun z => h1 (by
    rw [Int32.lt_iff_toInt_lt] at z ⊢
    exact Int.lt_trans z (by decide))
  obtain ⟨x, hx, rfl⟩ := nI_of h0
  rw [show (48 : Int32) = nI 48 from rfl, nI_ltI (by omega) (by omega)] at h1
  rw [show (57 : Int32) = nI 57 from rfl, nI_ltI (by omega) (by omega)] at h2
  exact ⟨x - 48, by omega, by rw [show 48 + (x - 48) = x by omega]⟩
theorem two_figs : ∀ a : Fin 10, ∀ b : Fin 10, (10 : Int32) * (nI (48 + a.val) - 48) + nI (48 + b.val) - 48 = nI (10 * a.val + b.val) := by decide +kernel
theorem tp_rule {L : Nat} {lt : Nat → Int32} (hL : L ≤ 50) (h : tp_fault L lt L 0 = -1) : ∃ M : Nat, M ≤ 12 ∧ 0 < M ∧ L = 3 * M ∧ ∀ j, j < M → s_isSign (lt (3 * j)) = true ∧ ∃ v : Nat, v < 100 ∧ tp_num L lt (3 * j + 1) = nI v ∧ (s_asks (lt (3 * j)) = true → v < 24) := by
  obtain ⟨h1, h2, h3⟩ := tp_ok hL L 0 (by omega) h
  refine ⟨L / 3, ?_, by omega, by omega, fun j hj => ?_⟩
  · have := (h1 (L - 1) (by omega) (by omega)).1
    omega
  · obtain ⟨-, a1, -⟩ := h1 (3 * j) (by omega) (by omega)
    obtain ⟨-, b1, -⟩ := h1 (3 * j + 1) (by omega) (by omega)
    obtain ⟨-, c1, c2⟩ := h1 (3 * j + 2) (by omega) (by omega)
    rw [if_pos (by omega)] at a1
    rw [if_neg (by omega)] at b1 c1
    obtain ⟨x, hx, ex⟩ := fig_of b1
    obtain ⟨y, hy, ey⟩ := fig_of c1
    have el : ∀ k, k < L → tp_la L lt k = lt k := fun k hk => if_pos hk
    have en : tp_num L lt (3 * j + 1) = nI (10 * x + y) := by
      unfold tp_num
      rw [el _ (by omega), el _ (by omega), show 3 * j + 1 + 1 = 3 * j + 2 by omega, ex, ey]
      exact two_figs ⟨x, hx⟩ ⟨y, hy⟩
    refine ⟨a1, 10 * x + y, by omega, en, fun hs => ?_⟩
    have e2 : (3 * j + 2) % 3 = 2 := by omega
    rw [e2, show 3 * j + 2 - 2 = 3 * j by omega] at c2
    have hk : s_isKey (tp_num L lt (3 * j + 1)) = true := by
      cases hq : s_isKey (tp_num L lt (3 * j + 1)) with
      | true => rfl
      | false =>
        refine absurd ⟨by omega, ?_⟩ c2
        have e3 : tp_least L lt (3 * j) 2 = tp_num L lt (3 * j + 1) := if_neg (by omega)
        unfold tp_nokey
        rw [e3, el _ (by omega), hs, hq]
        rfl
    rw [en] at hk
    obtain ⟨t, ht, e4⟩ := inK.mp hk
    have := (nI_eq (a := 10 * x + y) (b := t) (by omega) (by omega)).mp e4
    omega
