/-! the start, and the law's run -/
theorem mI_00 {r : Nat} {f : Nat → Option va_E} : va_up f r (some (.inr (7, mfs0))) = mI r f M00 mfs0 0 := by
  funext a
  unfold mI
  by_cases h : a = r
  · subst h; rw [va_up_self, if_pos rfl]
  · rw [va_up_ne _ _ h, if_neg h, if_neg (by omega)]
theorem rp_start {M : MS} (m1 : M.1 = M01.1) (m2 : ∀ j, j ≠ 5 → M.2.1 j = M01.2.1 j) (m3 : M.2.2 = M01.2.2) (m4 : ∀ q, q < 8 → M.2.1 5 q = -1) (m5 : ∀ q, 8 ≤ q → q < 408 → M.2.1 5 q = 0) (m6 : ∀ q, q < 16 → M.2.1 5 (408 + q) = -1 ∧ M.2.1 5 (424 + 25 * q) = -1) : RP [] M C00 := by
  have hnil : ∀ {α : Type} {i : Nat} {x : α}, ([] : List α)[i]? = some x → False := fun h => by simp at h
  refine ⟨⟨by rw [m1]; rfl, fun i x hx => absurd hx (fun h => hnil h), List.nodup_nil, fun x hx => absurd hx List.not_mem_nil⟩, ⟨⟨fun k hk => m4 k hk, fun t ht => ⟨Nat.zero_le _, m5 _ (by omega) (by omega), fun i x hx => absurd hx (fun h => hnil h)⟩, fun t ht => (m6 t ht).1, fun t ht _ => (m6 t ht).2⟩, ?_⟩, ⟨by rw [m1]; rfl, fun h => absurd h (by decide)⟩, ⟨⟨by rw [m1]; rfl, fun i x hx => absurd hx (fun h => hnil h), by rw [m1]; rfl, by rw [m1]; rfl, by rw [m1]; rfl, by rw [m1]; rfl⟩, Nat.zero_le _, by rw [m1]; rfl⟩, ⟨by rw [m1]; rfl, Nat.zero_le _, fun i hi => absurd hi (Nat.not_lt_zero _)⟩, ?_⟩
  · refine ⟨fun k x hx => absurd hx List.not_mem_nil, fun t ht => ⟨fun h => absurd rfl h, fun _ => rfl, fun T x h => by cases h⟩, fun _ => 0, fun t T x ht h => by cases h⟩
  · intro i hi
    refine ⟨?_, Nat.zero_le _, fun j hj => by rw [m3]; rfl⟩
    rw [m2 17 (by decide)]
    match i, hi with
    | 0, _ => rfl
    | 1, _ => rfl
    | 2, _ => rfl
    | 3, _ => rfl
    | k + 4, hk => exact absurd hk (by omega)
/-- THE LAW'S RUN, over the heap told as a function -/
theorem law_run (B : Nat) (D : va_G) (b L : Nat) (xs : Nat → Int32) (hL : L ≤ 3072) (hb : b < B) : ∃ h1 : pm_H, EX B D 100 mL_law 0 [some (.ref b), none, none, none] [] (B, 0, lw_f0 b L xs) (some (.int 1)) h1 ∧ h1.1 - B ≤ 600000 ∧ h1.2.1 ≤ 7302250 := by
  have f0 : wfH (lw_f0 b L xs) B := fun a ha => if_neg (by omega)
  have f1 : wfH (va_up (lw_f0 b L xs) B (some (.inr (6, [.null, .null, .null, .null, .null, .null, .int 0])))) (B + 1) := f0.new
  obtain ⟨w1, g, a1, a2, a3, a4, a5⟩ := c_X6_init (B := B) (D := D) (w := 0 + 7) (e := B) (va_up_self _ _ _) f1
  obtain ⟨w2, M, b1, b2, b3, b4, b5, b6, b7, b8⟩ := c_X7_init (B := B) (D := D) (w := w1 + 29) (r := B + 343) (f := g)
  have hE : IsE (mH (B + 343) g M) B C00 := a3.out (fun a ha => mH_out (by omega)) (fun a fs ha => by
    have hlt := a4.lt ha
    rw [mH_out (by omega)]; exact ha)
  have hbb : mH (B + 343) g M b = some (.inl (9, L, .inl xs)) := by
    rw [mH_out (by omega), a5 b hb, va_up_ne _ _ (by omega)]
    exact if_pos rfl
  have h0 : LI b L xs B (B + 343) (B + 363) (w1 + 29 + 38778) 0 C00 (B + 343 + 20) w2 g M [] := ⟨hE, rp_start b3 b4 b5 b6 b7 b8, fun a ha => by rw [mH_out (by omega)]; exact a4 a (by omega), Nat.le_refl _, hbb, Nat.le_refl _, by omega, by omega, hb, Nat.le_refl _⟩
  obtain ⟨h1, c1, c2, c3⟩ := law_loop (B := B) (D := D) hL 512 0 C00 (B + 343 + 20) w2 g M [] rfl h0
  refine ⟨h1, ?_, by omega, by omega⟩
  refine px_new (ci := 6) (fs := [.null, .null, .null, .null, .null, .null, .int 0]) rfl cl_L_7 ins_RX6 ini_RX6 tyX6 tyX6_ok (def_X6) dL_law_0 ?_
  refine px_dup dL_law_3 rfl ?_
  refine px_callI (ν := mX6_init) rfl rfl lk_L_9 in_X6_init mok_X6_init dL_law_4 (a1) rfl rfl (by omega) (by simp) ?_
  refine px_astore1 rfl dL_law_7 ?_
  refine px_new (ci := 7) (fs := mfs0) rfl cl_L_10 ins_RX7 ini_RX7 tyX7 tyX7_ok (def_X7) dL_law_8 ?_
  rw [mI_00]
  refine px_dup dL_law_11 rfl ?_
  refine px_callI (ν := mX7_init) rfl rfl lk_L_12 in_X7_init mok_X7_init dL_law_12 (b1) rfl rfl (by omega) (by simp) ?_
  refine px_astore2 rfl dL_law_15 ?_
  refine px_iconst (v := 0) dL_law_16 (by decide) ?_
  refine px_istore3 rfl dL_law_17 ?_
  exact c1
