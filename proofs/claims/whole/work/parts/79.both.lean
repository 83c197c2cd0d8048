/-! class and reference side by side, in one heap -/
abbrev mL_law : pm_M := (yL_law, code, 4, some .boolean)
def lw_f0 (b L : Nat) (xs : Nat → Int32) : Nat → Option va_E := fun a => if a = b then some (.inl (9, L, .inl xs)) else none
theorem IsRw.ag2 {f g : Nat → Option va_E} {e : Nat} {R : Nat → aR} (h : IsRw f e R) (hg : ∀ b, e + 334 ≤ b → b < e + 343 → g b = f b) : IsRw g e R := by
  obtain ⟨rw, h1, h2⟩ := h
  refine ⟨rw, by rw [hg _ (by omega) (by omega)]; exact h1, fun i hi => ?_⟩
  obtain ⟨a1, pl, a2, a3⟩ := h2 i hi
  exact ⟨a1, pl, ⟨by rw [hg _ (by omega) (by omega)]; exact a2.1, by rw [hg _ (by omega) (by omega)]; exact a2.2⟩, a3⟩
theorem IsE.out {f g : Nat → Option va_E} {e : Nat} {C : CS} (h : IsE f e C) (hg : ∀ b, b < e + 343 → g b = f b) (hk : keeps f g) : IsE g e C := by
  obtain ⟨h1, h2, ⟨sb, S, h3⟩, h4, h5, h6⟩ := h
  have ha : Ag f g (e + 343) (e + 343) (e + 343) := fun b hb _ => hg b hb
  exact ⟨by rw [hg _ (by omega)]; exact h1, h2.ag ha (by omega) (by omega) hk, ⟨sb, S, h3.ag ha (by omega) (by omega) hk⟩, h4.ag ha (by omega) (by omega) hk, ⟨by rw [hg _ (by omega)]; exact h5.1, by rw [hg _ (by omega)]; exact h5.2.1, h5.2.2⟩, h6.ag2 (fun b _ hb => hg b hb)⟩
theorem keeps_mH {r : Nat} {g : Nat → Option va_E} {M M' : MS} : keeps (mH r g M) (mH r g M') := fun a fs ha => by
  by_cases h : r ≤ a ∧ a < r + 20
  · obtain ⟨i, rfl⟩ : ∃ i, a = r + i := ⟨a - r, by omega⟩
    rw [mH_at (by omega)] at ha
    unfold mCell at ha
    split at ha
    · cases ha
    · split at ha <;> cases ha
  · rw [mH_out (by omega)] at ha ⊢
    exact ha
/-- what holds ahead of the q-th call -/
def LI (b L : Nat) (xs : Nat → Int32) (e r N0 W0 q : Nat) (C : CS) (n w : Nat) (g : Nat → Option va_E) (M : MS) (bk : BK) : Prop := IsE (mH r g M) e C ∧ RP bk M C ∧ wfH (mH r g M) n ∧ r + 20 ≤ n ∧ mH r g M b = some (.inl (9, L, .inl xs)) ∧ ne bk ≤ 16 * q ∧ n ≤ N0 + 17 * q ∧ w ≤ W0 + 85 * q ∧ b < e ∧ e + 343 ≤ r
section M79
variable {B : Nat} {D : va_G} {b L : Nat} {xs : Nat → Int32} {e r N0 W0 q : Nat} {C : CS} {n w : Nat} {g : Nat → Option va_E} {M : MS} {bk : BK}
theorem LI.two (h : LI b L xs e r N0 W0 q C n w g M bk) (hq : q ≤ 511) {d1 d2 : Nat} {μ ν : pm_M} {As : List Value} {v : Value} {C' : CS}
    (hc : ∃ (n' w' : Nat) (G : Nat → Option va_E), CT B D d1 μ (.ref e :: As) (n, w, mH r g M) (some v) (n', w', G) ∧ IsE G e C' ∧ Ch (mH r g M) G n n' w w' e (e + 343))
    (hr : ∀ (n' w' : Nat) (G : Nat → Option va_E), ne bk + 16 ≤ 8900 → RQ B D n' w' r G d2 ν As bk M v C') :
    ∃ (n' w' : Nat) (G : Nat → Option va_E) (M' : MS) (bk' : BK), CT B D d1 μ (.ref e :: As) (n, w, mH r g M) (some v) (n', w', mH r G M) ∧ CT B D d2 ν (.ref r :: As) (n', w', mH r G M) (some v) (n', w', mH r G M') ∧ LI b L xs e r N0 W0 (q + 1) C' n' w' G M' bk' ∧ mH r G M b = some (.inl (9, L, .inl xs)) ∧ mH r G M r = some (.inr (7, mfs r M.1)) := by
  obtain ⟨h1, h2, h3, h4, h5, h6, h7, h8, h9, h10⟩ := h
  obtain ⟨n', w', G, c1, c2, c3, c4, c5, c6, c7, c8⟩ := hc
  obtain ⟨M', bk', r1, r2, r3⟩ := hr n' w' G (by omega)
  have hG : mH r G M = G := mH_id (f := g) (fun j hj => c3 (r + j) (by omega) (Or.inr (by omega)))
  have hwf := c5 h3
  have hb : G b = some (.inl (9, L, .inl xs)) := by
    have hlt := h3.lt h5
    rw [c3 b hlt (Or.inl h9)]; exact h5
  refine ⟨n', w', G, M', bk', by rw [hG]; exact c1, r1, ⟨?_, r2, fun a ha => ?_, by omega, ?_, by omega, by omega, by omega, h9, h10⟩, by rw [hG]; exact hb, mH_0⟩
  · have hE : IsE (mH r G M) e C' := by rw [hG]; exact c2
    exact hE.out (fun a ha => by rw [mH_out (by omega), mH_out (by omega)]) keeps_mH
  · rw [mH_out (by omega)]
    have : mH r G M a = none := by rw [hG]; exact hwf a ha
    rw [mH_out (by omega)] at this
    exact this
  · rw [mH_out (by omega)]; exact hb
/-- a class's call that only looks -/
theorem look {d : Nat} {μ : pm_M} {As : List Value} {v : Value} {F : Nat → Option va_E} (hE : IsE F e C) (hC : CT B D d μ (.ref e :: As) (n, w, F) (some v) (n, w, F)) : ∃ (n' w' : Nat) (G : Nat → Option va_E), CT B D d μ (.ref e :: As) (n, w, F) (some v) (n', w', G) ∧ IsE G e C ∧ Ch F G n n' w w' e (e + 343) := ⟨n, w, F, hC, hE, Ch.rf _ _ _ _ _⟩
theorem some3 {d : Nat} {μ : pm_M} {As : List Value} {v : Value} {F : Nat → Option va_E} {C' : CS} (h : ∃ G : Nat → Option va_E, CT B D d μ (.ref e :: As) (n, w, F) (some v) (n, w, G) ∧ IsE G e C' ∧ Ch F G n n w w e (e + 343)) : ∃ (n' w' : Nat) (G : Nat → Option va_E), CT B D d μ (.ref e :: As) (n, w, F) (some v) (n', w', G) ∧ IsE G e C' ∧ Ch F G n n' w w' e (e + 343) := by
  obtain ⟨G, h1, h2, h3⟩ := h
  exact ⟨n, w, G, h1, h2, h3⟩
end M79

