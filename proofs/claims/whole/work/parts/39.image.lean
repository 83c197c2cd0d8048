/-! THE IMAGE -/
def aCount (A : AW) : Int32 := cntF (fun k => (aHas A k).isSome) 16 8 0
def v_image (C : CS) : Int32 × CS := (aCount C.1.1.A, (C.1, (true, C.1.1.A), C.2.2))
def v_undo (C : CS) : Int32 × CS := if C.2.1.1 = true then (aCount C.2.1.2, ((aForget (C.2.1.2, C.1.1.2), none), C.2)) else (-3, C)
theorem wfH.ag {f g : Nat → Option va_E} {n lo hi : Nat} (h : wfH f n) (hg : ∀ N, Ag f g lo hi N) (hh : hi ≤ n) : wfH g n := fun a ha => by rw [hg (a + 1) a (by omega) (Or.inr (by omega))]; exact h a ha
section M39
variable {B : Nat} {D : va_G} {n w : Nat} {f : Nat → Option va_E} {e : Nat} {C : CS}
theorem c_X6_image (h : IsE f e C) (hwf : wfH f n) : ∃ g : Nat → Option va_E, CT B D 50 mX6_image [.ref e] (n, w, f) (some (.int (v_image C).1)) (n, w, g) ∧ IsE g e (v_image C).2 ∧ Ch f g n n w w e (e + 343) := by
  have ht := h.top hwf
  obtain ⟨g1, hC, a1, a2, a3⟩ := c_X5_copyFrom (B := B) (D := D) (n := n) (w := w) (a := e + 223) (b := e + 1 + 1) (by omega) (by omega) (by omega) h.2.2.2.1 h.2.1.w
  have hwf1 := hwf.ag a2 (by omega)
  have hE1 := h.image hwf (a2 n) a3 a1
  obtain ⟨b1, b2, b3⟩ := hE1.cell hwf1 true
  have he := h.1
  have he1 := hE1.1
  have hW := h.2.1.w
  have hV := h.2.2.2.1
  have hR := c_X5_resultCount (B := B) (D := D) (n := n) (w := w) b1.2.1.w
  have hbe := b1.1
  have hw1 := hE1.2.1.w
  refine ⟨_, ?_, b1, ((a2 n).wide (by omega) (by omega)).tra ((b3 n).wide (by omega) (by omega)) (Nat.le_refl _), keeps_tr a3 b2, fun _ => hwf1.up (hwf1.lt he1), Nat.le_refl _, by omega, rfl⟩
  refine CT.of [some (.ref e)] rfl (Nat.le_of_ble_eq_true rfl) pl_X6 trivial ?_
  refine px_aload_n dX6_image_0 rfl ?_
  refine px_getfield fl_X6_29 dX6_image_1 (by first | exact he | exact hV.1 | exact he1 | exact hbe | exact b1.2.1.w.1) (by rfl) ?_
  refine px_aload_n dX6_image_4 rfl ?_
  refine px_getfield fl_X6_25 dX6_image_5 (by first | exact he | exact hV.1 | exact he1 | exact hbe | exact b1.2.1.w.1) (by rfl) ?_
  refine px_callV0 (ν := mX5_copyFrom) (ci := 5) rfl rfl lk_X6_126 in_X5_copyFrom se_X5_copyFrom mok_X5_copyFrom dX6_image_8 (hC) (by first | exact he | exact hV.1 | exact he1 | exact hbe | exact b1.2.1.w.1) rfl rfl (by omega) (by simp) ?_
  refine px_aload_n dX6_image_11 rfl ?_
  refine px_iconst (v := 1) dX6_image_12 (by decide) ?_
  refine px_putfield fp_X6_265 dX6_image_13 (by first | exact he | exact hV.1 | exact he1 | exact hbe | exact b1.2.1.w.1) rfl rfl (by simp) ?_
  refine px_aload_n dX6_image_16 rfl ?_
  refine px_getfield fl_X6_25 dX6_image_17 (by first | exact he | exact hV.1 | exact he1 | exact hbe | exact b1.2.1.w.1) (by rfl) ?_
  refine px_callV1 (ν := mX5_resultCount) (ci := 5) rfl rfl lk_X6_213 in_X5_resultCount se_X5_resultCount mok_X5_resultCount dX6_image_20 (hR) (by first | exact he | exact hV.1 | exact he1 | exact hbe | exact b1.2.1.w.1) rfl rfl (by omega) (by simp) ?_
  exact px_reti dX6_image_23 (by rfl) (by rfl)
theorem c_X6_undo (h : IsE f e C) (hwf : wfH f n) : ∃ g : Nat → Option va_E, CT B D 50 mX6_undo [.ref e] (n, w, f) (some (.int (v_undo C).1)) (n, w, g) ∧ IsE g e (v_undo C).2 ∧ Ch f g n n w w e (e + 343) := by
  have ht := h.top hwf
  have he := h.1
  by_cases hi : C.2.1.1 = true
  · have h0 : v_undo C = (aCount C.2.1.2, ((aForget (C.2.1.2, C.1.1.2), none), C.2)) := by unfold v_undo; rw [if_pos hi]
    rw [h0]
    obtain ⟨g1, hC, a1, a2, a3⟩ := c_X5_copyFrom (B := B) (D := D) (n := n) (w := w) (a := e + 1 + 1) (b := e + 223) (by omega) (by omega) (by omega) h.2.1.w h.2.2.2.1
    have hwf1 := hwf.ag a2 (by omega)
    have hE1 := h.worlds hwf (a2 n) (Nat.le_refl _) (Nat.le_refl _) a3 a1
    obtain ⟨g2, hF, c1, c2, c3, c4⟩ := hE1.2.1.forget (B := B) (D := D) (w := w) hwf1
    have hE2 := hE1.build hwf1 (sb := none) ((c3 n).wide (Nat.le_refl _) (by omega)) c4 c1
    have hR := c_X5_resultCount (B := B) (D := D) (n := n) (w := w) hE2.2.1.w
    have he1 := hE1.1
    have he2 := hE2.1
    have hW := h.2.1.w
    obtain ⟨dn, op, wt, dk, hcb, -⟩ := id hE1.2.1
    have hW2 := hE2.2.1.w
    refine ⟨g2, ?_, hE2, ((a2 n).wide (by omega) (by omega)).tra ((c3 n).wide (by omega) (by omega)) (Nat.le_refl _), keeps_tr a3 c4, fun _ => c2, Nat.le_refl _, by omega, rfl⟩
    refine CT.of [some (.ref e)] rfl (Nat.le_of_ble_eq_true rfl) pl_X6 trivial ?_
    refine px_aload_n dX6_undo_0 rfl ?_
    refine px_getfield fl_X6_265 dX6_undo_1 (by first | exact he | exact hW.1 | exact he1 | exact he2 | exact hcb | exact hW2.1) (by rfl) ?_
    refine px_ifb_ne (tgt := 10) dX6_undo_4 (by decide) (fun hc4 => ?_) (fun hc4 => ?_)
    · refine px_aload_n dX6_undo_10 rfl ?_
      refine px_getfield fl_X6_25 dX6_undo_11 (by first | exact he | exact hW.1 | exact he1 | exact he2 | exact hcb | exact hW2.1) (by rfl) ?_
      refine px_aload_n dX6_undo_14 rfl ?_
      refine px_getfield fl_X6_29 dX6_undo_15 (by first | exact he | exact hW.1 | exact he1 | exact he2 | exact hcb | exact hW2.1) (by rfl) ?_
      refine px_callV0 (ν := mX5_copyFrom) (ci := 5) rfl rfl lk_X6_126 in_X5_copyFrom se_X5_copyFrom mok_X5_copyFrom dX6_undo_18 (hC) (by first | exact he | exact hW.1 | exact he1 | exact he2 | exact hcb | exact hW2.1) rfl rfl (by omega) (by simp) ?_
      refine px_aload_n dX6_undo_21 rfl ?_
      refine px_getfield fl_X6_14 dX6_undo_22 (by first | exact he | exact hW.1 | exact he1 | exact he2 | exact hcb | exact hW2.1) (by rfl) ?_
      refine px_callV0 (ν := mX0_forgetBuild) (ci := 0) rfl rfl lk_X6_268 in_X0_forgetBuild se_X0_forgetBuild mok_X0_forgetBuild dX6_undo_25 (hF) (by first | exact he | exact hW.1 | exact he1 | exact he2 | exact hcb | exact hW2.1) rfl rfl (by omega) (by simp) ?_
      refine px_aload_n dX6_undo_28 rfl ?_
      refine px_getfield fl_X6_25 dX6_undo_29 (by first | exact he | exact hW.1 | exact he1 | exact he2 | exact hcb | exact hW2.1) (by rfl) ?_
      refine px_callV1 (ν := mX5_resultCount) (ci := 5) rfl rfl lk_X6_213 in_X5_resultCount se_X5_resultCount mok_X5_resultCount dX6_undo_32 (hR) (by first | exact he | exact hW.1 | exact he1 | exact he2 | exact hcb | exact hW2.1) rfl rfl (by omega) (by simp) ?_
      exact px_reti dX6_undo_35 (by rfl) (by rfl)
    · rw [hi] at hc4; cases hc4
  · have h0 : v_undo C = (-3, C) := by unfold v_undo; rw [if_neg hi]
    rw [h0]
    refine ⟨f, ?_, h, Ch.rf _ _ _ _ _⟩
    refine CT.of [some (.ref e)] rfl (Nat.le_of_ble_eq_true rfl) pl_X6 trivial ?_
    refine px_aload_n dX6_undo_0 rfl ?_
    refine px_getfield fl_X6_265 dX6_undo_1 (by exact he) (by rfl) ?_
    refine px_ifb_ne (tgt := 10) dX6_undo_4 (by decide) (fun hc4 => ?_) (fun hc4 => ?_)
    · exact absurd hc4 hi
    · refine px_bipush (v := (-3)) dX6_undo_7 (by decide) ?_
      exact px_reti dX6_undo_9 (by rfl) (by rfl)
end M39
