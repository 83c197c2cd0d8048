/-! the calls over the picture of the whole engine -/
section M51
variable {B : Nat} {D : va_G} {n n' w w' : Nat} {f g : Nat → Option va_E} {e : Nat} {C : CS}
theorem IsE.ofW (h : IsE f e C) (hwf : wfH f n) {A' : AW} {lo hi : Nat} (hW : IsW g (e + 1 + 1) A') (hc : Ch f g n n' w w' lo hi) (h1 : e + 1 + 1 ≤ lo) (h2 : hi ≤ e + 1 + 1 + 85) : IsE g e (((A', C.1.1.2), C.1.2), C.2) ∧ Ch f g n n' w w' e (e + 343) := ⟨h.worlds hwf hc.1 h1 h2 hc.2.1 hW, hc.1.wide (by omega) (by omega), hc.2⟩
theorem IsE.ofT (h : IsE f e C) (hwf : wfH f n) {L : Nat} {lt : Nat → Int32} (hP : IsP g (e + 332) L lt) (hc : Ch f g n n' w w' (e + 332) (e + 334)) : IsE g e (C.1, (C.2.1, ((L, lt), C.2.2.2))) ∧ Ch f g n n' w w' e (e + 343) := ⟨h.tape hwf hc.1 hc.2.1 hP, hc.1.wide (by omega) (by omega), hc.2⟩
theorem IsE.ofR (h : IsE f e C) (hwf : wfH f n) {R : Nat → aR} (hR : IsRw g e R) (hc : Ch f g n n' w w' (e + 335) (e + 343)) : IsE g e (C.1, (C.2.1, (C.2.2.1, R))) ∧ Ch f g n n' w w' e (e + 343) := ⟨h.rows hwf hc.1 hc.2.1 hR, hc.1.wide (by omega) (by omega), hc.2⟩
theorem e_give (h : IsE f e C) (hwf : wfH f n) (k : Int32) (v : Int32) : ∃ (n' w' : Nat) (g : Nat → Option va_E), CT B D 5 mX6_give [.ref e, .int k, .int v] (n, w, f) (some (.int (v_give C.1.1.A k v).1)) (n', w', g) ∧ IsE g e (((((v_give C.1.1.A k v).2, C.1.1.2), C.1.2), C.2)) ∧ Ch f g n n' w w' e (e + 343) := by
  obtain ⟨n', w', g, hC, hW, hc⟩ := c_X6_give (B := B) (D := D) (n := n) (w := w) h.1 h.2.1.w hwf k v
  exact ⟨n', w', g, hC, h.ofW hwf hW hc (by omega) (by omega)⟩
theorem e_take (h : IsE f e C) (hwf : wfH f n) (k : Int32) : ∃ g : Nat → Option va_E, CT B D 5 mX6_take [.ref e, .int k] (n, w, f) (some (.int (v_take C.1.1.A k).1)) (n, w, g) ∧ IsE g e (((((v_take C.1.1.A k).2, C.1.1.2), C.1.2), C.2)) ∧ Ch f g n n w w e (e + 343) := by
  obtain ⟨g, hC, hW, hc⟩ := c_X6_take (B := B) (D := D) (n := n) (w := w) h.1 h.2.1.w hwf k
  exact ⟨g, hC, h.ofW hwf hW hc (by omega) (by omega)⟩
theorem e_drop (h : IsE f e C) (hwf : wfH f n) (k : Int32) : ∃ g : Nat → Option va_E, CT B D 5 mX6_drop [.ref e, .int k] (n, w, f) (some (.int (v_drop C.1.1.A k).1)) (n, w, g) ∧ IsE g e (((((v_drop C.1.1.A k).2, C.1.1.2), C.1.2), C.2)) ∧ Ch f g n n w w e (e + 343) := by
  obtain ⟨g, hC, hW, hc⟩ := c_X6_drop (B := B) (D := D) (n := n) (w := w) h.1 h.2.1.w hwf k
  exact ⟨g, hC, h.ofW hwf hW hc (by omega) (by omega)⟩
theorem e_forget (h : IsE f e C) (hwf : wfH f n) (k : Int32) : ∃ g : Nat → Option va_E, CT B D 5 mX6_forget [.ref e, .int k] (n, w, f) (some (.int (v_forget C.1.1.A k).1)) (n, w, g) ∧ IsE g e (((((v_forget C.1.1.A k).2, C.1.1.2), C.1.2), C.2)) ∧ Ch f g n n w w e (e + 343) := by
  obtain ⟨g, hC, hW, hc⟩ := c_X6_forget (B := B) (D := D) (n := n) (w := w) h.1 h.2.1.w hwf k
  exact ⟨g, hC, h.ofW hwf hW hc (by omega) (by omega)⟩
theorem e_copy (h : IsE f e C) (hwf : wfH f n) (k : Int32) (j : Int32) : ∃ g : Nat → Option va_E, CT B D 5 mX6_copy [.ref e, .int k, .int j] (n, w, f) (some (.int (v_copy C.1.1.A k j).1)) (n, w, g) ∧ IsE g e (((((v_copy C.1.1.A k j).2, C.1.1.2), C.1.2), C.2)) ∧ Ch f g n n w w e (e + 343) := by
  obtain ⟨g, hC, hW, hc⟩ := c_X6_copy (B := B) (D := D) (n := n) (w := w) h.1 h.2.1.w hwf k j
  exact ⟨g, hC, h.ofW hwf hW hc (by omega) (by omega)⟩
theorem e_feed (h : IsE f e C) (hwf : wfH f n) (x : Int32) : ∃ g : Nat → Option va_E, CT B D 5 mX6_feed [.ref e, .int x] (n, w, f) (some (.int (v_feed C.2.2.1 x).1)) (n, w, g) ∧ IsE g e (C.1, (C.2.1, ((v_feed C.2.2.1 x).2, C.2.2.2))) ∧ Ch f g n n w w e (e + 343) := by
  obtain ⟨g, hC, hP, hc⟩ := c_X6_feed (B := B) (D := D) (n := n) (w := w) h.1 (T := C.2.2.1) h.2.2.2.2.1 x
  exact ⟨g, hC, h.ofT hwf hP hc⟩
theorem e_clear (h : IsE f e C) (hwf : wfH f n) : ∃ g : Nat → Option va_E, CT B D 5 mX6_clear [.ref e] (n, w, f) (some (.int (nI C.2.2.1.1))) (n, w, g) ∧ IsE g e (C.1, (C.2.1, ((0, C.2.2.1.2), C.2.2.2))) ∧ Ch f g n n w w e (e + 343) := by
  obtain ⟨g, hC, hP, hc⟩ := c_X6_clear (B := B) (D := D) (n := n) (w := w) h.1 (T := C.2.2.1) h.2.2.2.2.1
  exact ⟨g, hC, h.ofT hwf hP hc⟩
theorem e_list (h : IsE f e C) (hwf : wfH f n) (k : Int32) (x : Int32) : ∃ g : Nat → Option va_E, CT B D 2 mX6_list [.ref e, .int k, .int x] (n, w, f) (some (.int (v_list C.2.2.2 k x).1)) (n, w, g) ∧ IsE g e (C.1, (C.2.1, (C.2.2.1, (v_list C.2.2.2 k x).2))) ∧ Ch f g n n w w e (e + 343) := by
  obtain ⟨g, hC, hR, h1, h2, h3⟩ := c_X6_list (B := B) (D := D) (n := n) (w := w) h.1 h.2.2.2.2.2 k x
  exact ⟨g, hC, h.ofR hwf hR ⟨h1 n, h2, h3, Nat.le_refl _, by omega, rfl⟩⟩
theorem e_put (h : IsE f e C) (hwf : wfH f n) (k : Int32) (i : Int32) (v : Int64) : ∃ g : Nat → Option va_E, CT B D 2 mX6_put [.ref e, .int k, .int i, .long v] (n, w, f) (some (.int (v_put C.2.2.2 k i v).1)) (n, w, g) ∧ IsE g e (C.1, (C.2.1, (C.2.2.1, (v_put C.2.2.2 k i v).2))) ∧ Ch f g n n w w e (e + 343) := by
  obtain ⟨g, hC, hR, hc⟩ := c_X6_put (B := B) (D := D) (n := n) (w := w) h.1 h.2.2.2.2.2 k i v
  exact ⟨g, hC, h.ofR hwf hR hc⟩
theorem e_move (h : IsE f e C) (hwf : wfH f n) (k : Int32) (i : Int32) (u : Int32) (j : Int32) (m : Int32) : ∃ g : Nat → Option va_E, CT B D 3 mX6_move [.ref e, .int k, .int i, .int u, .int j, .int m] (n, w, f) (some (.int (v_move C.2.2.2 k i u j m).1)) (n, w, g) ∧ IsE g e (C.1, (C.2.1, (C.2.2.1, (v_move C.2.2.2 k i u j m).2))) ∧ Ch f g n n w w e (e + 343) := by
  obtain ⟨g, hC, hR, hc⟩ := c_X6_move (B := B) (D := D) (n := n) (w := w) h.1 h.2.2.2.2.2 k i u j m
  exact ⟨g, hC, h.ofR hwf hR hc⟩
theorem e_lay (h : IsE f e C) (hwf : wfH f n) (k : Int32) (i : Int32) : ∃ g : Nat → Option va_E, CT B D 4 mX6_lay [.ref e, .int k, .int i] (n, w, f) (some (.int (v_lay C.1.1.A C.2.2.2 k i).1)) (n, w, g) ∧ IsE g e (C.1, (C.2.1, (C.2.2.1, (v_lay C.1.1.A C.2.2.2 k i).2))) ∧ Ch f g n n w w e (e + 343) := by
  obtain ⟨g, hC, hR, hc⟩ := c_X6_lay (B := B) (D := D) (n := n) (w := w) h.1 h.2.1.w h.2.2.2.2.2 k i
  exact ⟨g, hC, h.ofR hwf hR hc⟩
theorem e_depth (h : IsE f e C) (hwf : wfH f n) (hok : trOk C.1.1.A.tr) (hno : noRing C.1.1.A.tr) (k : Int32) : ∃ g : Nat → Option va_E, CT B D 5 mX6_depth [.ref e, .int k] (n, w, f) (some (.int (v_depth C.1.1.A k))) (n, w, g) ∧ IsE g e C ∧ Ch f g n n w w e (e + 343) := by
  obtain ⟨g, hC, hW, hK, hA⟩ := c_X6_depth (B := B) (D := D) (n := n) (w := w) h.1 h.2.1.w hok hno k
  have ht := h.top hwf
  obtain ⟨h1, h2⟩ := h.ofW (w := w) (w' := w) hwf hW ⟨hA n, hK, fun hw => hw.ag hA (by omega), Nat.le_refl _, by omega, rfl⟩ (by omega) (by omega)
  exact ⟨g, hC, h1, h2⟩
end M51
