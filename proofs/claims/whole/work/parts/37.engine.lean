/-! the picture of the whole engine -/
abbrev CS : Type := (BS × Option Nat) × (Bool × AW) × (Nat × (Nat → Int32)) × (Nat → aR)
def IsE (f : Nat → Option va_E) (e : Nat) (C : CS) : Prop := f e = some (ecell e C.2.1.1) ∧ IsB f (e + 1) (sbO C.1.2) C.1.1 ∧ (∃ (sb : Int32) (S : BS), IsB f (e + 112) sb S) ∧ IsW f (e + 223) C.2.1.2 ∧ IsP f (e + 332) C.2.2.1.1 C.2.2.1.2 ∧ IsRw f e C.2.2.2
theorem IsB.ag {f g : Nat → Option va_E} {lo hi n b : Nat} {sb : Int32} {S : BS} (h : IsB f b sb S) (hg : Ag f g lo hi n) (hn : b + 111 ≤ n) (hr : b + 111 ≤ lo ∨ hi ≤ b) (hk : keeps f g) : IsB g b sb S := by
  obtain ⟨dn, op, wt, dk, h1, h2, h3, h4, h5, h6, h7⟩ := h
  exact ⟨dn, op, wt, dk, by rw [hg _ (by omega) (by omega)]; exact h1, by rw [hg _ (by omega) (by omega)]; exact h2, h3, h4, h5, h6, h7.ag hg (by omega) (by omega) hk⟩
theorem IsB.world {f g : Nat → Option va_E} {n b : Nat} {sb : Int32} {S : BS} {A' : AW} (h : IsB f b sb S) (hW : IsW g (b + 1) A') (hg : Ag f g (b + 1) (b + 1 + 85) n) (hn : b + 111 ≤ n) : IsB g b sb (A', S.2) := by
  obtain ⟨dn, op, wt, dk, h1, h2, h3, h4, h5, h6, h7⟩ := h
  exact ⟨dn, op, wt, dk, by rw [hg _ (by omega) (by omega)]; exact h1, by rw [hg _ (by omega) (by omega)]; exact h2, h3, h4, h5, h6, hW⟩
theorem IsB.w {f : Nat → Option va_E} {b : Nat} {sb : Int32} {S : BS} (h : IsB f b sb S) : IsW f (b + 1) S.A := by
  obtain ⟨dn, op, wt, dk, h1, h2, h3, h4, h5, h6, h7⟩ := h
  exact h7
theorem IsP.ag {f g : Nat → Option va_E} {lo hi n a L : Nat} {lt : Nat → Int32} (h : IsP f a L lt) (hg : Ag f g lo hi n) (hn : a + 2 ≤ n) (hr : a + 2 ≤ lo ∨ hi ≤ a) : IsP g a L lt := ⟨by rw [hg _ (by omega) (by omega)]; exact h.1, by rw [hg _ (by omega) (by omega)]; exact h.2.1, h.2.2⟩
theorem IsE.top {f : Nat → Option va_E} {e n : Nat} {C : CS} (h : IsE f e C) (hwf : wfH f n) : e + 343 ≤ n := by
  obtain ⟨h1, h2, h3, h4, h5, rw0, h6, h7⟩ := h
  obtain ⟨i1, pl, i2, i3⟩ := h7 3 (by omega)
  have := hwf.lt i2.2
  omega
section M37
variable {f g : Nat → Option va_E} {e n : Nat} {C : CS}
/-- the builder and its world changed -/
theorem IsE.build (h : IsE f e C) (hwf : wfH f n) {sb : Option Nat} {S : BS} (hg : Ag f g (e + 1) (e + 112) n) (hk : keeps f g) (hB : IsB g (e + 1) (sbO sb) S) : IsE g e ((S, sb), C.2) := by
  have ht := h.top hwf
  obtain ⟨h1, h2, ⟨sb2, S2, h3⟩, h4, h5, h6⟩ := h
  exact ⟨by rw [hg _ (by omega) (by omega)]; exact h1, hB, ⟨sb2, S2, h3.ag hg (by omega) (by omega) hk⟩, h4.ag hg (by omega) (by omega) hk, h5.ag hg (by omega) (by omega), h6.ag hg (by omega) (by omega)⟩
/-- its world alone -/
theorem IsE.worlds (h : IsE f e C) (hwf : wfH f n) {A' : AW} {lo hi : Nat} (hg : Ag f g lo hi n) (hlo : e + 1 + 1 ≤ lo) (hhi : hi ≤ e + 1 + 1 + 85) (hk : keeps f g) (hW : IsW g (e + 1 + 1) A') : IsE g e (((A', C.1.1.2), C.1.2), C.2) := by
  have ht := h.top hwf
  exact h.build hwf (hg.wide (by omega) (by omega)) hk (h.2.1.world hW (hg.wide hlo hhi) (by omega))
/-- the trier -/
theorem IsE.trier (h : IsE f e C) (hwf : wfH f n) {sb : Int32} {S : BS} (hg : Ag f g (e + 112) (e + 223) n) (hk : keeps f g) (hB : IsB g (e + 112) sb S) : IsE g e C := by
  have ht := h.top hwf
  obtain ⟨h1, h2, h3, h4, h5, h6⟩ := h
  exact ⟨by rw [hg _ (by omega) (by omega)]; exact h1, h2.ag hg (by omega) (by omega) hk, ⟨sb, S, hB⟩, h4.ag hg (by omega) (by omega) hk, h5.ag hg (by omega) (by omega), h6.ag hg (by omega) (by omega)⟩
/-- the image's world -/
theorem IsE.image (h : IsE f e C) (hwf : wfH f n) {A' : AW} (hg : Ag f g (e + 223) (e + 223 + 85) n) (hk : keeps f g) (hW : IsW g (e + 223) A') : IsE g e (C.1, (C.2.1.1, A'), C.2.2) := by
  have ht := h.top hwf
  obtain ⟨h1, h2, ⟨sb2, S2, h3⟩, h4, h5, h6⟩ := h
  exact ⟨by rw [hg _ (by omega) (by omega)]; exact h1, h2.ag hg (by omega) (by omega) hk, ⟨sb2, S2, h3.ag hg (by omega) (by omega) hk⟩, hW, h5.ag hg (by omega) (by omega), h6.ag hg (by omega) (by omega)⟩
/-- the engine's own cell -/
theorem IsE.cell (h : IsE f e C) (hwf : wfH f n) (im : Bool) : IsE (va_up f e (some (ecell e im))) e (C.1, (im, C.2.1.2), C.2.2) ∧ keeps f (va_up f e (some (ecell e im))) ∧ ∀ N, Ag f (va_up f e (some (ecell e im))) e (e + 1) N := by
  have ht := h.top hwf
  have hk : keeps f (va_up f e (some (ecell e im))) := keeps_at h.1 (fun fs z => by cases z)
  have hg : ∀ N, Ag f (va_up f e (some (ecell e im))) e (e + 1) N := fun N => (Ag.rf _ _ _ _).up (Nat.le_refl _) (by omega)
  obtain ⟨h1, h2, ⟨sb2, S2, h3⟩, h4, h5, h6⟩ := h
  exact ⟨⟨va_up_self _ _ _, h2.ag (hg n) (by omega) (by omega) hk, ⟨sb2, S2, h3.ag (hg n) (by omega) (by omega) hk⟩, h4.ag (hg n) (by omega) (by omega) hk, h5.ag (hg n) (by omega) (by omega), h6.ag (hg n) (by omega) (by omega)⟩, hk, hg⟩
/-- THE TAPE -/
theorem IsE.tape (h : IsE f e C) (hwf : wfH f n) {L : Nat} {lt : Nat → Int32} (hg : Ag f g (e + 332) (e + 334) n) (hk : keeps f g) (hP : IsP g (e + 332) L lt) : IsE g e (C.1, C.2.1, (L, lt), C.2.2.2) := by
  have ht := h.top hwf
  obtain ⟨h1, h2, ⟨sb2, S2, h3⟩, h4, h5, h6⟩ := h
  exact ⟨by rw [hg _ (by omega) (by omega)]; exact h1, h2.ag hg (by omega) (by omega) hk, ⟨sb2, S2, h3.ag hg (by omega) (by omega) hk⟩, h4.ag hg (by omega) (by omega) hk, hP, h6.ag hg (by omega) (by omega)⟩
/-- THE LISTS -/
theorem IsE.rows (h : IsE f e C) (hwf : wfH f n) {R : Nat → aR} (hg : Ag f g (e + 335) (e + 343) n) (hk : keeps f g) (hR : IsRw g e R) : IsE g e (C.1, C.2.1, C.2.2.1, R) := by
  have ht := h.top hwf
  obtain ⟨h1, h2, ⟨sb2, S2, h3⟩, h4, h5, h6⟩ := h
  exact ⟨by rw [hg _ (by omega) (by omega)]; exact h1, h2.ag hg (by omega) (by omega) hk, ⟨sb2, S2, h3.ag hg (by omega) (by omega) hk⟩, h4.ag hg (by omega) (by omega) hk, h5.ag hg (by omega) (by omega), hR⟩
end M37
