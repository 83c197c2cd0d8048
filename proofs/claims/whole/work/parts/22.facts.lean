/-! facts of the build told without addresses -/
def cdN : Nat → (Nat → Bool) → Nat
  | 0, _ => 0
  | k + 1, dn => cdN k dn + (if dn (8 + k) = true then 1 else 0)
theorem cdN_far {k t : Nat} {dn : Nat → Bool} {v : Bool} (h : k ≤ t) : cdN k (va_up dn (8 + t) v) = cdN k dn := by
  induction k with
  | zero => rfl
  | succ k ih => rw [cdN, cdN, ih (by omega), va_up_ne _ _ (by omega)]
theorem cdN_up {k t : Nat} {dn : Nat → Bool} (h : t < k) (hd : dn (8 + t) = false) : cdN k (va_up dn (8 + t) true) = cdN k dn + 1 := by
  induction k with
  | zero => omega
  | succ k ih =>
    by_cases htk : t = k
    · subst htk
      rw [cdN, cdN, cdN_far (Nat.le_refl _), va_up_self, hd]
      simp
    · rw [cdN, cdN, ih (by omega), va_up_ne _ _ (by omega)]
      omega
def cd (dn : Nat → Bool) : Nat := cdN 16 dn
theorem cdN_le (k : Nat) (dn : Nat → Bool) : cdN k dn ≤ k := by
  induction k with
  | zero => exact Nat.le_refl _
  | succ k ih => rw [cdN]; split <;> omega
/-- what a build of another TARGET leaves as it was -/
def Kp (S T : BS) : Prop := T.op = S.op ∧ T.A.inn = S.A.inn ∧ T.A.ru = S.A.ru ∧ (∀ j, S.op j = true → T.A.tr j = S.A.tr j ∧ T.A.rs j = S.A.rs j) ∧ ∀ j, S.op j = true → T.dn j = S.dn j
theorem Kp.rf (S : BS) : Kp S S := ⟨rfl, rfl, rfl, fun _ _ => ⟨rfl, rfl⟩, fun _ _ => rfl⟩
theorem Kp.tra {S T U : BS} (h1 : Kp S T) (h2 : Kp T U) : Kp S U := ⟨h2.1.trans h1.1, h2.2.1.trans h1.2.1, h2.2.2.1.trans h1.2.2.1, fun j hj => by
  obtain ⟨a1, a2⟩ := h1.2.2.2.1 j hj
  obtain ⟨b1, b2⟩ := h2.2.2.2.1 j (by rw [h1.1]; exact hj)
  exact ⟨b1.trans a1, b2.trans a2⟩, fun j hj => (h2.2.2.2.2 j (by rw [h1.1]; exact hj)).trans (h1.2.2.2.2 j hj)⟩
/-- the same, but for one key -/
def Kq (k : Nat) (S T : BS) : Prop := T.op = S.op ∧ T.A.inn = S.A.inn ∧ T.A.ru = S.A.ru ∧ (∀ j, j ≠ k → S.op j = true → T.A.tr j = S.A.tr j ∧ T.A.rs j = S.A.rs j) ∧ ∀ j, S.op j = true → T.dn j = S.dn j
theorem Kq.rf (k : Nat) (S : BS) : Kq k S S := ⟨rfl, rfl, rfl, fun _ _ _ => ⟨rfl, rfl⟩, fun _ _ => rfl⟩
theorem Kq.tra {k : Nat} {S T U : BS} (h1 : Kq k S T) (h2 : Kq k T U) : Kq k S U := ⟨h2.1.trans h1.1, h2.2.1.trans h1.2.1, h2.2.2.1.trans h1.2.2.1, fun j hk hj => by
  obtain ⟨a1, a2⟩ := h1.2.2.2.1 j hk hj
  obtain ⟨b1, b2⟩ := h2.2.2.2.1 j hk (by rw [h1.1]; exact hj)
  exact ⟨b1.trans a1, b2.trans a2⟩, fun j hj => (h2.2.2.2.2 j (by rw [h1.1]; exact hj)).trans (h1.2.2.2.2 j hj)⟩
theorem Kp.q {S T : BS} (h : Kp S T) (k : Nat) : Kq k S T := ⟨h.1, h.2.1, h.2.2.1, fun j _ hj => h.2.2.2.1 j hj, h.2.2.2.2⟩
theorem Kq_ran (S : BS) (k : Nat) (acc : aAcc) : Kq k S (aRan S k acc) := ⟨rfl, rfl, rfl, fun j hk _ => ⟨va_up_ne _ _ hk, va_up_ne _ _ hk⟩, fun _ _ => rfl⟩
theorem Kq_fin (S : BS) (k : Nat) (acc : aAcc) (r : List Q4) : Kq k S (aFin S k acc r) := ⟨rfl, rfl, rfl, fun j hk _ => ⟨va_up_ne _ _ hk, va_up_ne _ _ hk⟩, fun _ _ => rfl⟩
theorem Kq_put (S : BS) (k : Nat) : Kq k S (aPut S) := ⟨rfl, rfl, rfl, fun j hk _ => ⟨rfl, rfl⟩, fun _ _ => rfl⟩
theorem Kp_need {rec : Nat → BS → BS} (hr : ∀ k S, S.op k = false → Kp S (rec k S)) (k : Nat) (S : BS) : Kp S (aNeed rec k S) := by
  unfold aNeed
  split
  · next h => exact hr k S h.2.2
  · exact Kp.rf S
theorem Kp_look {rec : Nat → BS → BS} (hr : ∀ k S, S.op k = false → Kp S (rec k S)) : ∀ (l : aAcc) (S : BS), Kp S (aLook rec l S).1
  | [], S => Kp.rf S
  | (k, r) :: l, S => by
    unfold aLook
    split
    · exact Kp.rf S
    · split
      · exact (Kp_need hr k S).tra (Kp_look hr l _)
      · exact Kp_need hr k S
theorem Kq_run {rec : Nat → BS → BS} (hr : ∀ k S, S.op k = false → Kp S (rec k S)) (key : Nat) : ∀ (n : Nat) (S : BS), Kq key S (aRun (aNeed rec) key n S)
  | 0, S => by
    unfold aRun
    rcases aTry S key with ⟨acc, r | m⟩
    · exact (Kq_ran S key acc).tra (Kq_fin _ key acc r)
    · exact Kq_ran S key acc
  | n + 1, S => by
    unfold aRun
    rcases aTry S key with ⟨acc, r | m⟩
    · exact (Kq_ran S key acc).tra (Kq_fin _ key acc r)
    · exact ((Kq_ran S key acc).tra (Kq_put _ key)).tra (((Kp_need hr m _).q key).tra (Kq_run hr key n _))
theorem up_back {α : Type} {f : Nat → α} {k : Nat} {a b : α} (h : f k = b) : va_up (va_up f k a) k b = f := by
  rw [bx_uu, ← h, up_id]
theorem Kp_close {S T : BS} {k : Nat} (hk : S.op k = false) (h : Kq k (aOpen S k) T) : Kp S (aClose T k) := by
  obtain ⟨h1, h2, h3, h4, h5⟩ := h
  have hne : ∀ j, S.op j = true → j ≠ k := fun j hj e => by rw [e, hk] at hj; cases hj
  have hop : ∀ j, S.op j = true → (aOpen S k).op j = true := fun j hj => by show va_up S.op k true j = true; rw [va_up_ne _ _ (hne j hj)]; exact hj
  refine ⟨?_, h2, h3, fun j hj => h4 j (hne j hj) (hop j hj), fun j hj => ?_⟩
  · show va_up T.op k false = S.op
    rw [h1]
    exact up_back hk
  · show va_up T.dn k true j = S.dn j
    rw [va_up_ne _ _ (hne j hj)]
    exact h5 j (hop j hj)
theorem aBuild_S (F k : Nat) (S : BS) : aBuild (F + 1) k S = aClose (
      if (S.A.ru k).isEmpty = true then aEmpty (aOpen S k) k
      else match S.A.tr k with
        | some T => if (aLook (aBuild F) T (aOpen S k)).2 = true then aSpare (aLook (aBuild F) T (aOpen S k)).1 else aRun (aNeed (aBuild F)) k 16 (aLook (aBuild F) T (aOpen S k)).1
        | none => aRun (aNeed (aBuild F)) k 16 (aOpen S k)) k := rfl
theorem Kp_build : ∀ (F k : Nat) (S : BS), S.op k = false → Kp S (aBuild F k S) := by
  intro F
  induction F with
  | zero => intro k S _; exact Kp.rf S
  | succ F ih =>
    intro k S hk
    rw [aBuild_S]
    refine Kp_close hk ?_
    split
    · exact ⟨rfl, rfl, rfl, fun j hjk _ => ⟨va_up_ne _ _ hjk, va_up_ne _ _ hjk⟩, fun _ _ => rfl⟩
    · split
      · next T hT =>
        split
        · exact ((Kp_look ih T (aOpen S k)).q k).tra ⟨rfl, rfl, rfl, fun j _ _ => ⟨rfl, rfl⟩, fun _ _ => rfl⟩
        · exact ((Kp_look ih T (aOpen S k)).q k).tra (Kq_run ih k 16 _)
      · exact Kq_run ih k 16 _
/-- the state just before a TARGET's build is closed -/
def aIn (F k : Nat) (S : BS) : BS := if (S.A.ru k).isEmpty = true then aEmpty (aOpen S k) k
      else match S.A.tr k with
        | some T => if (aLook (aBuild F) T (aOpen S k)).2 = true then aSpare (aLook (aBuild F) T (aOpen S k)).1 else aRun (aNeed (aBuild F)) k 16 (aLook (aBuild F) T (aOpen S k)).1
        | none => aRun (aNeed (aBuild F)) k 16 (aOpen S k)
theorem aBuild_in (F k : Nat) (S : BS) : aBuild (F + 1) k S = aClose (aIn F k S) k := rfl
/-- what a Builder's method leaves: e: how many Results more than TARGETS DONE -/
def Bd (f g : Nat → Option va_E) (n n' w w' b : Nat) (sb : Int32) (S T : BS) (e : Nat) : Prop := IsB g b sb T ∧ wfH g n' ∧ Ag f g b (b + 111) n ∧ keeps f g ∧ n ≤ n' ∧ w' + 5 * n = w + 5 * n' ∧ n' + cd S.dn ≤ n + cd T.dn + e
theorem Bd.rf {f : Nat → Option va_E} {n w b : Nat} {sb : Int32} {S : BS} (h : IsB f b sb S) (hw : wfH f n) : Bd f f n n w w b sb S S 0 := ⟨h, hw, Ag.rf _ _ _ _, keeps_rf _, Nat.le_refl _, rfl, Nat.le_refl _⟩
theorem Bd.tra {f g k : Nat → Option va_E} {n n' n2 w w' w2 b : Nat} {sb : Int32} {S T U : BS} {e1 e2 e : Nat} (h1 : Bd f g n n' w w' b sb S T e1) (h2 : Bd g k n' n2 w' w2 b sb T U e2) (he : e1 + e2 ≤ e) : Bd f k n n2 w w2 b sb S U e := by
  obtain ⟨a1, a2, a3, a4, a5, a6, a7⟩ := h1
  obtain ⟨b1, b2, b3, b4, b5, b6, b7⟩ := h2
  exact ⟨b1, b2, a3.tra b3 a5, keeps_tr a4 b4, by omega, by omega, by omega⟩
/-- a Builder whose own cell was written -/
theorem IsB.cell {f : Nat → Option va_E} {n b cn : Nat} {dn op sb st po sp cu wt : Int32} {sb' : Int32} {S T : BS} (h : IsB f b sb' S) (hwf : wfH f n) (hord : T.ord = S.ord) (hA : T.A = S.A) (hc : cn = T.ord.length) (hst : st = T.st) (hpo : po = T.po) (hsp : sp = T.sp) (hcu : cu = T.cu) (hdn : IsSet dn T.dn) (hop : IsSet op T.op) : IsB (va_up f b (some (bcell b cn dn op sb st po sp cu wt))) b sb T ∧ wfH (va_up f b (some (bcell b cn dn op sb st po sp cu wt))) n ∧ (∀ N, Ag f (va_up f b (some (bcell b cn dn op sb st po sp cu wt))) b (b + 1) N) ∧ keeps f (va_up f b (some (bcell b cn dn op sb st po sp cu wt))) := by
  obtain ⟨dn0, op0, wt0, dk, h1, h2, h3, h4, h5, h6, h7⟩ := h
  have hk : keeps f (va_up f b (some (bcell b cn dn op sb st po sp cu wt))) := keeps_at h1 (fun fs e => by cases e)
  have hA1 : ∀ N, Ag f (va_up f b (some (bcell b cn dn op sb st po sp cu wt))) b (b + 1) N := fun N => (Ag.rf _ _ _ _).up (by omega) (by omega)
  subst hc hst hpo hsp hcu
  refine ⟨⟨dn, op, wt, dk, va_up_self _ _ _, by rw [va_up_ne _ _ (by omega)]; exact h2, by rw [hord]; exact h3, hdn, hop, by rw [hord]; exact h6, ?_⟩, hwf.up (hwf.lt h1), hA1, hk⟩
  rw [hA]
  exact h7.ag (hA1 n) (h7.top hwf) (Or.inr (Nat.le_refl _)) hk
