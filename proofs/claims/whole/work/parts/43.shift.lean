/-! what is counted does not bear on a BUILD -/
def Sh (d : Int32) (S S' : BS) : Prop := ∃ po sp cu : Int32, S' = (S.A, S.dn, S.op, S.ord, S.st + d, po, sp, cu)
section M43
variable {d : Int32} {rec : Nat → BS → BS}
theorem Sh.ran {S S' : BS} (h : Sh d S S') (k : Nat) (acc : aAcc) : Sh d (aRan S k acc) (aRan S' k acc) := by
  obtain ⟨po, sp, cu, rfl⟩ := h
  refine ⟨po, sp, cu, ?_⟩
  have e : S.st + d + 1 = S.st + 1 + d := by rw [Int32.add_assoc, Int32.add_comm d 1, ← Int32.add_assoc]
  show (_, _, _, _, S.st + d + 1, _, _, _) = (_, _, _, _, S.st + 1 + d, _, _, _)
  rw [e]
  rfl
theorem Sh.fin {S S' : BS} (h : Sh d S S') (k : Nat) (acc : aAcc) (r : List Q4) : Sh d (aFin S k acc r) (aFin S' k acc r) := by
  obtain ⟨po, sp, cu, rfl⟩ := h
  exact ⟨_, _, _, rfl⟩
theorem Sh.put {S S' : BS} (h : Sh d S S') : Sh d (aPut S) (aPut S') := by
  obtain ⟨po, sp, cu, rfl⟩ := h
  exact ⟨_, _, _, rfl⟩
theorem Sh.spare {S S' : BS} (h : Sh d S S') : Sh d (aSpare S) (aSpare S') := by
  obtain ⟨po, sp, cu, rfl⟩ := h
  exact ⟨_, _, _, rfl⟩
theorem Sh.empty {S S' : BS} (h : Sh d S S') (k : Nat) : Sh d (aEmpty S k) (aEmpty S' k) := by
  obtain ⟨po, sp, cu, rfl⟩ := h
  exact ⟨_, _, _, rfl⟩
theorem Sh.opens {S S' : BS} (h : Sh d S S') (k : Nat) : Sh d (aOpen S k) (aOpen S' k) := by
  obtain ⟨po, sp, cu, rfl⟩ := h
  exact ⟨_, _, _, rfl⟩
theorem Sh.close {S S' : BS} (h : Sh d S S') (k : Nat) : Sh d (aClose S k) (aClose S' k) := by
  obtain ⟨po, sp, cu, rfl⟩ := h
  exact ⟨_, _, _, rfl⟩
theorem Sh.tries {S S' : BS} (h : Sh d S S') (k : Nat) : aTry S' k = aTry S k := by
  obtain ⟨po, sp, cu, rfl⟩ := h
  rfl
theorem Sh.need (hr : ∀ k S S', Sh d S S' → Sh d (rec k S) (rec k S')) (k : Nat) {S S' : BS} (h : Sh d S S') : Sh d (aNeed rec k S) (aNeed rec k S') := by
  have e : (8 ≤ k ∧ S'.dn k = false ∧ S'.op k = false) = (8 ≤ k ∧ S.dn k = false ∧ S.op k = false) := by obtain ⟨po, sp, cu, rfl⟩ := h; rfl
  unfold aNeed
  by_cases hc : 8 ≤ k ∧ S.dn k = false ∧ S.op k = false
  · rw [if_pos hc, if_pos (e ▸ hc)]; exact hr k S S' h
  · rw [if_neg hc, if_neg (e ▸ hc)]; exact h
theorem Sh.run (hr : ∀ k S S', Sh d S S' → Sh d (rec k S) (rec k S')) (key : Nat) : ∀ (n : Nat) {S S' : BS}, Sh d S S' → Sh d (aRun rec key n S) (aRun rec key n S')
  | 0, S, S', h => by
    unfold aRun
    rw [h.tries key]
    rcases aTry S key with ⟨acc, r | m⟩
    · exact (h.ran key acc).fin key acc r
    · exact h.ran key acc
  | n + 1, S, S', h => by
    unfold aRun
    rw [h.tries key]
    rcases aTry S key with ⟨acc, r | m⟩
    · exact (h.ran key acc).fin key acc r
    · exact Sh.run hr key n (hr m _ _ (h.ran key acc).put)
theorem Sh.look (hr : ∀ k S S', Sh d S S' → Sh d (rec k S) (rec k S')) : ∀ (l : aAcc) {S S' : BS}, Sh d S S' → (aLook rec l S').2 = (aLook rec l S).2 ∧ Sh d (aLook rec l S).1 (aLook rec l S').1
  | [], S, S', h => ⟨rfl, h⟩
  | (k, r) :: l, S, S', h => by
    have e1 : S'.op = S.op := by obtain ⟨po, sp, cu, rfl⟩ := h; rfl
    have h2 := Sh.need hr k h
    have e2 : (aNeed rec k S').A = (aNeed rec k S).A := by obtain ⟨po, sp, cu, e⟩ := h2; rw [e]
    unfold aLook
    rw [e1, e2]
    by_cases hc : 8 ≤ k ∧ S.op k = true
    · rw [if_pos hc, if_pos hc]; exact ⟨rfl, h⟩
    · rw [if_neg hc, if_neg hc]
      by_cases hs : oSame (aHas (aNeed rec k S).A k) (some r) = true
      · rw [if_pos hs, if_pos hs]; exact Sh.look hr l h2
      · rw [if_neg hs, if_neg hs]; exact ⟨rfl, h2⟩
theorem Sh.build : ∀ (F k : Nat) (S S' : BS), Sh d S S' → Sh d (aBuild F k S) (aBuild F k S')
  | 0, _, _, _, h => h
  | F + 1, k, S, S', h => by
    have e1 : S'.A = S.A := by obtain ⟨po, sp, cu, rfl⟩ := h; rfl
    have hn : ∀ k S S', Sh d S S' → Sh d (aNeed (aBuild F) k S) (aNeed (aBuild F) k S') := fun k S S' h => Sh.need (fun k S S' h => Sh.build F k S S' h) k h
    have ho := h.opens k
    rw [aBuild, aBuild, e1]
    refine Sh.close ?_ k
    by_cases hem : (S.A.ru k).isEmpty = true
    · rw [if_pos hem, if_pos hem]; exact ho.empty k
    · rw [if_neg hem, if_neg hem]
      cases htr : S.A.tr k with
      | none => exact Sh.run hn k 16 ho
      | some T =>
        obtain ⟨l1, l2⟩ := Sh.look (fun k S S' h => Sh.build F k S S' h) T ho
        dsimp only
        rw [l1]
        by_cases hs : (aLook (aBuild F) T (aOpen S k)).2 = true
        · rw [if_pos hs, if_pos hs]; exact l2.spare
        · rw [if_neg hs, if_neg hs]; exact Sh.run hn k 16 l2
theorem Sh.each (set : Int32) (stop : Bool) : ∀ (k : Nat) {S S' : BS}, Sh d S S' → (aEach set stop k S').2 = (aEach set stop k S).2 ∧ Sh d (aEach set stop k S).1 (aEach set stop k S').1
  | 0, _, _, h => ⟨rfl, h⟩
  | k + 1, S, S', h => by
    have h2 := Sh.need (Sh.build 16) (8 + (15 - k)) h
    have e2 : (aNeed (aBuild 16) (8 + (15 - k)) S').A = (aNeed (aBuild 16) (8 + (15 - k)) S).A := by obtain ⟨po, sp, cu, e⟩ := h2; rw [e]
    rw [aEach, aEach, e2]
    by_cases hc : s_isIn set (nI (8 + (15 - k))) = true
    · rw [if_pos hc, if_pos hc]
      by_cases hs : stop = true ∧ (aFail (aNeed (aBuild 16) (8 + (15 - k)) S).A (8 + (15 - k))).isSome = true
      · rw [if_pos hs, if_pos hs]; exact ⟨rfl, h2⟩
      · rw [if_neg hs, if_neg hs]; exact Sh.each set stop k h2
    · rw [if_neg hc, if_neg hc]; exact Sh.each set stop k h
end M43
/-- two builders of the same world: the STARTS of a BUILD are as many -/
theorem aAll_st {S S' : BS} (hA : S'.A = S.A) (set : Int32) (stop : Bool) : (aAll set stop S').1.st - S'.st = (aAll set stop S).1.st - S.st := by
  have h : Sh (S'.st - S.st) (aForget S) (aForget S') := by
    refine ⟨S'.po, S'.sp, S'.cu, ?_⟩
    have e : S.st + (S'.st - S.st) = S'.st := by rw [Int32.add_comm, Int32.sub_add_cancel]
    unfold aForget
    rw [hA]
    show (_, _, _, _, S'.st, _, _, _) = (_, _, _, _, S.st + (S'.st - S.st), _, _, _)
    rw [e]
  obtain ⟨-, po, sp, cu, e⟩ := Sh.each set stop 16 h
  have e1 : (aAll set stop S').1.st = (aAll set stop S).1.st + (S'.st - S.st) := by
    unfold aAll
    rw [e]
  have e2 : S'.st = S.st + (S'.st - S.st) := by rw [Int32.add_comm, Int32.sub_add_cancel]
  rw [e1]
  generalize S'.st - S.st = d at e2
  rw [e2, Int32.add_comm S.st d, ← Int32.sub_sub, Int32.add_sub_cancel]
