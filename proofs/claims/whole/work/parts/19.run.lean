/-! a RUN -/
theorem up_id {α : Type} (f : Nat → α) (k : Nat) : va_up f k (f k) = f := by
  funext j
  by_cases h : j = k
  · subst h; rw [va_up_self]
  · rw [va_up_ne _ _ h]
theorem AW.set_set (A : AW) (k : Nat) (a c : Option (List Q4)) (b d : Option aAcc) : (A.set k a b).set k c d = A.set k c d := by
  unfold AW.set; simp only [AW.inn, AW.ru, AW.rs, AW.tr, bx_uu]
theorem aHas_set (A : AW) (k m : Nat) (x : Option aAcc) : aHas (A.set k (A.rs k) x) m = aHas A m := by
  simp only [aHas, AW.set, up_id]
theorem IsW.setT {f g : Nat → Option va_E} {w n t : Nat} {A : AW} {rs tr} (h : IsW f w A) (ht : t < 16) (hn : w + 85 ≤ n) (hg : Ag f g (w + 5 + 5 * t) (w + 5 + 5 * t + 5) n) (hk : keeps f g) (hT : IsTA g (w + 5 + 5 * t) (A.ru (8 + t)) rs tr) : IsW g w (A.set (8 + t) rs tr) := by
  have h1 := h.put ht hn hg hk hT
  have h2 : A.put (8 + t) (A.ru (8 + t)) rs tr = A.set (8 + t) rs tr := by simp only [AW.put, AW.set, up_id]
  rw [h2] at h1
  exact h1
theorem IsW.top {f : Nat → Option va_E} {w n : Nat} {A : AW} (h : IsW f w A) (hwf : wfH f n) : w + 85 ≤ n := by
  obtain ⟨_, _, _, _, _, _, _, h1, _⟩ := h.2.2.2.2.2 15 (by omega)
  have := hwf.lt h1.2.2.2.2
  omega
theorem accNote_len {acc : aAcc} {k : Nat} {r : List Q4} : (accNote acc k r).length ≤ acc.length + 1 := by
  unfold accNote
  split <;> simp
section M19
variable {B : Nat} {D : va_G} {n w : Nat} {f : Nat → Option va_E} {a b : Nat} {A : AW}
theorem c_note (hW : IsW f a A) {t : Nat} (ht : t < 16) {acc : aAcc} (hacc : A.tr (8 + t) = some acc) (hlen : acc.length < 12) {m p : Nat} (hm : m < 24) {r : List Q4} (hp : ch f r (some p)) (hwf : wfH f n) : ∃ g, CT B D 2 mX4_noteInTrace [.ref (a + 5 + 5 * t), .int (nI m), .ref p] (n, w, f) none (n, w, g) ∧ IsW g a (A.set (8 + t) (A.rs (8 + t)) (some (accNote acc m r))) ∧ (∀ N, Ag f g (a + 5 + 5 * t) (a + 5 + 5 * t + 5) N) ∧ keeps f g ∧ wfH g n := by
  have htop := hW.top hwf
  obtain ⟨c, q, l, sg, fg, tk, tp, h1, h2, h3, h4, h5, h6⟩ := hW.2.2.2.2.2 t ht
  rw [hacc] at h6
  have hany := anyN_list (fun x : Nat × List Q4 => decide (nI x.1 = nI m)) (fun j => decide (tk j = nI m)) acc (fun i x hx => by rw [(h6.2.2 i x hx).2.1])
  by_cases hin : acc.any (fun x => decide (nI x.1 = nI m)) = true
  · refine ⟨f, c_X4_noteInTrace_in h1 h6.1 h6.2.1 (nI m) p (by rw [hany]; exact hin), ?_, fun N => Ag.rf _ _ _ _, keeps_rf f, hwf⟩
    have : A.set (8 + t) (A.rs (8 + t)) (some (accNote acc m r)) = A := by
      unfold accNote
      rw [if_pos hin, ← hacc]
      simp only [AW.set, up_id]
    rw [this]
    exact hW
  · have hin' : acc.any (fun x => decide (nI x.1 = nI m)) = false := by simpa using hin
    obtain ⟨fs, hfs⟩ : ∃ fs, f p = some (.inr (1, fs)) := by
      cases r with
      | nil => cases hp
      | cons y r => (obtain ⟨p0, q0, e0, e1, e2⟩ := hp; cases e0; exact ⟨_, e1⟩)
    have hk : keeps f (va_up (va_up (va_up f (a + 5 + 5 * t + 3) (some (.inl (0, 12, .inl (va_up tk acc.length (nI m)))))) (a + 5 + 5 * t + 4) (some (.inl (3, 12, .inr (.inr (.inr (.inr (va_up tp acc.length (some p))))))))) (a + 5 + 5 * t) (some (tcell (a + 5 + 5 * t) c q (nI (acc.length + 1))))) := by
      refine keeps_tr (keeps_tr (keeps_at h1.2.2.2.1 (fun fs h => by cases h)) (keeps_at (e0 := .inl (3, 12, .inr (.inr (.inr (.inr tp))))) (by rw [va_up_ne _ _ (by omega)]; exact h1.2.2.2.2) (fun fs h => by cases h))) (keeps_at (e0 := tcell (a + 5 + 5 * t) c q l) (by rw [va_up_ne _ _ (by omega), va_up_ne _ _ (by omega)]; exact h1.1) (fun fs h => by cases h))
    refine ⟨_, c_X4_noteInTrace_new h1 hlen h6.2.1 (nI m) p hfs (by rw [hany]; exact hin'), ?_, fun N => (((Ag.rf _ _ _ _).up (by omega) (by omega)).up (by omega) (by omega)).up (by omega) (by omega), hk, ((hwf.up (by omega)).up (by omega)).up (by omega)⟩
    refine hW.setT ht htop ((((Ag.rf _ _ _ _).up (by omega) (by omega)).up (by omega) (by omega)).up (by omega) (by omega)) hk ⟨c, q, nI (acc.length + 1), sg, fg, va_up tk acc.length (nI m), va_up tp acc.length (some p), ⟨va_up_self _ _ _, ?_, ?_, ?_, ?_⟩, h2, h3, h4, ⟨chO_keep hk h5.1, ?_⟩, ?_⟩
    · rw [va_up_ne _ _ (by omega), va_up_ne _ _ (by omega), va_up_ne _ _ (by omega)]; exact h1.2.1
    · rw [va_up_ne _ _ (by omega), va_up_ne _ _ (by omega), va_up_ne _ _ (by omega)]; exact h1.2.2.1
    · rw [va_up_ne _ _ (by omega), va_up_ne _ _ (by omega), va_up_self]
    · rw [va_up_ne _ _ (by omega), va_up_self]
    · intro j p2 hj
      by_cases hjl : j = acc.length
      · subst hjl
        rw [va_up_self] at hj
        cases hj
        exact ⟨fs, hk _ _ hfs⟩
      · rw [va_up_ne _ _ hjl] at hj
        obtain ⟨fs2, e⟩ := h5.2 j p2 hj
        exact ⟨fs2, hk _ _ e⟩
    · unfold accNote
      rw [if_neg hin]
      refine ⟨by simp; omega, by simp, fun i x hx => ?_⟩
      by_cases hil : i < acc.length
      · rw [List.getElem?_append_left hil] at hx
        rw [va_up_ne _ _ (by omega), va_up_ne _ _ (by omega)]
        obtain ⟨g1, g2, p2, g3, g4⟩ := h6.2.2 i x hx
        exact ⟨g1, g2, p2, g3, ch_keep hk _ _ g4⟩
      · rw [List.getElem?_append_right (by omega)] at hx
        have hi0 : i - acc.length < 1 := (List.getElem?_eq_some_iff.mp hx).1
        have hi : i = acc.length := by omega
        subst hi
        rw [Nat.sub_self] at hx
        cases hx
        exact ⟨hm, va_up_self _ _ _, p, va_up_self _ _ _, ch_keep hk _ _ hp⟩
theorem l_X0_runOnce_92_no {d : Nat} (hd : 6 ≤ d) {cn : Nat} {dn op sb st po sp cu wt : Int32} {S : Nat → Bool} (h : f b = some (bcell b cn dn op sb st po sp cu wt)) (hS : IsSet dn S) {m : Nat} (hm : 8 ≤ m) (hm2 : m < 24) (hno : S m = false) : ∀ (t i : Nat) (v y : Int64) (s : Int32) (z11 z12 z13 : Option Value) (r : Option Value) (h1 : pm_H), EX B D d mX0_runOnce 125 [some (.ref b), some (.int (nI (8 + t))), some (.ref (b + 1 + 5 + 5 * t)), some (.long v), none, some (.int (nI 0)), some (.int (nI i)), some (.int s), some (.int (nI m)), some (.long y), none, z11, z12, z13] [.null] (n, w, f) r h1 → EX B D d mX0_runOnce 92 [some (.ref b), some (.int (nI (8 + t))), some (.ref (b + 1 + 5 + 5 * t)), some (.long v), none, some (.int (nI 0)), some (.int (nI i)), some (.int s), some (.int (nI m)), some (.long y), none, z11, z12, z13] [] (n, w, f) r h1 := by
  intro t i v y s z11 z12 z13 r h1 hE
  have hin : s_isInput (nI m) = false := by
    obtain ⟨u, hu, rfl⟩ : ∃ u, u < 16 ∧ m = 8 + u := ⟨m - 8, by omega, by omega⟩
    exact inI_t hu
  have hdn : s_isIn dn (nI m) = false := by
    obtain ⟨u, hu, rfl⟩ : ∃ u, u < 16 ∧ m = 8 + u := ⟨m - 8, by omega, by omega⟩
    rw [hS u hu]; exact hno
  refine px_iload dX0_runOnce_92 rfl ?_
  refine px_callSN1 (ν := mX6_isInput) lk_X0_146 st_X6_isInput mok_X6_isInput dX0_runOnce_94 (c_X6_isInput _) rfl rfl (by omega) (by simp) ?_
  refine px_ifb_ne (tgt := 112) dX0_runOnce_97 (by decide) (fun hc97 => ?_) (fun hc97 => ?_)
  · rw [hin] at hc97; cases hc97
  · refine px_aload_n dX0_runOnce_100 rfl ?_
    refine px_getfield fl_X0_29 dX0_runOnce_101 (by exact h) (by rfl) ?_
    refine px_iload dX0_runOnce_104 rfl ?_
    refine px_callS1 (ν := mX0_isIn) lk_X0_45 st_X0_isIn mok_X0_isIn dX0_runOnce_106 (c_X0_isIn _ _) rfl rfl (by omega) (by simp) ?_
    refine px_ifb_eq (tgt := 124) dX0_runOnce_109 (by decide) (fun hc109 => ?_) (fun hc109 => ?_)
    · refine px_null dX0_runOnce_124 ?_
      exact hE
    · rw [hdn] at hc109; cases hc109
theorem l_X0_runOnce_92 {d : Nat} (hd : 6 ≤ d) {cn : Nat} {dn op sb st po sp cu wt : Int32} {S : Nat → Bool} (h : f b = some (bcell b cn dn op sb st po sp cu wt)) (hS : IsSet dn S) (hW : IsW f (b + 1) A) {m : Nat} (hm : m < 24) (hyes : 8 ≤ m → S m = true) : ∃ q, (∀ (t i : Nat) (v y : Int64) (s : Int32) (z11 z12 z13 : Option Value) (r : Option Value) (h1 : pm_H), EX B D d mX0_runOnce 125 [some (.ref b), some (.int (nI (8 + t))), some (.ref (b + 1 + 5 + 5 * t)), some (.long v), none, some (.int (nI 0)), some (.int (nI i)), some (.int s), some (.int (nI m)), some (.long y), none, z11, z12, z13] [va_rf q] (n, w, f) r h1 → EX B D d mX0_runOnce 92 [some (.ref b), some (.int (nI (8 + t))), some (.ref (b + 1 + 5 + 5 * t)), some (.long v), none, some (.int (nI 0)), some (.int (nI i)), some (.int s), some (.int (nI m)), some (.long y), none, z11, z12, z13] [] (n, w, f) r h1) ∧ chO f q (aHas A m) := by
  obtain ⟨q, hq, hc⟩ := c_X5_resultOf (B := B) (D := D) (n := n) (w := w) hW hm
  refine ⟨q, ?_, hc⟩
  intro t i v y s z11 z12 z13 r h1 hE
  have hdn : s_isInput (nI m) = false → s_isIn dn (nI m) = true := by
    intro hi
    by_cases h8 : m < 8
    · rw [inI_i h8] at hi; cases hi
    · obtain ⟨u, hu, rfl⟩ : ∃ u, u < 16 ∧ m = 8 + u := ⟨m - 8, by omega, by omega⟩
      rw [hS u hu]; exact hyes (by omega)
  refine px_iload dX0_runOnce_92 rfl ?_
  refine px_callSN1 (ν := mX6_isInput) lk_X0_146 st_X6_isInput mok_X6_isInput dX0_runOnce_94 (c_X6_isInput _) rfl rfl (by omega) (by simp) ?_
  refine px_ifb_ne (tgt := 112) dX0_runOnce_97 (by decide) (fun hc97 => ?_) (fun hc97 => ?_)
  · refine px_aload_n dX0_runOnce_112 rfl ?_
    refine px_getfield fl_X0_12 dX0_runOnce_113 (by first | exact h | exact hW.1) (by rfl) ?_
    refine px_iload dX0_runOnce_116 rfl ?_
    refine px_callV1 (ν := mX5_resultOf) (ci := 5) rfl rfl lk_X0_98 in_X5_resultOf se_X5_resultOf mok_X5_resultOf dX0_runOnce_118 (hq) (by first | exact h | exact hW.1) rfl rfl (by omega) (by simp) ?_
    refine px_goto (tgt := 125) dX0_runOnce_121 (by decide) ?_
    exact hE
  · refine px_aload_n dX0_runOnce_100 rfl ?_
    refine px_getfield fl_X0_29 dX0_runOnce_101 (by first | exact h | exact hW.1) (by rfl) ?_
    refine px_iload dX0_runOnce_104 rfl ?_
    refine px_callS1 (ν := mX0_isIn) lk_X0_45 st_X0_isIn mok_X0_isIn dX0_runOnce_106 (c_X0_isIn _ _) rfl rfl (by omega) (by simp) ?_
    refine px_ifb_eq (tgt := 124) dX0_runOnce_109 (by decide) (fun hc109 => ?_) (fun hc109 => ?_)
    · rw [hdn hc97] at hc109; cases hc109
    · refine px_aload_n dX0_runOnce_112 rfl ?_
      refine px_getfield fl_X0_12 dX0_runOnce_113 (by first | exact h | exact hW.1) (by rfl) ?_
      refine px_iload dX0_runOnce_116 rfl ?_
      refine px_callV1 (ν := mX5_resultOf) (ci := 5) rfl rfl lk_X0_98 in_X5_resultOf se_X5_resultOf mok_X5_resultOf dX0_runOnce_118 (hq) (by first | exact h | exact hW.1) rfl rfl (by omega) (by simp) ?_
      refine px_goto (tgt := 125) dX0_runOnce_121 (by decide) ?_
      exact hE
def RO (f : Nat → Option va_E) (n b t : Nat) (A : AW) (acc : aAcc) (cn : Nat) (dn op sb st po sp cu wt : Int32) (dk : Nat → Int32) : Prop := f b = some (bcell b cn dn op sb st po sp cu wt) ∧ f (b + 110) = some (.inl (0, 16, .inl dk)) ∧ IsW f (b + 1) (A.set (8 + t) (A.rs (8 + t)) (some acc)) ∧ wfH f n
def RPost (B : Nat) (D : va_G) (d pc : Nat) (ls : pm_Ls) (st : List Value) (n w : Nat) (f : Nat → Option va_E) (b t : Nat) (A : AW) (cn : Nat) (dn op sb sr po sp cu wt : Int32) (dk : Nat → Int32) (z : aAcc × (List Q4 ⊕ Nat)) : Prop := match z.2 with
  | .inl r => ∃ (g : Nat → Option va_E) (p : Nat), EX B D d mX0_runOnce pc ls st (n, w, f) (some (.ref p)) (n + 1, w + 5, g) ∧ RO g (n + 1) b t A z.1 cn dn op sb sr po sp cu wt dk ∧ ch g r (some p) ∧ Ag f g b (b + 111) n ∧ keeps f g
  | .inr m => ∃ g : Nat → Option va_E, EX B D d mX0_runOnce pc ls st (n, w, f) (some .null) (n, w, g) ∧ RO g n b t A z.1 cn dn op sb sr po sp cu (nI m) dk ∧ Ag f g b (b + 111) n ∧ keeps f g
theorem RPost.step {d pc pc' : Nat} {ls ls' : pm_Ls} {st st' : List Value} {f f' : Nat → Option va_E} {t cn : Nat} {dn op sb sr po sp cu wt : Int32} {dk : Nat → Int32} {z : aAcc × (List Q4 ⊕ Nat)} (hP : RPost B D d pc' ls' st' n w f' b t A cn dn op sb sr po sp cu wt dk z) (hA : Ag f f' b (b + 111) n) (hk : keeps f f') (hE : ∀ r h1, EX B D d mX0_runOnce pc' ls' st' (n, w, f') r h1 → EX B D d mX0_runOnce pc ls st (n, w, f) r h1) : RPost B D d pc ls st n w f b t A cn dn op sb sr po sp cu wt dk z := by
  unfold RPost at hP ⊢
  rcases z with ⟨acc, r | m⟩
  · obtain ⟨g, p, h1, h2, h3, h4, h5⟩ := hP
    exact ⟨g, p, hE _ _ h1, h2, h3, hA.tra h4 (Nat.le_refl _), keeps_tr hk h5⟩
  · obtain ⟨g, h1, h2, h3, h4⟩ := hP
    exact ⟨g, hE _ _ h1, h2, hA.tra h3 (Nat.le_refl _), keeps_tr hk h4⟩
theorem RO.new {t cn : Nat} {dn op sb sr po sp cu wt : Int32} {dk : Nat → Int32} {acc : aAcc} {e : va_E} (h : RO f n b t A acc cn dn op sb sr po sp cu wt dk) : RO (va_up f n (some e)) (n + 1) b t A acc cn dn op sb sr po sp cu wt dk ∧ Ag f (va_up f n (some e)) b (b + 111) n ∧ keeps f (va_up f n (some e)) := by
  have hb := h.2.2.2.lt h.1
  have hb2 := h.2.2.2.lt h.2.1
  have hk : keeps f (va_up f n (some e)) := keeps_new h.2.2.2
  have hA : ∀ lo hi, Ag f (va_up f n (some e)) lo hi n := fun lo hi j hj hr => va_up_ne _ _ (by omega)
  exact ⟨⟨by rw [va_up_ne _ _ (by omega)]; exact h.1, by rw [va_up_ne _ _ (by omega)]; exact h.2.1, h.2.2.1.ag (hA n n) (h.2.2.1.top h.2.2.2) (Or.inl (h.2.2.1.top h.2.2.2)) hk, h.2.2.2.new⟩, hA _ _, hk⟩
end M19
