/-! RUNS, until one is through -/
def IsBw (f : Nat → Option va_E) (b : Nat) (sb : Int32) (S : BS) (wt : Int32) : Prop :=
  ∃ (dn op : Int32) (dk : Nat → Int32), f b = some (bcell b S.ord.length dn op sb S.st S.po S.sp S.cu wt) ∧ f (b + 110) = some (.inl (0, 16, .inl dk)) ∧ S.ord.length ≤ 16 ∧ IsSet dn S.dn ∧ IsSet op S.op ∧ (∀ (i x : Nat), S.ord[i]? = some x → dk i = nI x) ∧ IsW f (b + 1) S.A
theorem IsBw.b {f : Nat → Option va_E} {b : Nat} {sb wt : Int32} {S : BS} (h : IsBw f b sb S wt) : IsB f b sb S := by
  obtain ⟨dn, op, dk, h1⟩ := h
  exact ⟨dn, op, wt, dk, h1⟩
theorem aOpd_lt {A : AW} {dn op : Nat → Bool} {key m i : Nat} {s : Int32} {acc acc' : aAcc} {m' : Nat} (h : aOpd A dn op key s m i acc = .inl (acc', .inr m')) (hm : s_asks s = true → m < 24) : m' < 24 := by
  unfold aOpd at h
  split at h
  · next hs =>
    have := hm hs
    split at h
    · cases h
    · split at h
      · cases h; exact this
      · split at h
        · cases h; exact this
        · split at h <;> cases h
  · cases h
theorem aGo_lt {A : AW} {dn op : Nat → Bool} {key : Nat} : ∀ (U : List (Int32 × Nat)) (i : Nat) (v : Int64) (p : Nat) (acc acc' : aAcc) (m : Nat), (∀ x, x ∈ U → s_asks x.1 = true → x.2 < 24) → aGo A dn op key U i v p acc = (acc', .inr m) → m < 24
  | [], _, _, _, _, _, _, _, h => by simp [aGo] at h
  | (s, k) :: U, i, v, p + 1, acc, acc', m, hU, h => aGo_lt U (i + 1) v p acc acc' m (fun x hx => hU x (List.mem_cons_of_mem _ hx)) h
  | (s, k) :: U, i, v, 0, acc, acc', m, hU, h => by
    unfold aGo at h
    cases ho : aOpd A dn op key s k i acc with
    | inl z =>
      rw [ho] at h
      dsimp only at h
      subst h
      exact aOpd_lt ho (hU (s, k) List.mem_cons_self)
    | inr z =>
      rw [ho] at h
      obtain ⟨acc2, bb⟩ := z
      dsimp only at h
      split at h
      · exact aGo_lt U _ _ _ _ _ _ (fun x hx => hU x (List.mem_cons_of_mem _ hx)) h
      · cases h
section M24
variable {B : Nat} {D : va_G} {n w : Nat} {f : Nat → Option va_E} {b : Nat}
theorem IsTA.has {a : Nat} {ru rs tr} (h : IsTA f a ru rs tr) : CT B D 0 mX4_hasTrace [.ref a] (n, w, f) (some (.int (bi tr.isSome))) (n, w, f) := by
  obtain ⟨c, q, l, sg, fg, tk, tp, h1, h2, h3, h4, h5, h6⟩ := h
  have hk := c_X4_hasTrace (B := B) (D := D) (n := n) (w := w) h1
  rw [tl_ne h6] at hk
  exact hk
/-- a RUN from a Builder's state -/
def AT (B : Nat) (D : va_G) (n w : Nat) (f : Nat → Option va_E) (b t : Nat) (sb : Int32) (S : BS) (z : aAcc × (List Q4 ⊕ Nat)) : Prop := match z.2 with
  | .inl r => ∃ (g : Nat → Option va_E) (p : Nat), CT B D 6 mX0_runOnce [.ref b, .int (nI (8 + t)), .ref (b + 1 + 5 + 5 * t)] (n, w, f) (some (.ref p)) (n + 1, w + 5, g) ∧ IsB g b sb (aRan S (8 + t) z.1) ∧ wfH g (n + 1) ∧ ch g r (some p) ∧ Ag f g b (b + 111) n ∧ keeps f g
  | .inr m => m < 24 ∧ ∃ g : Nat → Option va_E, CT B D 6 mX0_runOnce [.ref b, .int (nI (8 + t)), .ref (b + 1 + 5 + 5 * t)] (n, w, f) (some .null) (n, w, g) ∧ IsBw g b sb (aRan S (8 + t) z.1) (nI m) ∧ wfH g n ∧ Ag f g b (b + 111) n ∧ keeps f g
theorem c_try {t : Nat} {sb : Int32} {S : BS} (ht : t < 16) (h : IsB f b sb S) (hwf : wfH f n) (hv : vRu S.A) : AT B D n w f b t sb S (aTry S (8 + t)) := by
  obtain ⟨dn, op, wt, dk, h1, h2, h3, h4, h5, h6, h7⟩ := h
  have hO := c_X0_runOnce (B := B) (D := D) (n := n) (w := w) ht h4 h5 (hv (8 + t)) h1 h2 h7 hwf
  unfold OPost at hO
  unfold AT
  show match (aTry S (8 + t)).2 with | .inl r => _ | .inr m => _
  have he : aTry S (8 + t) = aGo S.A S.dn S.op (8 + t) (S.A.ru (8 + t)) 0 0 0 [] := rfl
  rw [he]
  rcases hz : aGo S.A S.dn S.op (8 + t) (S.A.ru (8 + t)) 0 0 0 [] with ⟨acc, r | m⟩
  · rw [hz] at hO
    obtain ⟨g, p, wt', g1, g2, g3, g4, g5⟩ := hO
    exact ⟨g, p, g1, ⟨dn, op, wt', dk, g2.1, g2.2.1, h3, h4, h5, h6, g2.2.2.1⟩, g2.2.2.2, g3, g4, g5⟩
  · rw [hz] at hO
    obtain ⟨g, g1, g2, g3, g4⟩ := hO
    exact ⟨aGo_lt _ _ _ _ _ _ _ (fun x hx => (hv (8 + t) x hx).2) hz, g, g1, ⟨dn, op, dk, g2.1, g2.2.1, h3, h4, h5, h6, g2.2.2.1⟩, g2.2.2.2, g3, g4⟩
theorem IsB.target {g : Nat → Option va_E} {t : Nat} {sb : Int32} {S : BS} {rs tr} (ht : t < 16) (h : IsB f b sb S) (hwf : wfH f n) (hA : ∀ N, Ag f g (b + 1 + 5 + 5 * t) (b + 1 + 5 + 5 * t + 5) N) (hk : keeps f g) (hT : IsTA g (b + 1 + 5 + 5 * t) (S.A.ru (8 + t)) rs tr) : IsB g b sb (S.A.set (8 + t) rs tr, S.2) := by
  obtain ⟨dn, op, wt, dk, h1, h2, h3, h4, h5, h6, h7⟩ := h
  exact ⟨dn, op, wt, dk, by rw [hA (b + 1) b (by omega) (by omega)]; exact h1, by rw [hA (b + 111) (b + 110) (by omega) (by omega)]; exact h2, h3, h4, h5, h6, h7.setT ht (h7.top hwf) (hA n) hk hT⟩
def aCut (S : BS) (key : Nat) (r : List Q4) : BS := (S.A, S.dn, S.op, S.ord, S.st, S.po, S.sp, if oSame (S.A.rs key) (some r) = true then S.cu + 1 else S.cu)
theorem f_cut {d : Nat} (hd : 1 ≤ d) {t p : Nat} (ht : t < 16) {lev x : Int32} {sb : Int32} {S : BS} (h : IsB f b sb S) (hwf : wfH f n) {r : List Q4} (hr : ch f r (some p)) : ∃ g, (∀ r' h1, EX B D d mX0_runToEnd 86 [some (.ref b), some (.int (nI (8 + t))), some (.ref (b + 1 + 5 + 5 * t)), some (.int lev), some (.ref p), some (.int x)] [] (n, w, g) r' h1 → EX B D d mX0_runToEnd 58 [some (.ref b), some (.int (nI (8 + t))), some (.ref (b + 1 + 5 + 5 * t)), some (.int lev), some (.ref p), some (.int x)] [] (n, w, f) r' h1) ∧ Bd f g n n w w b sb S (aCut S (8 + t) r) 0 := by
  obtain ⟨dn, op, wt, dk, h1, h2, h3, h4, h5, h6, h7⟩ := id h
  obtain ⟨c, q, l, sg, fg, tk, tp, t1, t2, t3, t4, t5, t6⟩ := h7.2.2.2.2.2 t ht
  have hsame := c_X1_areSame (B := B) (D := D) (n := n) (w := w) t5.1 (show chO f (some p) (some r) from ⟨p, rfl, hr⟩)
  by_cases hs : oSame (S.A.rs (8 + t)) (some r) = true
  · obtain ⟨g1, g2, g3, g4⟩ := h.cell (sb := sb) (T := aCut S (8 + t) r) (cn := S.ord.length) (dn := dn) (op := op) (st := S.st) (po := S.po) (sp := S.sp) (cu := S.cu + 1) (wt := wt) hwf rfl rfl rfl rfl rfl rfl (by simp only [aCut]; rw [if_pos hs]) h4 h5
    refine ⟨_, fun r' h1' hE => ?_, g1, g2, (g3 n).wide (Nat.le_refl _) (by omega), g4, Nat.le_refl _, rfl, Nat.le_refl _⟩
    refine px_aload dX0_runToEnd_58 rfl ?_
    refine px_ifnonnull_t (tgt := 64) dX0_runToEnd_60 (by decide) ?_
    refine px_aload_n dX0_runToEnd_64 rfl ?_
    refine px_getfield fl_X0_69 dX0_runToEnd_65 (by first | exact t1.1 | exact h1 | exact h7.1) (by rfl) ?_
    refine px_aload dX0_runToEnd_68 rfl ?_
    refine px_callS1 (ν := mX1_areSame) lk_X0_104 st_X1_areSame mok_X1_areSame dX0_runToEnd_70 (hsame) rfl rfl (by omega) (by simp) ?_
    refine px_ifb_eq (tgt := 86) dX0_runToEnd_73 (by decide) (fun hc73 => ?_) (fun hc73 => ?_)
    · rw [hs] at hc73; cases hc73
    · refine px_aload_n dX0_runToEnd_76 rfl ?_
      refine px_dup dX0_runToEnd_77 rfl ?_
      refine px_getfield fl_X0_120 dX0_runToEnd_78 (by first | exact t1.1 | exact h1 | exact h7.1) (by rfl) ?_
      refine px_iconst (v := 1) dX0_runToEnd_81 (by decide) ?_
      refine px_iadd dX0_runToEnd_82 ?_
      refine px_putfield fp_X0_120 dX0_runToEnd_83 (by first | exact t1.1 | exact h1 | exact h7.1) rfl rfl (by simp) ?_
      exact hE
  · have hc : aCut S (8 + t) r = S := by unfold aCut; rw [if_neg hs]
    rw [hc]
    refine ⟨f, fun r' h1' hE => ?_, Bd.rf h hwf⟩
    refine px_aload dX0_runToEnd_58 rfl ?_
    refine px_ifnonnull_t (tgt := 64) dX0_runToEnd_60 (by decide) ?_
    refine px_aload_n dX0_runToEnd_64 rfl ?_
    refine px_getfield fl_X0_69 dX0_runToEnd_65 (by first | exact t1.1 | exact h1 | exact h7.1) (by rfl) ?_
    refine px_aload dX0_runToEnd_68 rfl ?_
    refine px_callS1 (ν := mX1_areSame) lk_X0_104 st_X1_areSame mok_X1_areSame dX0_runToEnd_70 (hsame) rfl rfl (by omega) (by simp) ?_
    refine px_ifb_eq (tgt := 86) dX0_runToEnd_73 (by decide) (fun hc73 => ?_) (fun hc73 => ?_)
    · exact hE
    · exact absurd hc73 hs
theorem f_end {d : Nat} (hd : 1 ≤ d) {t p : Nat} (ht : t < 16) {lev x : Int32} {sb : Int32} {S : BS} (h : IsB f b sb S) (hwf : wfH f n) {acc : aAcc} (hacc : S.A.tr (8 + t) = some acc) {r : List Q4} (hr : ch f r (some p)) : ∃ g, EX B D d mX0_runToEnd 86 [some (.ref b), some (.int (nI (8 + t))), some (.ref (b + 1 + 5 + 5 * t)), some (.int lev), some (.ref p), some (.int x)] [] (n, w, f) none (n, w, g) ∧ Bd f g n n w w b sb S (S.A.set (8 + t) (some r) (if isRing r = true then none else some acc), S.2) 0 := by
  obtain ⟨dn, op, wt, dk, h1, h2, h3, h4, h5, h6, h7⟩ := id h
  obtain ⟨c, q, l, sg, fg, tk, tp, t1, t2, t3, t4, t5, t6⟩ := h7.2.2.2.2.2 t ht
  have htop := h7.top hwf
  rw [hacc] at t6
  have k1 : keeps f (va_up f (b + 1 + 5 + 5 * t) (some (tcell (b + 1 + 5 + 5 * t) c (some p) l))) := keeps_at t1.1 (fun fs e => by cases e)
  have A1 : ∀ N, Ag f (va_up f (b + 1 + 5 + 5 * t) (some (tcell (b + 1 + 5 + 5 * t) c (some p) l))) (b + 1 + 5 + 5 * t) (b + 1 + 5 + 5 * t + 5) N := fun N => (Ag.rf _ _ _ _).up (by omega) (by omega)
  have T1 : IsT (va_up f (b + 1 + 5 + 5 * t) (some (tcell (b + 1 + 5 + 5 * t) c (some p) l))) (b + 1 + 5 + 5 * t) c (some p) l sg fg tk tp := ⟨va_up_self _ _ _, by rw [va_up_ne _ _ (by omega)]; exact t1.2.1, by rw [va_up_ne _ _ (by omega)]; exact t1.2.2.1, by rw [va_up_ne _ _ (by omega)]; exact t1.2.2.2.1, by rw [va_up_ne _ _ (by omega)]; exact t1.2.2.2.2⟩
  obtain ⟨fsp, hpc⟩ : ∃ fs, f p = some (.inr (1, fs)) := by
    cases r with
    | nil => cases hr
    | cons y r => (obtain ⟨p0, q0, e0, e1, e2⟩ := hr; cases e0; exact ⟨_, e1⟩)
  have hpc1 := k1 _ _ hpc
  have hring := c_X1_isOrComesOfSort (B := B) (D := D) (n := n) (w := w) (a := 1) (ch_keep k1 r _ hr)
  by_cases hs : isRing r = true
  · rw [if_pos hs]
    have k2 : keeps f (va_up (va_up f (b + 1 + 5 + 5 * t) (some (tcell (b + 1 + 5 + 5 * t) c (some p) l))) (b + 1 + 5 + 5 * t) (some (tcell (b + 1 + 5 + 5 * t) c (some p) (-1)))) := keeps_tr k1 (keeps_at T1.1 (fun fs e => by cases e))
    have A2 : ∀ N, Ag f (va_up (va_up f (b + 1 + 5 + 5 * t) (some (tcell (b + 1 + 5 + 5 * t) c (some p) l))) (b + 1 + 5 + 5 * t) (some (tcell (b + 1 + 5 + 5 * t) c (some p) (-1)))) (b + 1 + 5 + 5 * t) (b + 1 + 5 + 5 * t + 5) N := fun N => (A1 N).up (by omega) (by omega)
    refine ⟨_, ?_, h.target ht hwf A2 k2 ⟨c, some p, -1, sg, fg, tk, tp, ⟨va_up_self _ _ _, by rw [va_up_ne _ _ (by omega)]; exact T1.2.1, by rw [va_up_ne _ _ (by omega)]; exact T1.2.2.1, by rw [va_up_ne _ _ (by omega)]; exact T1.2.2.2.1, by rw [va_up_ne _ _ (by omega)]; exact T1.2.2.2.2⟩, t2, t3, t4, ⟨⟨p, rfl, ch_keep k2 _ _ hr⟩, t5.2.keep k2⟩, rfl⟩, (hwf.up (by omega)).up (by omega), (A2 n).wide (by omega) (by omega), k2, Nat.le_refl _, rfl, Nat.le_refl _⟩
    refine px_aload_n dX0_runToEnd_86 rfl ?_
    refine px_aload dX0_runToEnd_87 rfl ?_
    refine px_putfield fp_X0_69 dX0_runToEnd_89 (by first | exact t1.1 | exact T1.1 | exact hpc1) rfl rfl (by simp) ?_
    refine px_aload dX0_runToEnd_92 rfl ?_
    refine px_iconst (v := 1) dX0_runToEnd_94 (by decide) ?_
    refine px_callV1 (ν := mX1_isOrComesOfSort) (ci := 1) rfl rfl lk_X0_123 in_X1_isOrComesOfSort se_X1_isOrComesOfSort mok_X1_isOrComesOfSort dX0_runToEnd_95 (hring) (by first | exact t1.1 | exact T1.1 | exact hpc1) rfl rfl (by omega) (by simp) ?_
    refine px_ifb_eq (tgt := 105) dX0_runToEnd_98 (by decide) (fun hc98 => ?_) (fun hc98 => ?_)
    · unfold isRing at hs; rw [hs] at hc98; cases hc98
    · refine px_aload_n dX0_runToEnd_101 rfl ?_
      refine px_callV0 (ν := mX4_dropTrace) (ci := 4) rfl rfl lk_X0_127 in_X4_dropTrace se_X4_dropTrace mok_X4_dropTrace dX0_runToEnd_102 (c_X4_dropTrace T1) (by first | exact t1.1 | exact T1.1 | exact hpc1) rfl rfl (by omega) (by simp) ?_
      exact px_retv dX0_runToEnd_105 rfl (by rfl)
  · rw [if_neg hs]
    refine ⟨_, ?_, h.target ht hwf A1 k1 ⟨c, some p, l, sg, fg, tk, tp, T1, t2, t3, t4, ⟨⟨p, rfl, ch_keep k1 _ _ hr⟩, t5.2.keep k1⟩, t6.1, t6.2.1, fun i x hx => ?_⟩, hwf.up (by omega), (A1 n).wide (by omega) (by omega), k1, Nat.le_refl _, rfl, Nat.le_refl _⟩
    · refine px_aload_n dX0_runToEnd_86 rfl ?_
      refine px_aload dX0_runToEnd_87 rfl ?_
      refine px_putfield fp_X0_69 dX0_runToEnd_89 (by first | exact t1.1 | exact T1.1 | exact hpc1) rfl rfl (by simp) ?_
      refine px_aload dX0_runToEnd_92 rfl ?_
      refine px_iconst (v := 1) dX0_runToEnd_94 (by decide) ?_
      refine px_callV1 (ν := mX1_isOrComesOfSort) (ci := 1) rfl rfl lk_X0_123 in_X1_isOrComesOfSort se_X1_isOrComesOfSort mok_X1_isOrComesOfSort dX0_runToEnd_95 (hring) (by first | exact t1.1 | exact T1.1 | exact hpc1) rfl rfl (by omega) (by simp) ?_
      refine px_ifb_eq (tgt := 105) dX0_runToEnd_98 (by decide) (fun hc98 => ?_) (fun hc98 => ?_)
      · exact px_retv dX0_runToEnd_105 rfl (by rfl)
      · exact absurd hc98 hs
    · obtain ⟨e1, e2, p2, e3, e4⟩ := t6.2.2 i x hx
      exact ⟨e1, e2, p2, e3, ch_keep k1 _ _ e4⟩
theorem f_fin {d : Nat} (hd : 1 ≤ d) {t p : Nat} (ht : t < 16) {lev x : Int32} {sb : Int32} {S : BS} (h : IsB f b sb S) (hwf : wfH f n) {acc : aAcc} (hacc : S.A.tr (8 + t) = some acc) {r : List Q4} (hr : ch f r (some p)) : ∃ g, EX B D d mX0_runToEnd 58 [some (.ref b), some (.int (nI (8 + t))), some (.ref (b + 1 + 5 + 5 * t)), some (.int lev), some (.ref p), some (.int x)] [] (n, w, f) none (n, w, g) ∧ Bd f g n n w w b sb S (aFin S (8 + t) acc r) 0 := by
  obtain ⟨g, hE, hB⟩ := f_cut (B := B) (D := D) (n := n) (w := w) (d := d) (lev := lev) (x := x) hd ht h hwf hr
  obtain ⟨g2, hE2, hB2⟩ := f_end (B := B) (D := D) (n := n) (w := w) (d := d) (lev := lev) (x := x) (S := aCut S (8 + t) r) hd ht hB.1 hB.2.1 hacc (ch_keep hB.2.2.2.1 _ _ hr)
  exact ⟨g2, hE _ _ hE2, hB.tra hB2 (Nat.le_refl _)⟩
end M24
