/-! a BUILD in the reference: the picture -/
def NB (M : MS) (S : BS) : Prop := (∀ t, t < 16 → M.2.1 9 (8 + t) = bi (S.dn (8 + t)) ∧ M.2.1 10 (8 + t) = bi (S.op (8 + t))) ∧ M.1 14 = nI S.ord.length ∧ (∀ (i x : Nat), S.ord[i]? = some x → M.2.1 11 i = nI x) ∧ M.1 16 = S.st ∧ M.1 17 = S.po ∧ M.1 18 = S.sp ∧ M.1 19 = S.cu
/-- what holds of a BUILD as it goes on -/
def GI (S : BS) : Prop := vRu S.A ∧ S.ord.length = cd S.dn ∧ (∀ t, t < 16 → S.dn (8 + t) = true → S.A.rs (8 + t) ≠ none ∧ S.op (8 + t) = false) ∧
  (∀ t, t < 16 → S.op (8 + t) = false → (S.A.tr (8 + t) ≠ none → S.A.rs (8 + t) ≠ none) ∧ (S.A.ru (8 + t) = [] → S.A.tr (8 + t) = none) ∧ ∀ (T : aAcc) (x : Nat × List Q4), S.A.tr (8 + t) = some T → x ∈ T → x.1 < 24) ∧
  ∃ (rk : Nat → Nat) (N : Nat), (∀ t, t < 16 → S.dn (8 + t) = true → rk (8 + t) < N) ∧ (∀ t, t < 16 → S.dn (8 + t) = false → N ≤ rk (8 + t)) ∧ ∀ (t : Nat) (T : aAcc) (x : Nat × List Q4), t < 16 → S.op (8 + t) = false → S.A.tr (8 + t) = some T → x ∈ T → 8 ≤ x.1 → rk x.1 < rk (8 + t)
def BR (bk : BK) (X : Nat → Bool) (M : MS) (S : BS) : Prop := Bk M bk ∧ NW bk X (M.2.1 5) S.A ∧ NB M S ∧ GI S
/-- what a BUILD of the reference leaves as it was -/
def Fb (M M' : MS) : Prop := (∀ j, j = 8 ∨ j = 10 ∨ j = 15 → M'.1 j = M.1 j) ∧ (∀ j, (6 ≤ j ∧ j ≤ 8) ∨ 14 ≤ j → M'.2.1 j = M.2.1 j) ∧ M'.2.2 = M.2.2
theorem Fb.rf (M : MS) : Fb M M := ⟨fun _ _ => rfl, fun _ _ => rfl, rfl⟩
theorem Fb.tra {M N K : MS} (h1 : Fb M N) (h2 : Fb N K) : Fb M K := ⟨fun j a => (h2.1 j a).trans (h1.1 j a), fun j a => (h2.2.1 j a).trans (h1.2.1 j a), h2.2.2.trans h1.2.2⟩
theorem Bg.fb {M M' : MS} (h : Bg M M') : Fb M M' := ⟨fun j hj => h.1 j (by omega) (by omega), fun j hj => h.2.1 j (by omega) (by omega) (by omega), h.2.2⟩
def Po (bk : BK) (X : Nat → Bool) (M : MS) (S : BS) (bk' : BK) (M' : MS) (S' : BS) (e : Nat) : Prop := BR bk' X M' S' ∧ bk <+: bk' ∧ Fb M M' ∧ ne bk' + cd S.dn ≤ ne bk + cd S'.dn + e ∧ ∀ j, S.dn j = true → S'.dn j = true
theorem Po.rf {bk X M S} (h : BR bk X M S) : Po bk X M S bk M S 0 := ⟨h, List.prefix_rfl, Fb.rf M, Nat.le_refl _, fun _ h => h⟩
theorem Po.tra {bk X M S bk1 M1 S1 bk2 M2 S2 e1 e2 e} (h1 : Po bk X M S bk1 M1 S1 e1) (h2 : Po bk1 X M1 S1 bk2 M2 S2 e2) (he : e1 + e2 ≤ e) : Po bk X M S bk2 M2 S2 e := ⟨h2.1, h1.2.1.trans h2.2.1, h1.2.2.1.tra h2.2.2.1, by have := h1.2.2.2.1; have := h2.2.2.2.1; omega, fun j hj => h2.2.2.2.2 j (h1.2.2.2.2 j hj)⟩
theorem BR.ge {bk X M S} (h : BR bk X M S) : GE bk M S := ⟨h.1, h.2.1.1, h.2.1.2.1, h.2.1.2.2.1, h.2.2.1.1, fun t ht hd => (h.2.2.2.2.2.1 t ht hd).1, h.2.2.2.1⟩
/-- the book and what a RUN asked for may change -/
theorem BR.bg {bk bk' : BK} {X M M' S} (h : BR bk X M S) (hb : Bk M' bk') (hp : bk <+: bk') (hg : Bg M M') : BR bk' X M' S := by
  have e5 := hg.2.1 5 (by omega) (by omega) (by omega)
  have e9 := hg.2.1 9 (by omega) (by omega) (by omega)
  have e10 := hg.2.1 10 (by omega) (by omega) (by omega)
  have e11 := hg.2.1 11 (by omega) (by omega) (by omega)
  refine ⟨hb, by rw [e5]; exact h.2.1.ag hp (fun _ _ => rfl), ⟨by rw [e9, e10]; exact h.2.2.1.1, ?_, by rw [e11]; exact h.2.2.1.2.2.1, ?_, ?_, ?_, ?_⟩, h.2.2.2⟩
  · rw [hg.1 14 (by omega) (by omega)]; exact h.2.2.1.2.1
  · rw [hg.1 16 (by omega) (by omega)]; exact h.2.2.1.2.2.2.1
  · rw [hg.1 17 (by omega) (by omega)]; exact h.2.2.1.2.2.2.2.1
  · rw [hg.1 18 (by omega) (by omega)]; exact h.2.2.1.2.2.2.2.2.1
  · rw [hg.1 19 (by omega) (by omega)]; exact h.2.2.1.2.2.2.2.2.2
theorem BR.bs {bk bk' : BK} {X M M' S e} (h : BR bk X M S) (hs : Bs M bk M' bk' e) : BR bk' X M' S := h.bg hs.1 hs.2.2.1 hs.2.1.g
theorem Bs.po {bk bk' : BK} {X M M' S e} (h : BR bk X M S) (hs : Bs M bk M' bk' e) : Po bk X M S bk' M' S e := ⟨h.bs hs, hs.2.2.1, hs.2.1.g.fb, by have := hs.2.2.2; omega, fun _ h => h⟩
/-! what holds as it goes on -/
theorem cd_lt {dn : Nat → Bool} {t : Nat} (ht : t < 16) (h : dn (8 + t) = false) : cd dn < 16 :=
  Nat.lt_of_lt_of_le (cdN_lts (q := fun _ => true) (fun _ _ => rfl) ht h rfl) (cdN_le 16 _)
theorem cd_up {dn : Nat → Bool} {t : Nat} (ht : t < 16) (h : dn (8 + t) = false) : cd (va_up dn (8 + t) true) = cd dn + 1 := cdN_up ht h
theorem GI.of {S S' : BS} (h : GI S) (h1 : S'.A = S.A) (h2 : S'.dn = S.dn) (h3 : S'.op = S.op) (h4 : S'.ord = S.ord) : GI S' := by
  unfold GI at h ⊢
  rw [h1, h2, h3, h4]
  exact h
theorem GI.opened {S : BS} {t : Nat} (h : GI S) (hd : S.dn (8 + t) = false) : GI (aOpen S (8 + t)) := by
  obtain ⟨h1, h2, h3, h4, rk, N, h5, h6, h7⟩ := h
  have ho : ∀ u, va_up S.op (8 + t) true (8 + u) = false → S.op (8 + u) = false := fun u hu => by
    by_cases e : u = t
    · subst e; rw [va_up_self] at hu; cases hu
    · rw [va_up_ne _ _ (by omega)] at hu; exact hu
  refine ⟨h1, h2, fun u hu hdu => ⟨(h3 u hu hdu).1, ?_⟩, fun u hu hou => h4 u hu (ho u hou), rk, N, h5, h6, fun u T x hu hou => h7 u T x hu (ho u hou)⟩
  show va_up S.op (8 + t) true (8 + u) = false
  have hdu : S.dn (8 + u) = true := hdu
  rw [va_up_ne _ _ (fun e => by rw [e, hd] at hdu; cases hdu)]
  exact (h3 u hu hdu).2
/-- what is kept of a TARGET being BUILT may change -/
theorem GI.set {S S' : BS} {t : Nat} (h : GI S) (ho : S.op (8 + t) = true) {rs : Option (List Q4)} {tr : Option aAcc} (h1 : S'.A = S.A.set (8 + t) rs tr) (h2 : S'.dn = S.dn) (h3 : S'.op = S.op) (h4 : S'.ord = S.ord) : GI S' := by
  unfold GI
  rw [h1, h2, h3, h4]
  obtain ⟨g1, g2, g3, g4, rk, N, g5, g6, g7⟩ := h
  have er : ∀ j, j ≠ 8 + t → (S.A.set (8 + t) rs tr).rs j = S.A.rs j := fun j hj => va_up_ne _ _ hj
  have et : ∀ j, j ≠ 8 + t → (S.A.set (8 + t) rs tr).tr j = S.A.tr j := fun j hj => va_up_ne _ _ hj
  have ne : ∀ u, S.op (8 + u) = false → 8 + u ≠ 8 + t := fun u hu e => by rw [e, ho] at hu; cases hu
  refine ⟨g1, g2, fun u hu hd => ?_, fun u hu hf => ?_, rk, N, g5, g6, fun u T x hu hf hT => ?_⟩
  · have := g3 u hu hd
    rw [er _ (ne u this.2)]; exact this
  · rw [er _ (ne u hf), et _ (ne u hf)]; exact g4 u hu hf
  · rw [et _ (ne u hf)] at hT; exact g7 u T x hu hf hT
theorem GI.closed {S : BS} {t : Nat} (h : GI S) (ht : t < 16) (hd : S.dn (8 + t) = false) (hr : S.A.rs (8 + t) ≠ none) (hu : S.A.ru (8 + t) = [] → S.A.tr (8 + t) = none) (hT : ∀ (T : aAcc) (x : Nat × List Q4), S.A.tr (8 + t) = some T → x ∈ T → x.1 < 24 ∧ (8 ≤ x.1 → S.dn x.1 = true)) : GI (aClose S (8 + t)) := by
  obtain ⟨h1, h2, h3, h4, rk, N, h5, h6, h7⟩ := h
  have hlt := cd_lt ht hd
  have edn : ∀ u, u ≠ t → va_up S.dn (8 + t) true (8 + u) = S.dn (8 + u) := fun u e => va_up_ne _ _ (by omega)
  have eop : ∀ u, u ≠ t → va_up S.op (8 + t) false (8 + u) = S.op (8 + u) := fun u e => va_up_ne _ _ (by omega)
  have edx : ∀ j, S.dn j = true → va_up S.dn (8 + t) true j = true := fun j hj => by
    by_cases e : j = 8 + t
    · subst e; exact va_up_self _ _ _
    · rw [va_up_ne _ _ e]; exact hj
  refine ⟨h1, ?_, fun u hu2 hdu => ?_, fun u hu2 hou => ?_, fun j => if S.dn j = true then rk j else if j = 8 + t then N else rk j + 1, N + 1, fun u hu2 hdu => ?_, fun u hu2 hdu => ?_, fun u T x hu2 hou hTu hx h8 => ?_⟩
  · show (if S.ord.length < 16 then S.ord ++ [8 + t] else S.ord).length = cd (va_up S.dn (8 + t) true)
    rw [cd_up ht hd, if_pos (by omega), List.length_append, h2]; rfl
  · by_cases e : u = t
    · subst e; exact ⟨hr, va_up_self _ _ _⟩
    · have hdu : va_up S.dn (8 + t) true (8 + u) = true := hdu
      rw [edn u e] at hdu
      show _ ∧ va_up S.op (8 + t) false (8 + u) = false
      rw [eop u e]
      exact h3 u hu2 hdu
  · by_cases e : u = t
    · subst e; exact ⟨fun _ => hr, hu, fun T x hTT hx => (hT T x hTT hx).1⟩
    · have hou : va_up S.op (8 + t) false (8 + u) = false := hou
      rw [eop u e] at hou
      exact h4 u hu2 hou
  · show (if S.dn (8 + u) = true then rk (8 + u) else if 8 + u = 8 + t then N else rk (8 + u) + 1) < N + 1
    have hdu : va_up S.dn (8 + t) true (8 + u) = true := hdu
    by_cases e : u = t
    · subst e; rw [if_neg (by rw [hd]; decide), if_pos rfl]; omega
    · rw [edn u e] at hdu; rw [if_pos hdu]; have := h5 u hu2 hdu; omega
  · show N + 1 ≤ (if S.dn (8 + u) = true then rk (8 + u) else if 8 + u = 8 + t then N else rk (8 + u) + 1)
    have hdu : va_up S.dn (8 + t) true (8 + u) = false := hdu
    by_cases e : u = t
    · subst e; rw [va_up_self] at hdu; cases hdu
    · rw [edn u e] at hdu; rw [if_neg (by rw [hdu]; decide), if_neg (by omega)]; have := h6 u hu2 hdu; omega
  · show (if S.dn x.1 = true then rk x.1 else if x.1 = 8 + t then N else rk x.1 + 1) < (if S.dn (8 + u) = true then rk (8 + u) else if 8 + u = 8 + t then N else rk (8 + u) + 1)
    have hou : va_up S.op (8 + t) false (8 + u) = false := hou
    have hTu : S.A.tr (8 + u) = some T := hTu
    by_cases e : u = t
    · subst e
      have hdx := (hT T x hTu hx).2 h8
      have hx24 := (hT T x hTu hx).1
      rw [if_pos hdx, if_neg (by rw [hd]; decide), if_pos rfl]
      have e8 : 8 + (x.1 - 8) = x.1 := by omega
      have := h5 (x.1 - 8) (by omega) (by rw [e8]; exact hdx)
      rw [e8] at this; exact this
    · rw [eop u e] at hou
      have hlt2 := h7 u T x hu2 hou hTu hx h8
      have hx24 := (h4 u hu2 hou).2.2 T x hTu hx
      have e8 : 8 + (x.1 - 8) = x.1 := by omega
      cases hdu : S.dn (8 + u) with
      | true =>
        have h51 := h5 u hu2 hdu
        cases hdx : S.dn x.1 with
        | true => simpa using hlt2
        | false =>
          have := h6 (x.1 - 8) (by omega) (by rw [e8]; exact hdx)
          rw [e8] at this
          omega
      | false =>
        have h61 := h6 u hu2 hdu
        have hne : ¬ 8 + u = 8 + t := by omega
        cases hdx : S.dn x.1 with
        | true =>
          simp only [Bool.false_eq_true, if_true, if_false, if_neg hne]
          omega
        | false =>
          simp only [Bool.false_eq_true, if_false, if_neg hne]
          split <;> omega
/-! the row of all that a world is, as a TARGET's own changes -/
theorem NW.hide {bk X g A} (h : NW bk X g A) (k : Nat) (tr : Option aAcc) : NW bk (va_up X k true) g (A.set k (A.rs k) tr) := by
  refine ⟨h.1, h.2.1, ?_, fun t ht hX => ?_⟩
  · show NS bk g (va_up A.rs k (A.rs k))
    rw [up_id]; exact h.2.2.1
  · by_cases e : 8 + t = k
    · rw [e, va_up_self] at hX; cases hX
    · rw [va_up_ne _ _ e] at hX
      show TrO bk (va_up A.tr k tr (8 + t)) g _
      rw [va_up_ne _ _ e]
      exact h.2.2.2 t ht hX
theorem NW.setrs {bk bk' : BK} {X g A} {t : Nat} {rs : Option (List Q4)} {y : Int32} (h : NW bk X g A) (hp : bk <+: bk') (hy : CdO bk' rs y) (ht : t < 16) : NW bk' X (va_up g (408 + t) y) (A.set (8 + t) rs (A.tr (8 + t))) := by
  refine ⟨h.1.ag (fun q hq => va_up_ne _ _ (by omega)), h.2.1.ag (fun q _ hq => va_up_ne _ _ (by omega)), fun u hu => ?_, ?_⟩
  · show CdO bk' (va_up A.rs (8 + t) rs (8 + u)) (va_up g (408 + t) y (408 + u))
    by_cases e : u = t
    · subst e; rw [va_up_self, va_up_self]; exact hy
    · rw [va_up_ne _ _ (by omega), va_up_ne _ _ (by omega)]; exact (h.2.2.1 u hu).mono hp
  · show NT bk' X _ (va_up A.tr (8 + t) (A.tr (8 + t)))
    rw [up_id]
    exact h.2.2.2.ag hp (fun q hq _ => va_up_ne _ _ (by omega))
theorem NW.settr {bk : BK} {X g g' A} {t : Nat} {tr : Option aAcc} (h : NW bk (va_up X (8 + t) true) g A) (ht : t < 16) (he : ∀ q, q < 424 + 25 * t ∨ 424 + 25 * t + 25 ≤ q → g' q = g q) (hT : TrO bk tr g' (424 + 25 * t)) : NW bk X g' (A.set (8 + t) (A.rs (8 + t)) tr) := by
  refine ⟨h.1.ag (fun q hq => he q (by omega)), h.2.1.ag (fun q _ hq => he q (by omega)), ?_, fun u hu hX => ?_⟩
  · show NS bk g' (va_up A.rs (8 + t) (A.rs (8 + t)))
    rw [up_id]
    exact h.2.2.1.ag List.prefix_rfl (fun q _ hq => he q (by omega))
  · show TrO bk (va_up A.tr (8 + t) tr (8 + u)) g' _
    by_cases e : u = t
    · subst e; rw [va_up_self]; exact hT
    · rw [va_up_ne _ _ (by omega)]
      exact (h.2.2.2 u hu (by rw [va_up_ne _ _ (by omega)]; exact hX)).ag List.prefix_rfl (fun q h1 h2 => he q (by omega))
theorem same_iff {bk : BK} {o : Option (List Q4)} {l : List Q4} {y z : Int32} (hn : bk.Nodup) (ho : CdO bk o y) (hl : l ≠ []) (hz : Cd bk l z) : y = z ↔ oSame o (some l) = true := by
  cases o with
  | none =>
    have ho : y = -1 := ho
    subst ho
    refine ⟨fun e => ?_, fun e => by cases e⟩
    subst e
    exact absurd (by decide) (hz.ne hl)
  | some l' =>
    rw [ho.2.eq hn hz]
    show l' = l ↔ q4eq l' l = true
    unfold q4eq
    simp

