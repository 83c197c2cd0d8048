/-! DEPTH, told without addresses -/
def aMx (E : Nat → Nat) : aAcc → Nat
  | [] => 0
  | x :: l => max (E x.1) (aMx E l)
def aDe (E : Nat → Nat) : Option aAcc → Nat
  | none => 0
  | some [] => 0
  | some (x :: l) => aMx E (x :: l) + 1
def aDp (tr : Nat → Option aAcc) : Nat → Nat → Nat
  | 0, _ => 0
  | F + 1, k => if k < 8 then 0 else aDe (aDp tr F) (tr k)
def aDep (tr : Nat → Option aAcc) : Nat → Nat := aDp tr 16
/-- the TRACES form no ring -/
def noRing (tr : Nat → Option aAcc) : Prop := ∃ rk : Nat → Nat, ∀ (t : Nat) (T : aAcc) (x : Nat × List Q4), t < 16 → tr (8 + t) = some T → x ∈ T → 8 ≤ x.1 → rk x.1 < rk (8 + t)
def trOk (tr : Nat → Option aAcc) : Prop := ∀ (t : Nat) (T : aAcc) (x : Nat × List Q4), t < 16 → tr (8 + t) = some T → x ∈ T → x.1 < 24
theorem aMx_le {E E' : Nat → Nat} : ∀ {T : aAcc}, (∀ x, x ∈ T → E x.1 ≤ E' x.1) → aMx E T ≤ aMx E' T
  | [], _ => Nat.le_refl _
  | x :: l, h => by
    have h1 := h x (List.mem_cons_self)
    have h2 := aMx_le (T := l) (fun y hy => h y (List.mem_cons_of_mem _ hy))
    show max (E x.1) (aMx E l) ≤ max (E' x.1) (aMx E' l)
    omega
theorem aDe_le {E E' : Nat → Nat} {o : Option aAcc} (h : ∀ T x, o = some T → x ∈ T → E x.1 ≤ E' x.1) : aDe E o ≤ aDe E' o := by
  match o, h with
  | none, _ => exact Nat.le_refl _
  | some [], _ => exact Nat.le_refl _
  | some (x :: l), h => exact Nat.succ_le_succ (aMx_le (fun y hy => h _ y rfl hy))
theorem aDe_eq {E E' : Nat → Nat} {o : Option aAcc} (h : ∀ T x, o = some T → x ∈ T → E x.1 = E' x.1) : aDe E o = aDe E' o :=
  Nat.le_antisymm (aDe_le (fun T x h1 h2 => Nat.le_of_eq (h T x h1 h2))) (aDe_le (fun T x h1 h2 => Nat.le_of_eq (h T x h1 h2).symm))
theorem aMx_b {E : Nat → Nat} {F : Nat} : ∀ {T : aAcc}, (∀ x, x ∈ T → E x.1 ≤ F) → aMx E T ≤ F
  | [], _ => Nat.zero_le _
  | x :: l, h => by
    have h1 := h x (List.mem_cons_self)
    have h2 := aMx_b (T := l) (fun y hy => h y (List.mem_cons_of_mem _ hy))
    show max (E x.1) (aMx E l) ≤ F
    omega
theorem aDe_b {E : Nat → Nat} {F : Nat} {o : Option aAcc} (h : ∀ k, E k ≤ F) : aDe E o ≤ F + 1 := by
  match o with
  | none => exact Nat.zero_le _
  | some [] => exact Nat.zero_le _
  | some (x :: l) => exact Nat.succ_le_succ (aMx_b (fun y _ => h y.1))
theorem aDp_b (tr : Nat → Option aAcc) : ∀ F k, aDp tr F k ≤ F
  | 0, _ => Nat.le_refl _
  | F + 1, k => by
    show (if k < 8 then 0 else aDe (aDp tr F) (tr k)) ≤ F + 1
    split
    · exact Nat.zero_le _
    · exact aDe_b (aDp_b tr F)
theorem aDp_i (tr : Nat → Option aAcc) (F : Nat) {k : Nat} (h : k < 8) : aDp tr F k = 0 := by
  cases F with
  | zero => rfl
  | succ F => exact if_pos h
/-- how many of the first k TARGETS a test holds for -/
theorem cdN_lt {k : Nat} {p q : Nat → Bool} (h : ∀ j, p j = true → q j = true) : cdN k p ≤ cdN k q := by
  induction k with
  | zero => exact Nat.le_refl _
  | succ k ih =>
    rw [cdN, cdN]
    have h1 := h (8 + k)
    split
    · next h2 => rw [if_pos (h1 h2)]; omega
    · split <;> omega
theorem cdN_lts {k t : Nat} {p q : Nat → Bool} (h : ∀ j, p j = true → q j = true) (ht : t < k) (h1 : p (8 + t) = false) (h2 : q (8 + t) = true) : cdN k p < cdN k q := by
  have h3 := cdN_up (k := k) (dn := p) ht h1
  have h4 : cdN k (va_up p (8 + t) true) ≤ cdN k q := cdN_lt (fun j hj => by
    by_cases hjt : j = 8 + t
    · subst hjt; exact h2
    · rw [va_up_ne _ _ hjt] at hj; exact h j hj)
  omega
theorem noRing.small {tr : Nat → Option aAcc} (h : noRing tr) (hok : trOk tr) : ∃ rk : Nat → Nat, (∀ t, t < 16 → rk (8 + t) < 16) ∧ ∀ (t : Nat) (T : aAcc) (x : Nat × List Q4), t < 16 → tr (8 + t) = some T → x ∈ T → 8 ≤ x.1 → rk x.1 < rk (8 + t) := by
  obtain ⟨rk, hr⟩ := h
  refine ⟨fun k => cdN 16 (fun j => decide (rk j < rk k)), fun t ht => ?_, fun t T x ht hT hx h8 => ?_⟩
  · show cdN 16 (fun j => decide (rk j < rk (8 + t))) < 16
    refine Nat.lt_of_lt_of_le (cdN_lts (q := fun _ => true) (fun _ _ => rfl) ht ?_ rfl) (cdN_le 16 _)
    simp
  · have h1 := hr t T x ht hT hx h8
    have h24 := hok t T x ht hT hx
    have e : 8 + (x.1 - 8) = x.1 := by omega
    show cdN 16 (fun j => decide (rk j < rk x.1)) < cdN 16 (fun j => decide (rk j < rk (8 + t)))
    refine cdN_lts (t := x.1 - 8) (fun j hj => ?_) (by omega) ?_ ?_
    · simp at hj ⊢; omega
    · show decide (rk (8 + (x.1 - 8)) < rk x.1) = false
      rw [e]; simp
    · show decide (rk (8 + (x.1 - 8)) < rk (8 + t)) = true
      rw [e]; simpa using h1
theorem aDp_st {tr : Nat → Option aAcc} (hok : trOk tr) {rk : Nat → Nat} (hr : ∀ (t : Nat) (T : aAcc) (x : Nat × List Q4), t < 16 → tr (8 + t) = some T → x ∈ T → 8 ≤ x.1 → rk x.1 < rk (8 + t)) : ∀ (F t : Nat), t < 16 → rk (8 + t) < F → aDp tr F (8 + t) = aDp tr (F + 1) (8 + t)
  | 0, _, _, h => absurd h (Nat.not_lt_zero _)
  | F + 1, t, ht, h => by
    rw [aDp, aDp, if_neg (by omega), if_neg (by omega)]
    refine aDe_eq (fun T x hT hx => ?_)
    have h24 := hok t T x ht hT hx
    rcases Nat.lt_or_ge x.1 8 with h8 | h8
    · rw [aDp_i _ _ h8, aDp_i _ _ h8]
    · have e : x.1 = 8 + (x.1 - 8) := by omega
      have := hr t T x ht hT hx h8
      rw [e] at this ⊢
      exact aDp_st hok hr F _ (by omega) (by omega)
theorem aDep_eq {tr : Nat → Option aAcc} (hok : trOk tr) (h : noRing tr) {t : Nat} (ht : t < 16) : aDep tr (8 + t) = aDe (aDep tr) (tr (8 + t)) := by
  obtain ⟨rk, h1, h2⟩ := h.small hok
  show aDp tr 16 (8 + t) = _
  rw [aDp_st hok h2 16 t ht (h1 t ht), aDp, if_neg (by omega)]
  rfl
/-- a pass; the passes until nothing changes -/
def aDps (tr : Nat → Option aAcc) : Nat → (Nat → Nat) → Bool → (Nat → Nat) × Bool
  | 0, E, b => (E, b)
  | k + 1, E, b => if E (8 + (15 - k)) < aDe E (tr (8 + (15 - k))) then aDps tr k (va_up E (8 + (15 - k)) (aDe E (tr (8 + (15 - k))))) true else aDps tr k E b
def aDrs (tr : Nat → Option aAcc) : Nat → (Nat → Nat) → Nat → Nat
  | 0, E => E
  | n + 1, E => if (aDps tr 16 E false).2 = true then aDrs tr n (aDps tr 16 E false).1 else (aDps tr 16 E false).1
section M30
variable {tr : Nat → Option aAcc}
theorem dLe {E D : Nat → Nat} {t : Nat} (hok : trOk tr) (ht : t < 16) (hD : ∀ t, t < 16 → D (8 + t) = aDe D (tr (8 + t))) (hE : ∀ k, k < 24 → E k ≤ D k) : aDe E (tr (8 + t)) ≤ D (8 + t) := by
  rw [hD t ht]
  exact aDe_le (fun T x h1 h2 => hE _ (hok t T x ht h1 h2))
theorem aDps_inv {D : Nat → Nat} (hok : trOk tr) {rk : Nat → Nat} (hr : ∀ (t : Nat) (T : aAcc) (x : Nat × List Q4), t < 16 → tr (8 + t) = some T → x ∈ T → 8 ≤ x.1 → rk x.1 < rk (8 + t)) (hD : ∀ t, t < 16 → D (8 + t) = aDe D (tr (8 + t))) (hD0 : ∀ k, k < 8 → D k = 0) {p : Nat} : ∀ (k : Nat) (E : Nat → Nat) (b : Bool), k ≤ 16 → (∀ k, k < 24 → E k ≤ D k) → (∀ t, t < 16 → rk (8 + t) < p → E (8 + t) = D (8 + t)) → (∀ t, t < 16 - k → rk (8 + t) < p + 1 → E (8 + t) = D (8 + t)) → (∀ k', k' < 24 → (aDps tr k E b).1 k' ≤ D k') ∧ ∀ t, t < 16 → rk (8 + t) < p + 1 → (aDps tr k E b).1 (8 + t) = D (8 + t)
  | 0, E, b, _, h1, _, h3 => ⟨h1, fun t ht h => h3 t (by omega) h⟩
  | k + 1, E, b, hk, h1, h2, h3 => by
    have hu : 15 - k < 16 := by omega
    have hle := dLe (E := E) hok hu hD h1
    -- the value itself, when all below is right
    have hval : rk (8 + (15 - k)) < p + 1 → aDe E (tr (8 + (15 - k))) = D (8 + (15 - k)) := fun hrk => by
      rw [hD _ hu]
      refine aDe_eq (fun T x hT hx => ?_)
      have h24 := hok _ T x hu hT hx
      rcases Nat.lt_or_ge x.1 8 with h8 | h8
      · have a1 := h1 x.1 h24
        rw [hD0 _ h8] at a1 ⊢
        omega
      · have e : x.1 = 8 + (x.1 - 8) := by omega
        have := hr _ T x hu hT hx h8
        rw [e] at this ⊢
        exact h2 _ (by omega) (by omega)
    rw [aDps]
    split
    · next hlt =>
      refine aDps_inv hok hr hD hD0 k _ true (by omega) (fun j hj => ?_) (fun t ht hp => ?_) (fun t ht hp => ?_)
      · by_cases e : j = 8 + (15 - k)
        · subst e; rw [va_up_self]; exact hle
        · rw [va_up_ne _ _ e]; exact h1 j hj
      · by_cases e : 8 + t = 8 + (15 - k)
        · have e' : t = 15 - k := by omega
          subst e'; rw [va_up_self]; exact hval (by omega)
        · rw [va_up_ne _ _ e]; exact h2 t ht hp
      · by_cases e : 8 + t = 8 + (15 - k)
        · have e' : t = 15 - k := by omega
          subst e'; rw [va_up_self]; exact hval hp
        · rw [va_up_ne _ _ e]; exact h3 t (by omega) hp
    · next hlt =>
      refine aDps_inv hok hr hD hD0 k _ b (by omega) h1 h2 (fun t ht hp => ?_)
      by_cases e : t = 15 - k
      · subst e
        have a1 := h1 (8 + (15 - k)) (by omega)
        have a2 := hval hp
        omega
      · exact h3 t (by omega) hp
theorem aDps_no : ∀ (k : Nat) (E : Nat → Nat) (b : Bool), k ≤ 16 → (aDps tr k E b).2 = false → b = false ∧ (aDps tr k E b).1 = E ∧ ∀ t, 16 - k ≤ t → t < 16 → aDe E (tr (8 + t)) ≤ E (8 + t)
  | 0, E, b, _, h => ⟨h, rfl, fun t h1 h2 => by omega⟩
  | k + 1, E, b, hk, h => by
    rw [aDps] at h ⊢
    by_cases hlt : E (8 + (15 - k)) < aDe E (tr (8 + (15 - k)))
    · rw [if_pos hlt] at h
      have := (aDps_no k _ true (by omega) h).1
      cases this
    · rw [if_neg hlt] at h ⊢
      obtain ⟨e1, e2, e3⟩ := aDps_no k E b (by omega) h
      refine ⟨e1, e2, fun t h1 h2 => ?_⟩
      by_cases e : t = 15 - k
      · subst e; omega
      · exact e3 t (by omega) h2
theorem aDfx {E D : Nat → Nat} (hok : trOk tr) {rk : Nat → Nat} (hr : ∀ (t : Nat) (T : aAcc) (x : Nat × List Q4), t < 16 → tr (8 + t) = some T → x ∈ T → 8 ≤ x.1 → rk x.1 < rk (8 + t)) (hD : ∀ t, t < 16 → D (8 + t) = aDe D (tr (8 + t))) (hD0 : ∀ k, k < 8 → D k = 0) (h1 : ∀ k, k < 24 → E k ≤ D k) (h2 : ∀ t, t < 16 → aDe E (tr (8 + t)) ≤ E (8 + t)) : ∀ (p t : Nat), t < 16 → rk (8 + t) < p → E (8 + t) = D (8 + t)
  | 0, _, _, h => absurd h (Nat.not_lt_zero _)
  | p + 1, t, ht, h => by
    have e1 : aDe E (tr (8 + t)) = D (8 + t) := by
      rw [hD _ ht]
      refine aDe_eq (fun T x hT hx => ?_)
      have h24 := hok _ T x ht hT hx
      rcases Nat.lt_or_ge x.1 8 with h8 | h8
      · have a1 := h1 x.1 h24
        rw [hD0 _ h8] at a1 ⊢
        omega
      · have e : x.1 = 8 + (x.1 - 8) := by omega
        have := hr _ T x ht hT hx h8
        rw [e] at this ⊢
        exact aDfx hok hr hD hD0 h1 h2 p _ (by omega) (by omega)
    have a1 := h1 (8 + t) (by omega)
    have a2 := h2 t ht
    omega
theorem aDrs_inv {D : Nat → Nat} (hok : trOk tr) {rk : Nat → Nat} (hr : ∀ (t : Nat) (T : aAcc) (x : Nat × List Q4), t < 16 → tr (8 + t) = some T → x ∈ T → 8 ≤ x.1 → rk x.1 < rk (8 + t)) (hs : ∀ t, t < 16 → rk (8 + t) < 16) (hD : ∀ t, t < 16 → D (8 + t) = aDe D (tr (8 + t))) (hD0 : ∀ k, k < 8 → D k = 0) : ∀ (n : Nat) (E : Nat → Nat), n ≤ 16 → (∀ k, k < 24 → E k ≤ D k) → (∀ t, t < 16 → rk (8 + t) < 16 - n → E (8 + t) = D (8 + t)) → ∀ k, k < 24 → aDrs tr n E k = D k
  | 0, E, _, h1, h2, k, hk => by
    show E k = D k
    rcases Nat.lt_or_ge k 8 with h8 | h8
    · have := h1 k hk
      rw [hD0 _ h8] at this ⊢
      omega
    · have e : k = 8 + (k - 8) := by omega
      rw [e]
      exact h2 _ (by omega) (hs _ (by omega))
  | n + 1, E, hn, h1, h2, k, hk => by
    obtain ⟨i1, i2⟩ := aDps_inv hok hr hD hD0 (p := 16 - (n + 1)) 16 E false (Nat.le_refl _) h1 h2 (fun t ht _ => by omega)
    rw [aDrs]
    split
    · exact aDrs_inv hok hr hs hD hD0 n _ (by omega) i1 (fun t ht hp => i2 t ht (by omega)) k hk
    · next hb =>
      obtain ⟨-, e2, e3⟩ := aDps_no (tr := tr) 16 E false (Nat.le_refl _) (by simpa using hb)
      rw [e2]
      rcases Nat.lt_or_ge k 8 with h8 | h8
      · have := h1 k hk
        rw [hD0 _ h8] at this ⊢
        omega
      · have e : k = 8 + (k - 8) := by omega
        rw [e]
        exact aDfx hok hr hD hD0 h1 (fun t ht => e3 t (by omega) ht) 16 _ (by omega) (hs _ (by omega))
theorem aDrs_dep (hok : trOk tr) (h : noRing tr) {k : Nat} (hk : k < 24) : aDrs tr 16 (fun _ => 0) k = aDep tr k := by
  obtain ⟨rk, h1, h2⟩ := h.small hok
  exact aDrs_inv hok h2 h1 (fun t ht => aDep_eq hok h ht) (fun k hk => aDp_i _ _ hk) 16 _ (Nat.le_refl _) (fun _ _ => Nat.zero_le _) (fun t ht hp => by omega) k hk
theorem aDps_b : ∀ (k : Nat) (E : Nat → Nat) (b : Bool) (D : Nat → Nat), k ≤ 16 → trOk tr → (∀ t, t < 16 → D (8 + t) = aDe D (tr (8 + t))) → (∀ k, k < 24 → E k ≤ D k) → ∀ j, j < 24 → (aDps tr k E b).1 j ≤ D j
  | 0, E, b, D, _, _, _, h => h
  | k + 1, E, b, D, hk, hok, hD, h => by
    rw [aDps]
    split
    · refine aDps_b k _ _ D (by omega) hok hD (fun j hj => ?_)
      by_cases e : j = 8 + (15 - k)
      · subst e; rw [va_up_self]; exact dLe hok (by omega) hD h
      · rw [va_up_ne _ _ e]; exact h j hj
    · exact aDps_b k _ _ D (by omega) hok hD h
end M30
