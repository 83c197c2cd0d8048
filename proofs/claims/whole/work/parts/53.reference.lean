/-! the reference's own cells lie at r0 .. r0 + 19, over a heap f: scalars by field, arrays by place -/
abbrev MS : Type := (Nat → Int32) × (Nat → Nat → Int32) × (Nat → Nat → Int64)
abbrev MS.sc (M : MS) : Nat → Int32 := M.1
abbrev MS.ar (M : MS) : Nat → Nat → Int32 := M.2.1
abbrev MS.la (M : MS) : Nat → Nat → Int64 := M.2.2
def mty : Nat → Nat := fun j => if j = 9 ∨ j = 10 ∨ j = 14 then 2 else 0
def mln : Nat → Nat := fun j => match j with
  | 1 => 9000
  | 2 => 9000
  | 3 => 9000
  | 4 => 9000
  | 5 => 824
  | 6 => 824
  | 7 => 824
  | 8 => 50
  | 9 => 24
  | 10 => 24
  | 11 => 16
  | 12 => 12
  | 13 => 12
  | 14 => 24
  | 15 => 16
  | 16 => 24
  | 17 => 4
  | 18 => 80
  | _ => 20
def mfs (r : Nat) (s : Nat → Int32) : List Value := [.ref (r + 1), .ref (r + 2), .ref (r + 3), .ref (r + 4), .int (s 4), .ref (r + 5), .ref (r + 6), .ref (r + 7), .int (s 8), .ref (r + 8), .int (s 10), .ref (r + 9), .ref (r + 10), .ref (r + 11), .int (s 14), .int (s 15), .int (s 16), .int (s 17), .int (s 18), .int (s 19), .ref (r + 12), .ref (r + 13), .int (s 22), .ref (r + 14), .ref (r + 15), .ref (r + 16), .ref (r + 17), .ref (r + 18), .ref (r + 19)]
def mCell (r : Nat) (M : MS) (j : Nat) : va_E := if j = 0 then .inr (7, mfs r M.1) else if j < 18 then .inl (mty j, mln j, .inl (M.2.1 j)) else .inl (1, mln j, .inr (.inl (M.2.2 j)))
def mH (r : Nat) (f : Nat → Option va_E) (M : MS) : Nat → Option va_E := fun a => if r ≤ a ∧ a < r + 20 then some (mCell r M (a - r)) else f a
def MS.sets (M : MS) (k : Nat) (x : Int32) : MS := (va_up M.1 k x, M.2)
def MS.seta (M : MS) (j : Nat) (g : Nat → Int32) : MS := (M.1, va_up M.2.1 j g, M.2.2)
def MS.setl (M : MS) (j : Nat) (g : Nat → Int64) : MS := (M.1, M.2.1, va_up M.2.2 j g)
abbrev MS.sa (M : MS) (j q : Nat) (x : Int32) : MS := M.seta j (va_up (M.2.1 j) q x)
theorem mH_at {r : Nat} {f : Nat → Option va_E} {M : MS} {j : Nat} (h : j < 20) : mH r f M (r + j) = some (mCell r M j) := by
  unfold mH
  rw [if_pos (by omega), Nat.add_sub_cancel_left]
theorem mH_0 {r : Nat} {f : Nat → Option va_E} {M : MS} : mH r f M r = some (.inr (7, mfs r M.1)) := mH_at (j := 0) (by omega)
theorem mH_i {r : Nat} {f : Nat → Option va_E} {M : MS} {j : Nat} (h1 : 1 ≤ j) (h2 : j < 18) : mH r f M (r + j) = some (.inl (mty j, mln j, .inl (M.2.1 j))) := by
  rw [mH_at (by omega), mCell, if_neg (by omega), if_pos h2]
theorem mH_l {r : Nat} {f : Nat → Option va_E} {M : MS} {j : Nat} (h1 : 18 ≤ j) (h2 : j < 20) : mH r f M (r + j) = some (.inl (1, mln j, .inr (.inl (M.2.2 j)))) := by
  rw [mH_at (by omega), mCell, if_neg (by omega), if_neg (by omega)]
theorem mH_out {r : Nat} {f : Nat → Option va_E} {M : MS} {a : Nat} (h : a < r ∨ r + 20 ≤ a) : mH r f M a = f a := if_neg (by omega)
theorem mH_up {r : Nat} {f : Nat → Option va_E} {M M' : MS} {j : Nat} (hj : j < 20) (h : ∀ i, i < 20 → i ≠ j → mCell r M' i = mCell r M i) : va_up (mH r f M) (r + j) (some (mCell r M' j)) = mH r f M' := by
  funext a
  by_cases h1 : r ≤ a ∧ a < r + 20
  · obtain ⟨i, rfl⟩ : ∃ i, a = r + i := ⟨a - r, by omega⟩
    by_cases h2 : i = j
    · subst h2
      rw [va_up_self, mH_at hj]
    · rw [va_up_ne _ _ (by omega), mH_at (by omega), mH_at (by omega), h i (by omega) h2]
  · rw [va_up_ne _ _ (by omega), mH_out (by omega), mH_out (by omega)]
theorem mH_sets {r : Nat} {f : Nat → Option va_E} {M : MS} {k : Nat} {x : Int32} {fs : List Value} (h : fs = mfs r (va_up M.1 k x)) : va_up (mH r f M) r (some (.inr (7, fs))) = mH r f (M.sets k x) := by
  subst h
  exact mH_up (j := 0) (M' := M.sets k x) (by omega) (fun i _ h2 => by unfold mCell; rw [if_neg h2, if_neg h2]; rfl)
theorem mH_seta {r : Nat} {f : Nat → Option va_E} {M : MS} {j t m : Nat} {g : Nat → Int32} (h1 : 1 ≤ j) (h2 : j < 18) (ht : mty j = t) (hm : mln j = m) : va_up (mH r f M) (r + j) (some (.inl (t, m, .inl g))) = mH r f (M.seta j g) := by
  subst ht hm
  have e : mCell r (M.seta j g) j = .inl (mty j, mln j, .inl g) := by
    unfold mCell; rw [if_neg (by omega), if_pos h2]; show Sum.inl (mty j, mln j, Sum.inl (va_up M.2.1 j g j)) = _; rw [va_up_self]
  rw [← e]
  refine mH_up (by omega) (fun i _ h3 => ?_)
  unfold mCell
  show (if i = 0 then _ else if i < 18 then Sum.inl (mty i, mln i, Sum.inl (va_up M.2.1 j g i)) else _) = _
  rw [va_up_ne _ _ h3]; rfl
theorem mH_setl {r : Nat} {f : Nat → Option va_E} {M : MS} {j m : Nat} {g : Nat → Int64} (h1 : 18 ≤ j) (h2 : j < 20) (hm : mln j = m) : va_up (mH r f M) (r + j) (some (.inl (1, m, .inr (.inl g)))) = mH r f (M.setl j g) := by
  subst hm
  have e : mCell r (M.setl j g) j = .inl (1, mln j, .inr (.inl g)) := by
    unfold mCell; rw [if_neg (by omega), if_neg (by omega)]; show Sum.inl (1, mln j, Sum.inr (Sum.inl (va_up M.2.2 j g j))) = _; rw [va_up_self]
  rw [← e]
  refine mH_up h2 (fun i _ h3 => ?_)
  unfold mCell
  show (if i = 0 then _ else if i < 18 then _ else Sum.inl (1, mln i, Sum.inr (Sum.inl (va_up M.2.2 j g i)))) = _
  rw [va_up_ne _ _ h3]; rfl
theorem mH_id {r : Nat} {f g : Nat → Option va_E} {M : MS} (h : ∀ j, j < 20 → g (r + j) = mH r f M (r + j)) : mH r g M = g := by
  funext a
  by_cases h1 : r ≤ a ∧ a < r + 20
  · obtain ⟨i, rfl⟩ : ∃ i, a = r + i := ⟨a - r, by omega⟩
    rw [h i (by omega), mH_at (by omega), mH_at (by omega)]
  · exact mH_out (by omega)
theorem mH_mH {r : Nat} {f : Nat → Option va_E} {M M' : MS} : mH r (mH r f M) M' = mH r f M' := by
  funext a
  by_cases h1 : r ≤ a ∧ a < r + 20
  · obtain ⟨i, rfl⟩ : ∃ i, a = r + i := ⟨a - r, by omega⟩
    rw [mH_at (by omega), mH_at (by omega)]
  · rw [mH_out (by omega), mH_out (by omega), mH_out (by omega)]
/-! rules for the reference's cells; indices as natural numbers -/
theorem nI_in2 {q m : Nat} (h : q < m) (hm : m ≤ 9000) : 0 ≤ (nI q).toInt ∧ (nI q).toInt < (m : Int) := by rw [nI_toInt (by omega)]; omega
theorem mln_le (j : Nat) : mln j ≤ 9000 := by
  unfold mln
  split <;> omega
section M53
variable {B : Nat} {D : va_G} {d : Nat} {μ : pm_M} {pc : Nat} {ls : pm_Ls} {st : List Value} {n w r0 : Nat} {f : Nat → Option va_E} {M : MS} {r : Option Value} {h1 : pm_H}
theorem mx_get {i k : Nat} {v : Value} (hF : pm_fl μ.1.cls i 7 k) (hd : decode μ.2.1 pc = .ok (.getfield i, 3)) (hv : (mfs r0 M.1)[k]? = some v) (kk : EX B D d μ (pc + 3) ls (v :: st) (n, w, mH r0 f M) r h1) : EX B D d μ pc ls (.ref r0 :: st) (n, w, mH r0 f M) r h1 := px_getfield hF hd mH_0 hv kk
theorem mx_put {i k : Nat} {x : Int32} {ty : FieldType} (hF : pm_fp μ.1.cls i 7 k false ty) (hd : decode μ.2.1 pc = .ok (.putfield i, 3)) (hn : narrow ty (.int x) = .int x) (hfit : fits ty (.int x) = true) (hk : k < 29) (hs : (mfs r0 M.1).set k (.int x) = mfs r0 (va_up M.1 k x)) (kk : EX B D d μ (pc + 3) ls st (n, w, mH r0 f (M.sets k x)) r h1) : EX B D d μ pc ls (.int x :: .ref r0 :: st) (n, w, mH r0 f M) r h1 := by
  refine px_putfield hF hd mH_0 hn hfit hk ?_
  rw [mH_sets hs]
  exact kk
theorem mx_iaload {j m q : Nat} {i : Int32} (hd : decode μ.2.1 pc = .ok (.iaload, 1)) (hj : 1 ≤ j ∧ j < 18 ∧ mty j = 0 ∧ mln j = m) (hi : i = nI q) (hq : q < m) (kk : EX B D d μ (pc + 1) ls (.int (M.2.1 j q) :: st) (n, w, mH r0 f M) r h1) : EX B D d μ pc ls (.int i :: .ref (r0 + j) :: st) (n, w, mH r0 f M) r h1 := by
  obtain ⟨j1, j2, j3, j4⟩ := hj
  have hm := mln_le j
  subst hi j4
  refine px_iaload (m := mln j) (g := M.2.1 j) hd (by rw [mH_i j1 j2, j3]) (nI_in2 hq hm) ?_
  rw [nI_clamp (by omega)]
  exact kk
theorem mx_baload {j m q : Nat} {i : Int32} (hd : decode μ.2.1 pc = .ok (.baload, 1)) (hj : 1 ≤ j ∧ j < 18 ∧ mty j = 2 ∧ mln j = m) (hi : i = nI q) (hq : q < m) (kk : EX B D d μ (pc + 1) ls (.int (M.2.1 j q) :: st) (n, w, mH r0 f M) r h1) : EX B D d μ pc ls (.int i :: .ref (r0 + j) :: st) (n, w, mH r0 f M) r h1 := by
  obtain ⟨j1, j2, j3, j4⟩ := hj
  have hm := mln_le j
  subst hi j4
  refine px_baload (m := mln j) (g := M.2.1 j) hd (by rw [mH_i j1 j2, j3]) (nI_in2 hq hm) ?_
  rw [nI_clamp (by omega)]
  exact kk
theorem mx_laload {j m q : Nat} {i : Int32} (hd : decode μ.2.1 pc = .ok (.laload, 1)) (hj : 18 ≤ j ∧ j < 20 ∧ mln j = m) (hi : i = nI q) (hq : q < m) (kk : EX B D d μ (pc + 1) ls (.long (M.2.2 j q) :: st) (n, w, mH r0 f M) r h1) : EX B D d μ pc ls (.int i :: .ref (r0 + j) :: st) (n, w, mH r0 f M) r h1 := by
  obtain ⟨j1, j2, j4⟩ := hj
  have hm := mln_le j
  subst hi j4
  refine px_laload (m := mln j) (g := M.2.2 j) hd (mH_l j1 j2) (nI_in2 hq hm) ?_
  rw [nI_clamp (by omega)]
  exact kk
theorem mx_iastore {j m q : Nat} {i x : Int32} (hd : decode μ.2.1 pc = .ok (.iastore, 1)) (hj : 1 ≤ j ∧ j < 18 ∧ mty j = 0 ∧ mln j = m) (hi : i = nI q) (hq : q < m) (kk : EX B D d μ (pc + 1) ls st (n, w, mH r0 f (M.sa j q x)) r h1) : EX B D d μ pc ls (.int x :: .int i :: .ref (r0 + j) :: st) (n, w, mH r0 f M) r h1 := by
  obtain ⟨j1, j2, j3, j4⟩ := hj
  have hm := mln_le j
  subst hi j4
  refine px_iastore (m := mln j) (g := M.2.1 j) hd (by rw [mH_i j1 j2, j3]) (nI_in2 hq hm) ?_
  rw [nI_clamp (by omega), mH_seta j1 j2 j3 rfl]
  exact kk
theorem mx_bastore {j m q : Nat} {i x : Int32} (hd : decode μ.2.1 pc = .ok (.bastore, 1)) (hj : 1 ≤ j ∧ j < 18 ∧ mty j = 2 ∧ mln j = m) (hi : i = nI q) (hq : q < m) (hxx : x = 0 ∨ x = 1) (kk : EX B D d μ (pc + 1) ls st (n, w, mH r0 f (M.sa j q x)) r h1) : EX B D d μ pc ls (.int x :: .int i :: .ref (r0 + j) :: st) (n, w, mH r0 f M) r h1 := by
  obtain ⟨j1, j2, j3, j4⟩ := hj
  have hm := mln_le j
  subst hi j4
  refine px_bastore (m := mln j) (g := M.2.1 j) hd (by rw [mH_i j1 j2, j3]) (nI_in2 hq hm) hxx ?_
  rw [nI_clamp (by omega), mH_seta j1 j2 j3 rfl]
  exact kk
theorem mx_lastore {j m q : Nat} {i : Int32} {x : Int64} (hd : decode μ.2.1 pc = .ok (.lastore, 1)) (hj : 18 ≤ j ∧ j < 20 ∧ mln j = m) (hi : i = nI q) (hq : q < m) (kk : EX B D d μ (pc + 1) ls st (n, w, mH r0 f (M.setl j (va_up (M.2.2 j) q x))) r h1) : EX B D d μ pc ls (.long x :: .int i :: .ref (r0 + j) :: st) (n, w, mH r0 f M) r h1 := by
  obtain ⟨j1, j2, j4⟩ := hj
  have hm := mln_le j
  subst hi j4
  refine px_lastore (m := mln j) (g := M.2.2 j) hd (mH_l j1 j2) (nI_in2 hq hm) ?_
  rw [nI_clamp (by omega), mH_setl j1 j2 rfl]
  exact kk
end M53
theorem nI_sub {a b : Nat} (h : b ≤ a) : nI a - nI b = nI (a - b) := by
  have h1 : nI (a - b) + nI b = nI a := by rw [nI_add]; congr 1; omega
  rw [← h1, Int32.add_sub_cancel]
theorem nI_mul (a b : Nat) : nI a * nI b = nI (a * b) := by
  show Int32.ofNat a * Int32.ofNat b = Int32.ofNat (a * b)
  rw [Int32.ofNat_mul]

theorem li0 : (0 : Int32) = nI 0 := rfl
theorem li1 : (1 : Int32) = nI 1 := rfl
theorem li2 : (2 : Int32) = nI 2 := rfl
theorem li3 : (3 : Int32) = nI 3 := rfl
theorem li5 : (5 : Int32) = nI 5 := rfl
theorem li6 : (6 : Int32) = nI 6 := rfl
theorem li8 : (8 : Int32) = nI 8 := rfl
theorem li9 : (9 : Int32) = nI 9 := rfl
theorem li10 : (10 : Int32) = nI 10 := rfl
theorem li12 : (12 : Int32) = nI 12 := rfl
theorem li13 : (13 : Int32) = nI 13 := rfl
theorem li16 : (16 : Int32) = nI 16 := rfl
theorem li20 : (20 : Int32) = nI 20 := rfl
theorem li24 : (24 : Int32) = nI 24 := rfl
theorem li25 : (25 : Int32) = nI 25 := rfl
theorem li100 : (100 : Int32) = nI 100 := rfl
theorem li408 : (408 : Int32) = nI 408 := rfl
theorem li424 : (424 : Int32) = nI 424 := rfl
theorem li824 : (824 : Int32) = nI 824 := rfl
