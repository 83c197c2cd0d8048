/-! the whole picture of the reference -/
def RT (M : MS) (T : Nat × (Nat → Int32)) : Prop := M.1 10 = nI T.1 ∧ T.1 ≤ 50 ∧ ∀ i, i < T.1 → M.2.1 8 i = T.2 i
def RLs (M : MS) (R : Nat → aR) : Prop := ∀ i, i < 4 → M.2.1 17 i = (match (R i).1 with | none => -1 | some s => nI s) ∧ (R i).1.getD 0 ≤ 20 ∧ ∀ j, j < 20 → M.2.2 18 (20 * i + j) = (R i).2 j
def RP (bk : BK) (M : MS) (C : CS) : Prop := Bk M bk ∧ (NW bk noX (M.2.1 5) C.1.1.A ∧ WI C.1.1.A) ∧ (M.1 8 = bi C.2.1.1 ∧ (C.2.1.1 = true → NW bk noX (M.2.1 6) C.2.1.2 ∧ WI C.2.1.2)) ∧ (NQ M C.1.1 ∧ C.1.1.ord.length ≤ 16 ∧ M.1 15 = sbO C.1.2) ∧ RT M C.2.2.1 ∧ RLs M C.2.2.2
theorem RP.of {bk : BK} {M M' : MS} {C : CS} (h : RP bk M C) (hs : ∀ j, j ≠ 22 → M'.1 j = M.1 j) (ha : ∀ j, (1 ≤ j ∧ j ≤ 6) ∨ j = 8 ∨ j = 11 ∨ j = 17 → M'.2.1 j = M.2.1 j) (hl : M'.2.2 18 = M.2.2 18) : RP bk M' C := by
  obtain ⟨h1, h2, h3, ⟨h4, h5, h6⟩, h7, h8⟩ := h
  refine ⟨h1.of (hs 4 (by omega)) (fun j a b => ha j (by omega)), ?_, ?_, ⟨⟨?_, ?_, ?_, ?_, ?_, ?_⟩, h5, ?_⟩, ⟨?_, h7.2.1, ?_⟩, ?_⟩
  · rw [ha 5 (by omega)]; exact h2
  · rw [ha 6 (by omega), hs 8 (by omega)]; exact h3
  · rw [hs 14 (by omega)]; exact h4.1
  · rw [ha 11 (by omega)]; exact h4.2.1
  · rw [hs 16 (by omega)]; exact h4.2.2.1
  · rw [hs 17 (by omega)]; exact h4.2.2.2.1
  · rw [hs 18 (by omega)]; exact h4.2.2.2.2.1
  · rw [hs 19 (by omega)]; exact h4.2.2.2.2.2
  · rw [hs 15 (by omega)]; exact h6
  · rw [hs 10 (by omega)]; exact h7.1
  · rw [ha 8 (by omega)]; exact h7.2.2
  · intro i hi
    rw [ha 17 (by omega), hl]; exact h8 i hi
theorem RP.bs {bk bk' : BK} {M M' : MS} {C : CS} {e : Nat} (h : RP bk M C) (hs : Bs M bk M' bk' e) : RP bk' M' C := by
  obtain ⟨h1, h2, h3, ⟨h4, h5, h6⟩, h7, h8⟩ := h
  obtain ⟨g1, ⟨g2, g3, g4⟩, g5, g6⟩ := hs
  refine ⟨g1, ?_, ?_, ⟨⟨?_, ?_, ?_, ?_, ?_, ?_⟩, h5, ?_⟩, ⟨?_, h7.2.1, ?_⟩, ?_⟩
  · rw [g3 5 (by omega)]; exact ⟨h2.1.ag g5 (fun _ _ => rfl), h2.2⟩
  · rw [g3 6 (by omega), g2 8 (by omega)]; exact ⟨h3.1, fun e => ⟨(h3.2 e).1.ag g5 (fun _ _ => rfl), (h3.2 e).2⟩⟩
  · rw [g2 14 (by omega)]; exact h4.1
  · rw [g3 11 (by omega)]; exact h4.2.1
  · rw [g2 16 (by omega)]; exact h4.2.2.1
  · rw [g2 17 (by omega)]; exact h4.2.2.2.1
  · rw [g2 18 (by omega)]; exact h4.2.2.2.2.1
  · rw [g2 19 (by omega)]; exact h4.2.2.2.2.2
  · rw [g2 15 (by omega)]; exact h6
  · rw [g2 10 (by omega)]; exact h7.1
  · rw [g3 8 (by omega)]; exact h7.2.2
  · intro i hi
    rw [g3 17 (by omega), g4]; exact h8 i hi
/-- the row of all that a world is becomes another -/
theorem RP.w {bk : BK} {M : MS} {C : CS} {g : Nat → Int32} {A : AW} (h : RP bk M C) (hN : NW bk noX g A) (hW : WI A) : RP bk (M.seta 5 g) (((A, C.1.1.2), C.1.2), C.2) := by
  obtain ⟨h1, h2, h3, h4, h7, h8⟩ := h
  refine ⟨h1.of rfl (fun j a b => va_up_ne _ _ (by omega)), ⟨?_, hW⟩, h3, h4, h7, h8⟩
  have : (M.seta 5 g).2.1 5 = g := by
    show va_up M.2.1 5 g 5 = g
    rw [va_up_self]
  rw [this]; exact hN
/-- what a call answers and leaves -/
def RQ (B : Nat) (D : va_G) (n w r : Nat) (f : Nat → Option va_E) (d : Nat) (μ : pm_M) (args : List Value) (bk : BK) (M : MS) (v : Value) (C' : CS) : Prop := ∃ (M' : MS) (bk' : BK), CT B D d μ (.ref r :: args) (n, w, mH r f M) (some v) (n, w, mH r f M') ∧ RP bk' M' C' ∧ ne bk' ≤ ne bk + 16
theorem RQ.same {B : Nat} {D : va_G} {n w r : Nat} {f : Nat → Option va_E} {d : Nat} {μ : pm_M} {args : List Value} {bk : BK} {M : MS} {v : Value} {C : CS} (h : RP bk M C) (hC : CT B D d μ (.ref r :: args) (n, w, mH r f M) (some v) (n, w, mH r f M)) : RQ B D n w r f d μ args bk M v C := ⟨M, bk, hC, h, by omega⟩
theorem cntF_shift (p : Nat → Bool) : ∀ (k i : Nat) (x : Int32), cntF (fun t => p (8 + t)) k i x = cntF p k (8 + i) x
  | 0, _, _ => rfl
  | k + 1, i, x => by
    rw [cntF, cntF, cntF_shift p k (i + 1)]
    rfl
def t_hv (A : AW) (j t : Nat) : Bool := if j = 0 then !(A.ru (8 + t)).isEmpty else if j = 1 then (aHas A (8 + t)).isSome else if j = 2 then (aFail A (8 + t)).isSome else (A.tr (8 + t)).isSome
section M64
variable {B : Nat} {D : va_G} {n w r : Nat} {f : Nat → Option va_E} {bk : BK} {M : MS} {C : CS} {A : AW}
theorem l_X7_pours_56 {d : Nat} : ∀ (k j : Nat) (M : MS), j + k = 824 → ∃ g : Nat → Int32, EX B D d mX7_pours 2 [some (.ref (r + 5)), some (.ref (r + 6)), some (.int (nI j))] [] (n, w, mH r f M) none (n, w, mH r f (M.seta 6 g)) ∧ (∀ q, j ≤ q → q < 824 → g q = M.2.1 5 q) ∧ ∀ q, q < j → g q = M.2.1 6 q
  | 0, j, M, hj => by
    have : j = 824 := by omega
    subst this
    refine ⟨M.2.1 6, ?_, fun q h1 h2 => by omega, fun q _ => rfl⟩
    refine px_iload_n dX7_pours_2 rfl ?_
    refine px_sipush (v := 824) dX7_pours_3 (by decide) ?_
    refine px_icmp_ge (tgt := 21) dX7_pours_6 (by decide) (fun hc6 => ?_) (fun hc6 => ?_)
    · exact px_retv dX7_pours_21 rfl (by show (n, w, mH r f (M.1, va_up M.2.1 6 (M.2.1 6), M.2.2)) = _; rw [up_id])
    · exact absurd (by decide) hc6
  | k + 1, j, M, hj => by
    obtain ⟨g, e1, e2, e3⟩ := l_X7_pours_56 (d := d) k (j + 1) (M.sa 6 j (M.2.1 5 j)) (by omega)
    have ea : (M.sa 6 j (M.2.1 5 j)).2.1 5 = M.2.1 5 := rfl
    have eb : (M.sa 6 j (M.2.1 5 j)).2.1 6 = va_up (M.2.1 6) j (M.2.1 5 j) := rfl
    have es : (M.sa 6 j (M.2.1 5 j)).seta 6 g = M.seta 6 g := by unfold MS.sa MS.seta; simp only [bx_uu]
    rw [ea] at e2
    rw [eb] at e3
    rw [es] at e1
    refine ⟨g, ?_, fun q h1 h2 => ?_, fun q hq => ?_⟩
    · refine px_iload_n dX7_pours_2 rfl ?_
      refine px_sipush (v := 824) dX7_pours_3 (by decide) ?_
      refine px_icmp_ge (tgt := 21) dX7_pours_6 (by decide) (fun hc6 => ?_) (fun hc6 => ?_)
      · exact absurd hc6 (nI_ge (a := j) (b := 824) (by omega) (by omega))
      · refine px_aload_n dX7_pours_9 rfl ?_
        refine px_iload_n dX7_pours_10 rfl ?_
        refine px_aload_n dX7_pours_11 rfl ?_
        refine px_iload_n dX7_pours_12 rfl ?_
        refine mx_iaload (j := 5) (m := 824) (q := j) dX7_pours_13 (by decide) (by first | rfl | (simp (disch := omega) only [li0, li1, li2, li3, li5, li6, li8, li9, li10, li12, li13, li16, li20, li24, li25, li100, li408, li424, li824, nI_add, nI_mul, nI_sub]; first | done | rfl | (congr 1; omega))) (by omega) ?_
        refine mx_iastore (j := 6) (m := 824) (q := j) dX7_pours_14 (by decide) (by first | rfl | (simp (disch := omega) only [li0, li1, li2, li3, li5, li6, li8, li9, li10, li12, li13, li16, li20, li24, li25, li100, li408, li424, li824, nI_add, nI_mul, nI_sub]; first | done | rfl | (congr 1; omega))) (by omega) ?_
        refine px_iinc2 rfl (nI_inc j) dX7_pours_15 ?_
        refine px_goto (tgt := 2) dX7_pours_18 (by decide) ?_
        exact e1
    · by_cases e : q = j
      · subst e
        rw [e3 q (by omega), va_up_self]
      · exact e2 q (by omega) h2
    · rw [e3 q (by omega), va_up_ne _ _ (by omega)]
theorem c_X7_pours_56 : ∃ g : Nat → Int32, CT B D 0 mX7_pours [.ref (r + 5), .ref (r + 6)] (n, w, mH r f M) none (n, w, mH r f (M.seta 6 g)) ∧ ∀ q, q < 824 → g q = M.2.1 5 q := by
  obtain ⟨g, e1, e2, e3⟩ := l_X7_pours_56 (B := B) (D := D) (n := n) (w := w) (r := r) (f := f) (d := 0) 824 0 M (by omega)
  refine ⟨g, ?_, fun q h => e2 q (Nat.zero_le _) h⟩
  refine CT.of [some (.ref (r + 5)), some (.ref (r + 6)), none] rfl (Nat.le_of_ble_eq_true rfl) pl_X7 trivial ?_
  refine px_iconst (v := 0) dX7_pours_0 (by decide) ?_
  refine px_istore2 rfl dX7_pours_1 ?_
  exact e1
theorem l_X7_pours_65 {d : Nat} : ∀ (k j : Nat) (M : MS), j + k = 824 → ∃ g : Nat → Int32, EX B D d mX7_pours 2 [some (.ref (r + 6)), some (.ref (r + 5)), some (.int (nI j))] [] (n, w, mH r f M) none (n, w, mH r f (M.seta 5 g)) ∧ (∀ q, j ≤ q → q < 824 → g q = M.2.1 6 q) ∧ ∀ q, q < j → g q = M.2.1 5 q
  | 0, j, M, hj => by
    have : j = 824 := by omega
    subst this
    refine ⟨M.2.1 5, ?_, fun q h1 h2 => by omega, fun q _ => rfl⟩
    refine px_iload_n dX7_pours_2 rfl ?_
    refine px_sipush (v := 824) dX7_pours_3 (by decide) ?_
    refine px_icmp_ge (tgt := 21) dX7_pours_6 (by decide) (fun hc6 => ?_) (fun hc6 => ?_)
    · exact px_retv dX7_pours_21 rfl (by show (n, w, mH r f (M.1, va_up M.2.1 5 (M.2.1 5), M.2.2)) = _; rw [up_id])
    · exact absurd (by decide) hc6
  | k + 1, j, M, hj => by
    obtain ⟨g, e1, e2, e3⟩ := l_X7_pours_65 (d := d) k (j + 1) (M.sa 5 j (M.2.1 6 j)) (by omega)
    have ea : (M.sa 5 j (M.2.1 6 j)).2.1 6 = M.2.1 6 := rfl
    have eb : (M.sa 5 j (M.2.1 6 j)).2.1 5 = va_up (M.2.1 5) j (M.2.1 6 j) := rfl
    have es : (M.sa 5 j (M.2.1 6 j)).seta 5 g = M.seta 5 g := by unfold MS.sa MS.seta; simp only [bx_uu]
    rw [ea] at e2
    rw [eb] at e3
    rw [es] at e1
    refine ⟨g, ?_, fun q h1 h2 => ?_, fun q hq => ?_⟩
    · refine px_iload_n dX7_pours_2 rfl ?_
      refine px_sipush (v := 824) dX7_pours_3 (by decide) ?_
      refine px_icmp_ge (tgt := 21) dX7_pours_6 (by decide) (fun hc6 => ?_) (fun hc6 => ?_)
      · exact absurd hc6 (nI_ge (a := j) (b := 824) (by omega) (by omega))
      · refine px_aload_n dX7_pours_9 rfl ?_
        refine px_iload_n dX7_pours_10 rfl ?_
        refine px_aload_n dX7_pours_11 rfl ?_
        refine px_iload_n dX7_pours_12 rfl ?_
        refine mx_iaload (j := 6) (m := 824) (q := j) dX7_pours_13 (by decide) (by first | rfl | (simp (disch := omega) only [li0, li1, li2, li3, li5, li6, li8, li9, li10, li12, li13, li16, li20, li24, li25, li100, li408, li424, li824, nI_add, nI_mul, nI_sub]; first | done | rfl | (congr 1; omega))) (by omega) ?_
        refine mx_iastore (j := 5) (m := 824) (q := j) dX7_pours_14 (by decide) (by first | rfl | (simp (disch := omega) only [li0, li1, li2, li3, li5, li6, li8, li9, li10, li12, li13, li16, li20, li24, li25, li100, li408, li424, li824, nI_add, nI_mul, nI_sub]; first | done | rfl | (congr 1; omega))) (by omega) ?_
        refine px_iinc2 rfl (nI_inc j) dX7_pours_15 ?_
        refine px_goto (tgt := 2) dX7_pours_18 (by decide) ?_
        exact e1
    · by_cases e : q = j
      · subst e
        rw [e3 q (by omega), va_up_self]
      · exact e2 q (by omega) h2
    · rw [e3 q (by omega), va_up_ne _ _ (by omega)]
theorem c_X7_pours_65 : ∃ g : Nat → Int32, CT B D 0 mX7_pours [.ref (r + 6), .ref (r + 5)] (n, w, mH r f M) none (n, w, mH r f (M.seta 5 g)) ∧ ∀ q, q < 824 → g q = M.2.1 6 q := by
  obtain ⟨g, e1, e2, e3⟩ := l_X7_pours_65 (B := B) (D := D) (n := n) (w := w) (r := r) (f := f) (d := 0) 824 0 M (by omega)
  refine ⟨g, ?_, fun q h => e2 q (Nat.zero_le _) h⟩
  refine CT.of [some (.ref (r + 6)), some (.ref (r + 5)), none] rfl (Nat.le_of_ble_eq_true rfl) pl_X7 trivial ?_
  refine px_iconst (v := 0) dX7_pours_0 (by decide) ?_
  refine px_istore2 rfl dX7_pours_1 ?_
  exact e1
theorem l_X7_pours_57 {d : Nat} : ∀ (k j : Nat) (M : MS), j + k = 824 → ∃ g : Nat → Int32, EX B D d mX7_pours 2 [some (.ref (r + 5)), some (.ref (r + 7)), some (.int (nI j))] [] (n, w, mH r f M) none (n, w, mH r f (M.seta 7 g)) ∧ (∀ q, j ≤ q → q < 824 → g q = M.2.1 5 q) ∧ ∀ q, q < j → g q = M.2.1 7 q
  | 0, j, M, hj => by
    have : j = 824 := by omega
    subst this
    refine ⟨M.2.1 7, ?_, fun q h1 h2 => by omega, fun q _ => rfl⟩
    refine px_iload_n dX7_pours_2 rfl ?_
    refine px_sipush (v := 824) dX7_pours_3 (by decide) ?_
    refine px_icmp_ge (tgt := 21) dX7_pours_6 (by decide) (fun hc6 => ?_) (fun hc6 => ?_)
    · exact px_retv dX7_pours_21 rfl (by show (n, w, mH r f (M.1, va_up M.2.1 7 (M.2.1 7), M.2.2)) = _; rw [up_id])
    · exact absurd (by decide) hc6
  | k + 1, j, M, hj => by
    obtain ⟨g, e1, e2, e3⟩ := l_X7_pours_57 (d := d) k (j + 1) (M.sa 7 j (M.2.1 5 j)) (by omega)
    have ea : (M.sa 7 j (M.2.1 5 j)).2.1 5 = M.2.1 5 := rfl
    have eb : (M.sa 7 j (M.2.1 5 j)).2.1 7 = va_up (M.2.1 7) j (M.2.1 5 j) := rfl
    have es : (M.sa 7 j (M.2.1 5 j)).seta 7 g = M.seta 7 g := by unfold MS.sa MS.seta; simp only [bx_uu]
    rw [ea] at e2
    rw [eb] at e3
    rw [es] at e1
    refine ⟨g, ?_, fun q h1 h2 => ?_, fun q hq => ?_⟩
    · refine px_iload_n dX7_pours_2 rfl ?_
      refine px_sipush (v := 824) dX7_pours_3 (by decide) ?_
      refine px_icmp_ge (tgt := 21) dX7_pours_6 (by decide) (fun hc6 => ?_) (fun hc6 => ?_)
      · exact absurd hc6 (nI_ge (a := j) (b := 824) (by omega) (by omega))
      · refine px_aload_n dX7_pours_9 rfl ?_
        refine px_iload_n dX7_pours_10 rfl ?_
        refine px_aload_n dX7_pours_11 rfl ?_
        refine px_iload_n dX7_pours_12 rfl ?_
        refine mx_iaload (j := 5) (m := 824) (q := j) dX7_pours_13 (by decide) (by first | rfl | (simp (disch := omega) only [li0, li1, li2, li3, li5, li6, li8, li9, li10, li12, li13, li16, li20, li24, li25, li100, li408, li424, li824, nI_add, nI_mul, nI_sub]; first | done | rfl | (congr 1; omega))) (by omega) ?_
        refine mx_iastore (j := 7) (m := 824) (q := j) dX7_pours_14 (by decide) (by first | rfl | (simp (disch := omega) only [li0, li1, li2, li3, li5, li6, li8, li9, li10, li12, li13, li16, li20, li24, li25, li100, li408, li424, li824, nI_add, nI_mul, nI_sub]; first | done | rfl | (congr 1; omega))) (by omega) ?_
        refine px_iinc2 rfl (nI_inc j) dX7_pours_15 ?_
        refine px_goto (tgt := 2) dX7_pours_18 (by decide) ?_
        exact e1
    · by_cases e : q = j
      · subst e
        rw [e3 q (by omega), va_up_self]
      · exact e2 q (by omega) h2
    · rw [e3 q (by omega), va_up_ne _ _ (by omega)]
theorem c_X7_pours_57 : ∃ g : Nat → Int32, CT B D 0 mX7_pours [.ref (r + 5), .ref (r + 7)] (n, w, mH r f M) none (n, w, mH r f (M.seta 7 g)) ∧ ∀ q, q < 824 → g q = M.2.1 5 q := by
  obtain ⟨g, e1, e2, e3⟩ := l_X7_pours_57 (B := B) (D := D) (n := n) (w := w) (r := r) (f := f) (d := 0) 824 0 M (by omega)
  refine ⟨g, ?_, fun q h => e2 q (Nat.zero_le _) h⟩
  refine CT.of [some (.ref (r + 5)), some (.ref (r + 7)), none] rfl (Nat.le_of_ble_eq_true rfl) pl_X7 trivial ?_
  refine px_iconst (v := 0) dX7_pours_0 (by decide) ?_
  refine px_istore2 rfl dX7_pours_1 ?_
  exact e1
theorem l_X7_pours_75 {d : Nat} : ∀ (k j : Nat) (M : MS), j + k = 824 → ∃ g : Nat → Int32, EX B D d mX7_pours 2 [some (.ref (r + 7)), some (.ref (r + 5)), some (.int (nI j))] [] (n, w, mH r f M) none (n, w, mH r f (M.seta 5 g)) ∧ (∀ q, j ≤ q → q < 824 → g q = M.2.1 7 q) ∧ ∀ q, q < j → g q = M.2.1 5 q
  | 0, j, M, hj => by
    have : j = 824 := by omega
    subst this
    refine ⟨M.2.1 5, ?_, fun q h1 h2 => by omega, fun q _ => rfl⟩
    refine px_iload_n dX7_pours_2 rfl ?_
    refine px_sipush (v := 824) dX7_pours_3 (by decide) ?_
    refine px_icmp_ge (tgt := 21) dX7_pours_6 (by decide) (fun hc6 => ?_) (fun hc6 => ?_)
    · exact px_retv dX7_pours_21 rfl (by show (n, w, mH r f (M.1, va_up M.2.1 5 (M.2.1 5), M.2.2)) = _; rw [up_id])
    · exact absurd (by decide) hc6
  | k + 1, j, M, hj => by
    obtain ⟨g, e1, e2, e3⟩ := l_X7_pours_75 (d := d) k (j + 1) (M.sa 5 j (M.2.1 7 j)) (by omega)
    have ea : (M.sa 5 j (M.2.1 7 j)).2.1 7 = M.2.1 7 := rfl
    have eb : (M.sa 5 j (M.2.1 7 j)).2.1 5 = va_up (M.2.1 5) j (M.2.1 7 j) := rfl
    have es : (M.sa 5 j (M.2.1 7 j)).seta 5 g = M.seta 5 g := by unfold MS.sa MS.seta; simp only [bx_uu]
    rw [ea] at e2
    rw [eb] at e3
    rw [es] at e1
    refine ⟨g, ?_, fun q h1 h2 => ?_, fun q hq => ?_⟩
    · refine px_iload_n dX7_pours_2 rfl ?_
      refine px_sipush (v := 824) dX7_pours_3 (by decide) ?_
      refine px_icmp_ge (tgt := 21) dX7_pours_6 (by decide) (fun hc6 => ?_) (fun hc6 => ?_)
      · exact absurd hc6 (nI_ge (a := j) (b := 824) (by omega) (by omega))
      · refine px_aload_n dX7_pours_9 rfl ?_
        refine px_iload_n dX7_pours_10 rfl ?_
        refine px_aload_n dX7_pours_11 rfl ?_
        refine px_iload_n dX7_pours_12 rfl ?_
        refine mx_iaload (j := 7) (m := 824) (q := j) dX7_pours_13 (by decide) (by first | rfl | (simp (disch := omega) only [li0, li1, li2, li3, li5, li6, li8, li9, li10, li12, li13, li16, li20, li24, li25, li100, li408, li424, li824, nI_add, nI_mul, nI_sub]; first | done | rfl | (congr 1; omega))) (by omega) ?_
        refine mx_iastore (j := 5) (m := 824) (q := j) dX7_pours_14 (by decide) (by first | rfl | (simp (disch := omega) only [li0, li1, li2, li3, li5, li6, li8, li9, li10, li12, li13, li16, li20, li24, li25, li100, li408, li424, li824, nI_add, nI_mul, nI_sub]; first | done | rfl | (congr 1; omega))) (by omega) ?_
        refine px_iinc2 rfl (nI_inc j) dX7_pours_15 ?_
        refine px_goto (tgt := 2) dX7_pours_18 (by decide) ?_
        exact e1
    · by_cases e : q = j
      · subst e
        rw [e3 q (by omega), va_up_self]
      · exact e2 q (by omega) h2
    · rw [e3 q (by omega), va_up_ne _ _ (by omega)]
theorem c_X7_pours_75 : ∃ g : Nat → Int32, CT B D 0 mX7_pours [.ref (r + 7), .ref (r + 5)] (n, w, mH r f M) none (n, w, mH r f (M.seta 5 g)) ∧ ∀ q, q < 824 → g q = M.2.1 7 q := by
  obtain ⟨g, e1, e2, e3⟩ := l_X7_pours_75 (B := B) (D := D) (n := n) (w := w) (r := r) (f := f) (d := 0) 824 0 M (by omega)
  refine ⟨g, ?_, fun q h => e2 q (Nat.zero_le _) h⟩
  refine CT.of [some (.ref (r + 7)), some (.ref (r + 5)), none] rfl (Nat.le_of_ble_eq_true rfl) pl_X7 trivial ?_
  refine px_iconst (v := 0) dX7_pours_0 (by decide) ?_
  refine px_istore2 rfl dX7_pours_1 ?_
  exact e1
theorem l_X7_having_0 {d : Nat} (hd : 3 ≤ d) (hN : NW bk noX (M.2.1 5) A) : ∀ (k t : Nat) (x : Int32) (z : Option Value), t + k = 16 → EX B D d mX7_having 5 [some (.ref r), some (.int 0), some (.int x), some (.int (nI (8 + t))), z] [] (n, w, mH r f M) (some (.int (cntF (t_hv A 0) k t x))) (n, w, mH r f M)
  | 0, t, x, z, ht => by
    have : t = 16 := by omega
    subst this
    refine px_iload_n dX7_having_5 rfl ?_
    refine px_bipush (v := 24) dX7_having_6 (by decide) ?_
    refine px_icmp_ge (tgt := 103) dX7_having_8 (by decide) (fun hc8 => ?_) (fun hc8 => ?_)
    · refine px_iload_n dX7_having_103 rfl ?_
      exact px_reti dX7_having_104 (by rfl) (by rfl)
    · exact absurd (by decide) hc8
  | k + 1, t, x, z, ht => by
    have ht2 : t < 16 := by omega
    have hv := (hN.2.1 t ht2).2.1
    have hl12 := (hN.2.1 t ht2).1
    have q1 : ¬ M.2.1 5 (8 + 25 * t + 0) ≤ 0 → (1 : Int32) = bi (t_hv A 0 t) := fun e => by
      rw [Nat.add_zero, hv] at e
      show _ = bi (!(A.ru (8 + t)).isEmpty)
      cases hr : A.ru (8 + t) with
      | nil => rw [hr] at e; exact absurd (by decide) e
      | cons a l => rfl
    have q0 : M.2.1 5 (8 + 25 * t + 0) ≤ 0 → (0 : Int32) = bi (t_hv A 0 t) := fun e => by
      rw [Nat.add_zero, hv] at e
      show _ = bi (!(A.ru (8 + t)).isEmpty)
      cases hr : A.ru (8 + t) with
      | nil => rfl
      | cons a l => rw [hr] at e hl12; exact absurd e (nI_nle (by simp) (by omega))
    have k82 : ∀ z : Int32, z = bi (t_hv A 0 t) → ∀ z4 : Option Value, EX B D d mX7_having 82 [some (.ref r), some (.int 0), some (.int x), some (.int (nI (8 + t))), z4] [.int z] (n, w, mH r f M) (some (.int (cntF (t_hv A 0) (k + 1) t x))) (n, w, mH r f M) := fun z hz z4 => by
      subst hz
      cases hp : t_hv A 0 t with
      | true =>
        rw [cntF_t hp]
        have ih := l_X7_having_0 (d := d) hd hN k (t + 1) (x + 1) (some (.int (bi true))) (by omega)
        refine px_istore4 rfl dX7_having_82 ?_
        refine px_iload_n dX7_having_84 rfl ?_
        refine px_iload dX7_having_85 rfl ?_
        refine px_ifb_eq (tgt := 94) dX7_having_87 (by decide) (fun hc87 => ?_) (fun hc87 => ?_)
        · cases hc87
        · refine px_iconst (v := 1) dX7_having_90 (by decide) ?_
          refine px_goto (tgt := 95) dX7_having_91 (by decide) ?_
          refine px_iadd dX7_having_95 ?_
          refine px_istore2 rfl dX7_having_96 ?_
          refine px_iinc3 rfl (nI_inc (8 + t)) dX7_having_97 ?_
          refine px_goto (tgt := 5) dX7_having_100 (by decide) ?_
          exact ih
      | false =>
        rw [cntF_f hp]
        have ih := l_X7_having_0 (d := d) hd hN k (t + 1) x (some (.int (bi false))) (by omega)

        refine px_istore4 rfl dX7_having_82 ?_
        refine px_iload_n dX7_having_84 rfl ?_
        refine px_iload dX7_having_85 rfl ?_
        refine px_ifb_eq (tgt := 94) dX7_having_87 (by decide) (fun hc87 => ?_) (fun hc87 => ?_)
        · refine px_iconst (v := 0) dX7_having_94 (by decide) ?_
          refine px_iadd dX7_having_95 ?_
          refine px_istore2 rfl dX7_having_96 ?_
          refine px_iinc3 rfl (nI_inc (8 + t)) dX7_having_97 ?_
          refine px_goto (tgt := 5) dX7_having_100 (by decide) ?_
          have e0 : x + 0 = x := Int32.add_zero x
          rw [e0]
          exact ih
        · cases hc87
    refine px_iload_n dX7_having_5 rfl ?_
    refine px_bipush (v := 24) dX7_having_6 (by decide) ?_
    refine px_icmp_ge (tgt := 103) dX7_having_8 (by decide) (fun hc8 => ?_) (fun hc8 => ?_)
    · exact absurd hc8 (nI_ge (a := 8 + t) (b := 24) (by omega) (by omega))
    · refine px_iload_n dX7_having_11 rfl ?_
      refine px_if_ne (tgt := 32) dX7_having_12 (by decide) (fun hc12 => ?_) (fun hc12 => ?_)
      · exact absurd rfl hc12
      · refine px_aload_n dX7_having_15 rfl ?_
        refine px_iload_n dX7_having_16 rfl ?_
        refine px_iconst (v := 0) dX7_having_17 (by decide) ?_
        refine px_callV1 (ν := mX7_ruled) (ci := 7) rfl rfl lk_X7_140 in_X7_ruled se_X7_ruled mok_X7_ruled dX7_having_18 (c_X7_ruled ht2 (q := 0) rfl (by omega)) (by exact mH_0) rfl rfl (by omega) (by simp) ?_
        refine px_if_le (tgt := 28) dX7_having_21 (by decide) (fun hc21 => ?_) (fun hc21 => ?_)
        · refine px_iconst (v := 0) dX7_having_28 (by decide) ?_
          refine px_goto (tgt := 82) dX7_having_29 (by decide) ?_
          exact k82 _ (by first | exact q1 hc21 | exact q0 hc21) _
        · refine px_iconst (v := 1) dX7_having_24 (by decide) ?_
          refine px_goto (tgt := 82) dX7_having_25 (by decide) ?_
          exact k82 _ (by first | exact q1 hc21 | exact q0 hc21) _
theorem c_X7_having_0 (hN : NW bk noX (M.2.1 5) A) : CT B D 3 mX7_having [.ref r, .int 0] (n, w, mH r f M) (some (.int (cntF (t_hv A 0) 16 0 0))) (n, w, mH r f M) := by
  refine CT.of [some (.ref r), some (.int 0), none, none, none] rfl (Nat.le_of_ble_eq_true rfl) pl_X7 trivial ?_
  refine px_iconst (v := 0) dX7_having_0 (by decide) ?_
  refine px_istore2 rfl dX7_having_1 ?_
  refine px_bipush (v := 8) dX7_having_2 (by decide) ?_
  refine px_istore3 rfl dX7_having_4 ?_
  exact l_X7_having_0 (Nat.le_refl _) hN 16 0 0 none rfl
theorem l_X7_having_1 {d : Nat} (hd : 3 ≤ d) (hN : NW bk noX (M.2.1 5) A) : ∀ (k t : Nat) (x : Int32) (z : Option Value), t + k = 16 → EX B D d mX7_having 5 [some (.ref r), some (.int 1), some (.int x), some (.int (nI (8 + t))), z] [] (n, w, mH r f M) (some (.int (cntF (t_hv A 1) k t x))) (n, w, mH r f M)
  | 0, t, x, z, ht => by
    have : t = 16 := by omega
    subst this
    refine px_iload_n dX7_having_5 rfl ?_
    refine px_bipush (v := 24) dX7_having_6 (by decide) ?_
    refine px_icmp_ge (tgt := 103) dX7_having_8 (by decide) (fun hc8 => ?_) (fun hc8 => ?_)
    · refine px_iload_n dX7_having_103 rfl ?_
      exact px_reti dX7_having_104 (by rfl) (by rfl)
    · exact absurd (by decide) hc8
  | k + 1, t, x, z, ht => by
    have ht2 : t < 16 := by omega
    have hv := hN.2.2.1 t ht2
    have q1 : ¬ M.2.1 5 (408 + t) < 0 → (1 : Int32) = bi (t_hv A 1 t) := fun e => by
      show _ = bi ((aHas A (8 + t)).isSome)
      rw [show aHas A (8 + t) = A.rs (8 + t) from if_neg (by omega)]
      cases hr : A.rs (8 + t) with
      | none => rw [hr] at hv; have hv : M.2.1 5 (408 + t) = -1 := hv; rw [hv] at e; exact absurd (by decide) e
      | some l => rfl
    have q0 : M.2.1 5 (408 + t) < 0 → (0 : Int32) = bi (t_hv A 1 t) := fun e => by
      show _ = bi ((aHas A (8 + t)).isSome)
      rw [show aHas A (8 + t) = A.rs (8 + t) from if_neg (by omega)]
      cases hr : A.rs (8 + t) with
      | none => rfl
      | some l => rw [hr] at hv; exact absurd e (hv.2.ne hv.1)
    have k82 : ∀ z : Int32, z = bi (t_hv A 1 t) → ∀ z4 : Option Value, EX B D d mX7_having 82 [some (.ref r), some (.int 1), some (.int x), some (.int (nI (8 + t))), z4] [.int z] (n, w, mH r f M) (some (.int (cntF (t_hv A 1) (k + 1) t x))) (n, w, mH r f M) := fun z hz z4 => by
      subst hz
      cases hp : t_hv A 1 t with
      | true =>
        rw [cntF_t hp]
        have ih := l_X7_having_1 (d := d) hd hN k (t + 1) (x + 1) (some (.int (bi true))) (by omega)
        refine px_istore4 rfl dX7_having_82 ?_
        refine px_iload_n dX7_having_84 rfl ?_
        refine px_iload dX7_having_85 rfl ?_
        refine px_ifb_eq (tgt := 94) dX7_having_87 (by decide) (fun hc87 => ?_) (fun hc87 => ?_)
        · cases hc87
        · refine px_iconst (v := 1) dX7_having_90 (by decide) ?_
          refine px_goto (tgt := 95) dX7_having_91 (by decide) ?_
          refine px_iadd dX7_having_95 ?_
          refine px_istore2 rfl dX7_having_96 ?_
          refine px_iinc3 rfl (nI_inc (8 + t)) dX7_having_97 ?_
          refine px_goto (tgt := 5) dX7_having_100 (by decide) ?_
          exact ih
      | false =>
        rw [cntF_f hp]
        have ih := l_X7_having_1 (d := d) hd hN k (t + 1) x (some (.int (bi false))) (by omega)

        refine px_istore4 rfl dX7_having_82 ?_
        refine px_iload_n dX7_having_84 rfl ?_
        refine px_iload dX7_having_85 rfl ?_
        refine px_ifb_eq (tgt := 94) dX7_having_87 (by decide) (fun hc87 => ?_) (fun hc87 => ?_)
        · refine px_iconst (v := 0) dX7_having_94 (by decide) ?_
          refine px_iadd dX7_having_95 ?_
          refine px_istore2 rfl dX7_having_96 ?_
          refine px_iinc3 rfl (nI_inc (8 + t)) dX7_having_97 ?_
          refine px_goto (tgt := 5) dX7_having_100 (by decide) ?_
          have e0 : x + 0 = x := Int32.add_zero x
          rw [e0]
          exact ih
        · cases hc87
    refine px_iload_n dX7_having_5 rfl ?_
    refine px_bipush (v := 24) dX7_having_6 (by decide) ?_
    refine px_icmp_ge (tgt := 103) dX7_having_8 (by decide) (fun hc8 => ?_) (fun hc8 => ?_)
    · exact absurd hc8 (nI_ge (a := 8 + t) (b := 24) (by omega) (by omega))
    · refine px_iload_n dX7_having_11 rfl ?_
      refine px_if_ne (tgt := 32) dX7_having_12 (by decide) (fun hc12 => ?_) (fun hc12 => ?_)
      · refine px_iload_n dX7_having_32 rfl ?_
        refine px_iconst (v := 1) dX7_having_33 (by decide) ?_
        refine px_icmp_ne (tgt := 53) dX7_having_34 (by decide) (fun hc34 => ?_) (fun hc34 => ?_)
        · exact absurd rfl hc34
        · refine px_aload_n dX7_having_37 rfl ?_
          refine px_iload_n dX7_having_38 rfl ?_
          refine px_callV1 (ν := mX7_has) (ci := 7) rfl rfl lk_X7_156 in_X7_has se_X7_has mok_X7_has dX7_having_39 (c_X7_has_t ht2) (by exact mH_0) rfl rfl (by omega) (by simp) ?_
          refine px_if_lt (tgt := 49) dX7_having_42 (by decide) (fun hc42 => ?_) (fun hc42 => ?_)
          · refine px_iconst (v := 0) dX7_having_49 (by decide) ?_
            refine px_goto (tgt := 82) dX7_having_50 (by decide) ?_
            exact k82 _ (by first | exact q1 hc42 | exact q0 hc42) _
          · refine px_iconst (v := 1) dX7_having_45 (by decide) ?_
            refine px_goto (tgt := 82) dX7_having_46 (by decide) ?_
            exact k82 _ (by first | exact q1 hc42 | exact q0 hc42) _
      · exact absurd hc12 (by decide)
theorem c_X7_having_1 (hN : NW bk noX (M.2.1 5) A) : CT B D 3 mX7_having [.ref r, .int 1] (n, w, mH r f M) (some (.int (cntF (t_hv A 1) 16 0 0))) (n, w, mH r f M) := by
  refine CT.of [some (.ref r), some (.int 1), none, none, none] rfl (Nat.le_of_ble_eq_true rfl) pl_X7 trivial ?_
  refine px_iconst (v := 0) dX7_having_0 (by decide) ?_
  refine px_istore2 rfl dX7_having_1 ?_
  refine px_bipush (v := 8) dX7_having_2 (by decide) ?_
  refine px_istore3 rfl dX7_having_4 ?_
  exact l_X7_having_1 (Nat.le_refl _) hN 16 0 0 none rfl
theorem l_X7_having_2 {d : Nat} (hd : 3 ≤ d) (hN : NW bk noX (M.2.1 5) A) : ∀ (k t : Nat) (x : Int32) (z : Option Value), t + k = 16 → EX B D d mX7_having 5 [some (.ref r), some (.int 2), some (.int x), some (.int (nI (8 + t))), z] [] (n, w, mH r f M) (some (.int (cntF (t_hv A 2) k t x))) (n, w, mH r f M)
  | 0, t, x, z, ht => by
    have : t = 16 := by omega
    subst this
    refine px_iload_n dX7_having_5 rfl ?_
    refine px_bipush (v := 24) dX7_having_6 (by decide) ?_
    refine px_icmp_ge (tgt := 103) dX7_having_8 (by decide) (fun hc8 => ?_) (fun hc8 => ?_)
    · refine px_iload_n dX7_having_103 rfl ?_
      exact px_reti dX7_having_104 (by rfl) (by rfl)
    · exact absurd (by decide) hc8
  | k + 1, t, x, z, ht => by
    have ht2 : t < 16 := by omega
    have hv := fail_o (hN.2.2.1 t ht2)
    have k82 : ∀ z : Int32, z = bi (t_hv A 2 t) → ∀ z4 : Option Value, EX B D d mX7_having 82 [some (.ref r), some (.int 2), some (.int x), some (.int (nI (8 + t))), z4] [.int z] (n, w, mH r f M) (some (.int (cntF (t_hv A 2) (k + 1) t x))) (n, w, mH r f M) := fun z hz z4 => by
      subst hz
      cases hp : t_hv A 2 t with
      | true =>
        rw [cntF_t hp]
        have ih := l_X7_having_2 (d := d) hd hN k (t + 1) (x + 1) (some (.int (bi true))) (by omega)
        refine px_istore4 rfl dX7_having_82 ?_
        refine px_iload_n dX7_having_84 rfl ?_
        refine px_iload dX7_having_85 rfl ?_
        refine px_ifb_eq (tgt := 94) dX7_having_87 (by decide) (fun hc87 => ?_) (fun hc87 => ?_)
        · cases hc87
        · refine px_iconst (v := 1) dX7_having_90 (by decide) ?_
          refine px_goto (tgt := 95) dX7_having_91 (by decide) ?_
          refine px_iadd dX7_having_95 ?_
          refine px_istore2 rfl dX7_having_96 ?_
          refine px_iinc3 rfl (nI_inc (8 + t)) dX7_having_97 ?_
          refine px_goto (tgt := 5) dX7_having_100 (by decide) ?_
          exact ih
      | false =>
        rw [cntF_f hp]
        have ih := l_X7_having_2 (d := d) hd hN k (t + 1) x (some (.int (bi false))) (by omega)

        refine px_istore4 rfl dX7_having_82 ?_
        refine px_iload_n dX7_having_84 rfl ?_
        refine px_iload dX7_having_85 rfl ?_
        refine px_ifb_eq (tgt := 94) dX7_having_87 (by decide) (fun hc87 => ?_) (fun hc87 => ?_)
        · refine px_iconst (v := 0) dX7_having_94 (by decide) ?_
          refine px_iadd dX7_having_95 ?_
          refine px_istore2 rfl dX7_having_96 ?_
          refine px_iinc3 rfl (nI_inc (8 + t)) dX7_having_97 ?_
          refine px_goto (tgt := 5) dX7_having_100 (by decide) ?_
          have e0 : x + 0 = x := Int32.add_zero x
          rw [e0]
          exact ih
        · cases hc87
    refine px_iload_n dX7_having_5 rfl ?_
    refine px_bipush (v := 24) dX7_having_6 (by decide) ?_
    refine px_icmp_ge (tgt := 103) dX7_having_8 (by decide) (fun hc8 => ?_) (fun hc8 => ?_)
    · exact absurd hc8 (nI_ge (a := 8 + t) (b := 24) (by omega) (by omega))
    · refine px_iload_n dX7_having_11 rfl ?_
      refine px_if_ne (tgt := 32) dX7_having_12 (by decide) (fun hc12 => ?_) (fun hc12 => ?_)
      · refine px_iload_n dX7_having_32 rfl ?_
        refine px_iconst (v := 1) dX7_having_33 (by decide) ?_
        refine px_icmp_ne (tgt := 53) dX7_having_34 (by decide) (fun hc34 => ?_) (fun hc34 => ?_)
        · refine px_iload_n dX7_having_53 rfl ?_
          refine px_iconst (v := 2) dX7_having_54 (by decide) ?_
          refine px_icmp_ne (tgt := 69) dX7_having_55 (by decide) (fun hc55 => ?_) (fun hc55 => ?_)
          · exact absurd rfl hc55
          · refine px_aload_n dX7_having_58 rfl ?_
            refine px_iload_n dX7_having_59 rfl ?_
            refine px_callV1 (ν := mX7_has) (ci := 7) rfl rfl lk_X7_156 in_X7_has se_X7_has mok_X7_has dX7_having_60 (c_X7_has_t ht2) (by exact mH_0) rfl rfl (by omega) (by simp) ?_
            refine px_callS1 (ν := mX7_isFailure) lk_X7_34 st_X7_isFailure mok_X7_isFailure dX7_having_63 (c_X7_isFailure _) rfl rfl (by omega) (by simp) ?_
            refine px_goto (tgt := 82) dX7_having_66 (by decide) ?_
            exact k82 _ (by rw [hv]; rfl) _
        · exact absurd hc34 (by decide)
      · exact absurd hc12 (by decide)
theorem c_X7_having_2 (hN : NW bk noX (M.2.1 5) A) : CT B D 3 mX7_having [.ref r, .int 2] (n, w, mH r f M) (some (.int (cntF (t_hv A 2) 16 0 0))) (n, w, mH r f M) := by
  refine CT.of [some (.ref r), some (.int 2), none, none, none] rfl (Nat.le_of_ble_eq_true rfl) pl_X7 trivial ?_
  refine px_iconst (v := 0) dX7_having_0 (by decide) ?_
  refine px_istore2 rfl dX7_having_1 ?_
  refine px_bipush (v := 8) dX7_having_2 (by decide) ?_
  refine px_istore3 rfl dX7_having_4 ?_
  exact l_X7_having_2 (Nat.le_refl _) hN 16 0 0 none rfl
theorem l_X7_having_3 {d : Nat} (hd : 3 ≤ d) (hN : NW bk noX (M.2.1 5) A) : ∀ (k t : Nat) (x : Int32) (z : Option Value), t + k = 16 → EX B D d mX7_having 5 [some (.ref r), some (.int 3), some (.int x), some (.int (nI (8 + t))), z] [] (n, w, mH r f M) (some (.int (cntF (t_hv A 3) k t x))) (n, w, mH r f M)
  | 0, t, x, z, ht => by
    have : t = 16 := by omega
    subst this
    refine px_iload_n dX7_having_5 rfl ?_
    refine px_bipush (v := 24) dX7_having_6 (by decide) ?_
    refine px_icmp_ge (tgt := 103) dX7_having_8 (by decide) (fun hc8 => ?_) (fun hc8 => ?_)
    · refine px_iload_n dX7_having_103 rfl ?_
      exact px_reti dX7_having_104 (by rfl) (by rfl)
    · exact absurd (by decide) hc8
  | k + 1, t, x, z, ht => by
    have ht2 : t < 16 := by omega
    have hv := hN.2.2.2 t ht2 rfl
    have q1 : ¬ M.2.1 5 (424 + 25 * t) < 0 → (1 : Int32) = bi (t_hv A 3 t) := fun e => by
      show _ = bi ((A.tr (8 + t)).isSome)
      cases hr : A.tr (8 + t) with
      | none => rw [hr] at hv; have hv : M.2.1 5 (424 + 25 * t) = -1 := hv; rw [hv] at e; exact absurd (by decide) e
      | some l => rfl
    have q0 : M.2.1 5 (424 + 25 * t) < 0 → (0 : Int32) = bi (t_hv A 3 t) := fun e => by
      show _ = bi ((A.tr (8 + t)).isSome)
      cases hr : A.tr (8 + t) with
      | none => rfl
      | some l => rw [hr] at hv; have h12 := hv.1; rw [hv.2.1] at e; exact absurd e (nI_pos (by omega))
    have k82 : ∀ z : Int32, z = bi (t_hv A 3 t) → ∀ z4 : Option Value, EX B D d mX7_having 82 [some (.ref r), some (.int 3), some (.int x), some (.int (nI (8 + t))), z4] [.int z] (n, w, mH r f M) (some (.int (cntF (t_hv A 3) (k + 1) t x))) (n, w, mH r f M) := fun z hz z4 => by
      subst hz
      cases hp : t_hv A 3 t with
      | true =>
        rw [cntF_t hp]
        have ih := l_X7_having_3 (d := d) hd hN k (t + 1) (x + 1) (some (.int (bi true))) (by omega)
        refine px_istore4 rfl dX7_having_82 ?_
        refine px_iload_n dX7_having_84 rfl ?_
        refine px_iload dX7_having_85 rfl ?_
        refine px_ifb_eq (tgt := 94) dX7_having_87 (by decide) (fun hc87 => ?_) (fun hc87 => ?_)
        · cases hc87
        · refine px_iconst (v := 1) dX7_having_90 (by decide) ?_
          refine px_goto (tgt := 95) dX7_having_91 (by decide) ?_
          refine px_iadd dX7_having_95 ?_
          refine px_istore2 rfl dX7_having_96 ?_
          refine px_iinc3 rfl (nI_inc (8 + t)) dX7_having_97 ?_
          refine px_goto (tgt := 5) dX7_having_100 (by decide) ?_
          exact ih
      | false =>
        rw [cntF_f hp]
        have ih := l_X7_having_3 (d := d) hd hN k (t + 1) x (some (.int (bi false))) (by omega)

        refine px_istore4 rfl dX7_having_82 ?_
        refine px_iload_n dX7_having_84 rfl ?_
        refine px_iload dX7_having_85 rfl ?_
        refine px_ifb_eq (tgt := 94) dX7_having_87 (by decide) (fun hc87 => ?_) (fun hc87 => ?_)
        · refine px_iconst (v := 0) dX7_having_94 (by decide) ?_
          refine px_iadd dX7_having_95 ?_
          refine px_istore2 rfl dX7_having_96 ?_
          refine px_iinc3 rfl (nI_inc (8 + t)) dX7_having_97 ?_
          refine px_goto (tgt := 5) dX7_having_100 (by decide) ?_
          have e0 : x + 0 = x := Int32.add_zero x
          rw [e0]
          exact ih
        · cases hc87
    refine px_iload_n dX7_having_5 rfl ?_
    refine px_bipush (v := 24) dX7_having_6 (by decide) ?_
    refine px_icmp_ge (tgt := 103) dX7_having_8 (by decide) (fun hc8 => ?_) (fun hc8 => ?_)
    · exact absurd hc8 (nI_ge (a := 8 + t) (b := 24) (by omega) (by omega))
    · refine px_iload_n dX7_having_11 rfl ?_
      refine px_if_ne (tgt := 32) dX7_having_12 (by decide) (fun hc12 => ?_) (fun hc12 => ?_)
      · refine px_iload_n dX7_having_32 rfl ?_
        refine px_iconst (v := 1) dX7_having_33 (by decide) ?_
        refine px_icmp_ne (tgt := 53) dX7_having_34 (by decide) (fun hc34 => ?_) (fun hc34 => ?_)
        · refine px_iload_n dX7_having_53 rfl ?_
          refine px_iconst (v := 2) dX7_having_54 (by decide) ?_
          refine px_icmp_ne (tgt := 69) dX7_having_55 (by decide) (fun hc55 => ?_) (fun hc55 => ?_)
          · refine px_aload_n dX7_having_69 rfl ?_
            refine px_iload_n dX7_having_70 rfl ?_
            refine px_callV1 (ν := mX7_traced) (ci := 7) rfl rfl lk_X7_147 in_X7_traced se_X7_traced mok_X7_traced dX7_having_71 (c_X7_traced ht2) (by exact mH_0) rfl rfl (by omega) (by simp) ?_
            refine px_if_lt (tgt := 81) dX7_having_74 (by decide) (fun hc74 => ?_) (fun hc74 => ?_)
            · refine px_iconst (v := 0) dX7_having_81 (by decide) ?_
              exact k82 _ (by first | exact q1 hc74 | exact q0 hc74) _
            · refine px_iconst (v := 1) dX7_having_77 (by decide) ?_
              refine px_goto (tgt := 82) dX7_having_78 (by decide) ?_
              exact k82 _ (by first | exact q1 hc74 | exact q0 hc74) _
          · exact absurd hc55 (by decide)
        · exact absurd hc34 (by decide)
      · exact absurd hc12 (by decide)
theorem c_X7_having_3 (hN : NW bk noX (M.2.1 5) A) : CT B D 3 mX7_having [.ref r, .int 3] (n, w, mH r f M) (some (.int (cntF (t_hv A 3) 16 0 0))) (n, w, mH r f M) := by
  refine CT.of [some (.ref r), some (.int 3), none, none, none] rfl (Nat.le_of_ble_eq_true rfl) pl_X7 trivial ?_
  refine px_iconst (v := 0) dX7_having_0 (by decide) ?_
  refine px_istore2 rfl dX7_having_1 ?_
  refine px_bipush (v := 8) dX7_having_2 (by decide) ?_
  refine px_istore3 rfl dX7_having_4 ?_
  exact l_X7_having_3 (Nat.le_refl _) hN 16 0 0 none rfl
end M64
