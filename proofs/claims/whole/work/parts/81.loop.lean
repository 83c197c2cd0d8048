/-! the law's loop -/
theorem LI.more {b L : Nat} {xs : Nat → Int32} {e r N0 W0 q : Nat} {C : CS} {n w : Nat} {g : Nat → Option va_E} {M : MS} {bk : BK} (h : LI b L xs e r N0 W0 q C n w g M bk) : LI b L xs e r N0 W0 (q + 1) C n w g M bk := by
  obtain ⟨h1, h2, h3, h4, h5, h6, h7, h8, h9, h10⟩ := h
  exact ⟨h1, h2, h3, h4, h5, by omega, by omega, by omega, h9, h10⟩
theorem lw_len {L q : Nat} (hL : L ≤ 3072) (hq : q ≤ 512) : (Int32.ofNat L - 6 < nI (6 * q)) ↔ L < 6 * q + 6 := by
  rw [Int32.lt_iff_toInt_lt, Int32.toInt_sub, show Int32.ofNat L = nI L from rfl, nI_toInt (by omega), nI_toInt (by omega), show (6 : Int32).toInt = 6 from rfl, Int.bmod_eq_of_le (by omega) (by omega)]
  omega
theorem lw_at {L q : Nat} (h : 6 * q + 5 < L) (hL : L ≤ 3072) : 0 ≤ (nI (6 * q)).toInt ∧ (nI (6 * q)).toInt < (L : Int) := by
  rw [nI_toInt (by omega)]; omega
section M81
variable {B : Nat} {D : va_G} {b L : Nat} {xs : Nat → Int32} {e r N0 W0 q : Nat} {C : CS} {n w : Nat} {g : Nat → Option va_E} {M : MS} {bk : BK}
theorem law_out (h : LI b L xs e r N0 W0 q C n w g M bk) (x : Int32) (hx : x.toInt < 0 ∨ 33 < x.toInt) : ∃ (C' : CS) (n' w' : Nat) (G : Nat → Option va_E) (M' : MS) (bk' : BK), LI b L xs e r N0 W0 (q + 1) C' n' w' G M' bk' ∧ ∀ rr h1, EX B D 100 mL_law 18 [some (.ref b), some (.ref e), some (.ref r), some (.int (nI (6 * (q + 1))))] [] (n', w', mH r G M') rr h1 → EX B D 100 mL_law 33 [some (.ref b), some (.ref e), some (.ref r), some (.int (nI (6 * q)))] [.int x] (n, w, mH r g M) rr h1 := by
  refine ⟨C, n, w, g, M, bk, h.more, fun rr h1 hk => ?_⟩
  have hinc : nI (6 * q) + Int32.ofInt 6 = nI (6 * (q + 1)) := nI_add (6 * q) 6
  refine px_tableOut (tgt := 1147) dL_law_33 hx (by decide) ?_
  refine px_iinc3 rfl hinc dL_law_1147 ?_
  refine px_goto (tgt := 18) dL_law_1150 (by decide) ?_
  exact hk
theorem ls_give (h : LI b L xs e r N0 W0 q C n w g M bk) (hq : q ≤ 511) (hL : 6 * q + 5 < L) (hL2 : L ≤ 3072) (x : Int32) (hx : x = 0) : ∃ (C' : CS) (n' w' : Nat) (G : Nat → Option va_E) (M' : MS) (bk' : BK), LI b L xs e r N0 W0 (q + 1) C' n' w' G M' bk' ∧ ∀ rr h1, EX B D 100 mL_law 18 [some (.ref b), some (.ref e), some (.ref r), some (.int (nI (6 * (q + 1))))] [] (n', w', mH r G M') rr h1 → EX B D 100 mL_law 33 [some (.ref b), some (.ref e), some (.ref r), some (.int (nI (6 * q)))] [.int x] (n, w, mH r g M) rr h1 := by
  obtain ⟨C', n', w', G, M', bk', a1, a2⟩ := w_give (B := B) (D := D) h hq hL hL2
  subst hx
  exact ⟨C', n', w', G, M', bk', a1, fun rr h1 hk => px_tableIn (off := 151) (tgt := 184) dL_law_33 (by decide) (by decide) rfl (by decide) (a2 rr h1 hk)⟩
theorem ls_take (h : LI b L xs e r N0 W0 q C n w g M bk) (hq : q ≤ 511) (hL : 6 * q + 5 < L) (hL2 : L ≤ 3072) (x : Int32) (hx : x = 1) : ∃ (C' : CS) (n' w' : Nat) (G : Nat → Option va_E) (M' : MS) (bk' : BK), LI b L xs e r N0 W0 (q + 1) C' n' w' G M' bk' ∧ ∀ rr h1, EX B D 100 mL_law 18 [some (.ref b), some (.ref e), some (.ref r), some (.int (nI (6 * (q + 1))))] [] (n', w', mH r G M') rr h1 → EX B D 100 mL_law 33 [some (.ref b), some (.ref e), some (.ref r), some (.int (nI (6 * q)))] [.int x] (n, w, mH r g M) rr h1 := by
  obtain ⟨C', n', w', G, M', bk', a1, a2⟩ := w_take (B := B) (D := D) h hq hL hL2
  subst hx
  exact ⟨C', n', w', G, M', bk', a1, fun rr h1 hk => px_tableIn (off := 184) (tgt := 217) dL_law_33 (by decide) (by decide) rfl (by decide) (a2 rr h1 hk)⟩
theorem ls_feed (h : LI b L xs e r N0 W0 q C n w g M bk) (hq : q ≤ 511) (hL : 6 * q + 5 < L) (hL2 : L ≤ 3072) (x : Int32) (hx : x = 2) : ∃ (C' : CS) (n' w' : Nat) (G : Nat → Option va_E) (M' : MS) (bk' : BK), LI b L xs e r N0 W0 (q + 1) C' n' w' G M' bk' ∧ ∀ rr h1, EX B D 100 mL_law 18 [some (.ref b), some (.ref e), some (.ref r), some (.int (nI (6 * (q + 1))))] [] (n', w', mH r G M') rr h1 → EX B D 100 mL_law 33 [some (.ref b), some (.ref e), some (.ref r), some (.int (nI (6 * q)))] [.int x] (n, w, mH r g M) rr h1 := by
  obtain ⟨C', n', w', G, M', bk', a1, a2⟩ := w_feed (B := B) (D := D) h hq hL hL2
  subst hx
  exact ⟨C', n', w', G, M', bk', a1, fun rr h1 hk => px_tableIn (off := 207) (tgt := 240) dL_law_33 (by decide) (by decide) rfl (by decide) (a2 rr h1 hk)⟩
theorem ls_clear (h : LI b L xs e r N0 W0 q C n w g M bk) (hq : q ≤ 511) (hL : 6 * q + 5 < L) (hL2 : L ≤ 3072) (x : Int32) (hx : x = 3) : ∃ (C' : CS) (n' w' : Nat) (G : Nat → Option va_E) (M' : MS) (bk' : BK), LI b L xs e r N0 W0 (q + 1) C' n' w' G M' bk' ∧ ∀ rr h1, EX B D 100 mL_law 18 [some (.ref b), some (.ref e), some (.ref r), some (.int (nI (6 * (q + 1))))] [] (n', w', mH r G M') rr h1 → EX B D 100 mL_law 33 [some (.ref b), some (.ref e), some (.ref r), some (.int (nI (6 * q)))] [.int x] (n, w, mH r g M) rr h1 := by
  obtain ⟨C', n', w', G, M', bk', a1, a2⟩ := w_clear (B := B) (D := D) h hq hL hL2
  subst hx
  exact ⟨C', n', w', G, M', bk', a1, fun rr h1 hk => px_tableIn (off := 230) (tgt := 263) dL_law_33 (by decide) (by decide) rfl (by decide) (a2 rr h1 hk)⟩
theorem ls_rule (h : LI b L xs e r N0 W0 q C n w g M bk) (hq : q ≤ 511) (hL : 6 * q + 5 < L) (hL2 : L ≤ 3072) (x : Int32) (hx : x = 4) : ∃ (C' : CS) (n' w' : Nat) (G : Nat → Option va_E) (M' : MS) (bk' : BK), LI b L xs e r N0 W0 (q + 1) C' n' w' G M' bk' ∧ ∀ rr h1, EX B D 100 mL_law 18 [some (.ref b), some (.ref e), some (.ref r), some (.int (nI (6 * (q + 1))))] [] (n', w', mH r G M') rr h1 → EX B D 100 mL_law 33 [some (.ref b), some (.ref e), some (.ref r), some (.int (nI (6 * q)))] [.int x] (n, w, mH r g M) rr h1 := by
  obtain ⟨C', n', w', G, M', bk', a1, a2⟩ := w_rule (B := B) (D := D) h hq hL hL2
  subst hx
  exact ⟨C', n', w', G, M', bk', a1, fun rr h1 hk => px_tableIn (off := 243) (tgt := 276) dL_law_33 (by decide) (by decide) rfl (by decide) (a2 rr h1 hk)⟩
theorem ls_drop (h : LI b L xs e r N0 W0 q C n w g M bk) (hq : q ≤ 511) (hL : 6 * q + 5 < L) (hL2 : L ≤ 3072) (x : Int32) (hx : x = 5) : ∃ (C' : CS) (n' w' : Nat) (G : Nat → Option va_E) (M' : MS) (bk' : BK), LI b L xs e r N0 W0 (q + 1) C' n' w' G M' bk' ∧ ∀ rr h1, EX B D 100 mL_law 18 [some (.ref b), some (.ref e), some (.ref r), some (.int (nI (6 * (q + 1))))] [] (n', w', mH r G M') rr h1 → EX B D 100 mL_law 33 [some (.ref b), some (.ref e), some (.ref r), some (.int (nI (6 * q)))] [.int x] (n, w, mH r g M) rr h1 := by
  obtain ⟨C', n', w', G, M', bk', a1, a2⟩ := w_drop (B := B) (D := D) h hq hL hL2
  subst hx
  exact ⟨C', n', w', G, M', bk', a1, fun rr h1 hk => px_tableIn (off := 266) (tgt := 299) dL_law_33 (by decide) (by decide) rfl (by decide) (a2 rr h1 hk)⟩
theorem ls_copy (h : LI b L xs e r N0 W0 q C n w g M bk) (hq : q ≤ 511) (hL : 6 * q + 5 < L) (hL2 : L ≤ 3072) (x : Int32) (hx : x = 6) : ∃ (C' : CS) (n' w' : Nat) (G : Nat → Option va_E) (M' : MS) (bk' : BK), LI b L xs e r N0 W0 (q + 1) C' n' w' G M' bk' ∧ ∀ rr h1, EX B D 100 mL_law 18 [some (.ref b), some (.ref e), some (.ref r), some (.int (nI (6 * (q + 1))))] [] (n', w', mH r G M') rr h1 → EX B D 100 mL_law 33 [some (.ref b), some (.ref e), some (.ref r), some (.int (nI (6 * q)))] [.int x] (n, w, mH r g M) rr h1 := by
  obtain ⟨C', n', w', G, M', bk', a1, a2⟩ := w_copy (B := B) (D := D) h hq hL hL2
  subst hx
  exact ⟨C', n', w', G, M', bk', a1, fun rr h1 hk => px_tableIn (off := 289) (tgt := 322) dL_law_33 (by decide) (by decide) rfl (by decide) (a2 rr h1 hk)⟩
theorem ls_step (h : LI b L xs e r N0 W0 q C n w g M bk) (hq : q ≤ 511) (hL : 6 * q + 5 < L) (hL2 : L ≤ 3072) (x : Int32) (hx : x = 7) : ∃ (C' : CS) (n' w' : Nat) (G : Nat → Option va_E) (M' : MS) (bk' : BK), LI b L xs e r N0 W0 (q + 1) C' n' w' G M' bk' ∧ ∀ rr h1, EX B D 100 mL_law 18 [some (.ref b), some (.ref e), some (.ref r), some (.int (nI (6 * (q + 1))))] [] (n', w', mH r G M') rr h1 → EX B D 100 mL_law 33 [some (.ref b), some (.ref e), some (.ref r), some (.int (nI (6 * q)))] [.int x] (n, w, mH r g M) rr h1 := by
  obtain ⟨C', n', w', G, M', bk', a1, a2⟩ := w_step (B := B) (D := D) h hq hL hL2
  subst hx
  exact ⟨C', n', w', G, M', bk', a1, fun rr h1 hk => px_tableIn (off := 322) (tgt := 355) dL_law_33 (by decide) (by decide) rfl (by decide) (a2 rr h1 hk)⟩
theorem ls_build (h : LI b L xs e r N0 W0 q C n w g M bk) (hq : q ≤ 511) (hL : 6 * q + 5 < L) (hL2 : L ≤ 3072) (x : Int32) (hx : x = 8) : ∃ (C' : CS) (n' w' : Nat) (G : Nat → Option va_E) (M' : MS) (bk' : BK), LI b L xs e r N0 W0 (q + 1) C' n' w' G M' bk' ∧ ∀ rr h1, EX B D 100 mL_law 18 [some (.ref b), some (.ref e), some (.ref r), some (.int (nI (6 * (q + 1))))] [] (n', w', mH r G M') rr h1 → EX B D 100 mL_law 33 [some (.ref b), some (.ref e), some (.ref r), some (.int (nI (6 * q)))] [.int x] (n, w, mH r g M) rr h1 := by
  obtain ⟨C', n', w', G, M', bk', a1, a2⟩ := w_build (B := B) (D := D) h hq hL hL2
  subst hx
  exact ⟨C', n', w', G, M', bk', a1, fun rr h1 hk => px_tableIn (off := 355) (tgt := 388) dL_law_33 (by decide) (by decide) rfl (by decide) (a2 rr h1 hk)⟩
theorem ls_all (h : LI b L xs e r N0 W0 q C n w g M bk) (hq : q ≤ 511) (hL : 6 * q + 5 < L) (hL2 : L ≤ 3072) (x : Int32) (hx : x = 9) : ∃ (C' : CS) (n' w' : Nat) (G : Nat → Option va_E) (M' : MS) (bk' : BK), LI b L xs e r N0 W0 (q + 1) C' n' w' G M' bk' ∧ ∀ rr h1, EX B D 100 mL_law 18 [some (.ref b), some (.ref e), some (.ref r), some (.int (nI (6 * (q + 1))))] [] (n', w', mH r G M') rr h1 → EX B D 100 mL_law 33 [some (.ref b), some (.ref e), some (.ref r), some (.int (nI (6 * q)))] [.int x] (n, w, mH r g M) rr h1 := by
  obtain ⟨C', n', w', G, M', bk', a1, a2⟩ := w_all (B := B) (D := D) h hq hL hL2
  subst hx
  exact ⟨C', n', w', G, M', bk', a1, fun rr h1 hk => px_tableIn (off := 378) (tgt := 411) dL_law_33 (by decide) (by decide) rfl (by decide) (a2 rr h1 hk)⟩
theorem ls_some (h : LI b L xs e r N0 W0 q C n w g M bk) (hq : q ≤ 511) (hL : 6 * q + 5 < L) (hL2 : L ≤ 3072) (x : Int32) (hx : x = 10) : ∃ (C' : CS) (n' w' : Nat) (G : Nat → Option va_E) (M' : MS) (bk' : BK), LI b L xs e r N0 W0 (q + 1) C' n' w' G M' bk' ∧ ∀ rr h1, EX B D 100 mL_law 18 [some (.ref b), some (.ref e), some (.ref r), some (.int (nI (6 * (q + 1))))] [] (n', w', mH r G M') rr h1 → EX B D 100 mL_law 33 [some (.ref b), some (.ref e), some (.ref r), some (.int (nI (6 * q)))] [.int x] (n, w, mH r g M) rr h1 := by
  obtain ⟨C', n', w', G, M', bk', a1, a2⟩ := w_some (B := B) (D := D) h hq hL hL2
  subst hx
  exact ⟨C', n', w', G, M', bk', a1, fun rr h1 hk => px_tableIn (off := 401) (tgt := 434) dL_law_33 (by decide) (by decide) rfl (by decide) (a2 rr h1 hk)⟩
theorem ls_tried (h : LI b L xs e r N0 W0 q C n w g M bk) (hq : q ≤ 511) (hL : 6 * q + 5 < L) (hL2 : L ≤ 3072) (x : Int32) (hx : x = 11) : ∃ (C' : CS) (n' w' : Nat) (G : Nat → Option va_E) (M' : MS) (bk' : BK), LI b L xs e r N0 W0 (q + 1) C' n' w' G M' bk' ∧ ∀ rr h1, EX B D 100 mL_law 18 [some (.ref b), some (.ref e), some (.ref r), some (.int (nI (6 * (q + 1))))] [] (n', w', mH r G M') rr h1 → EX B D 100 mL_law 33 [some (.ref b), some (.ref e), some (.ref r), some (.int (nI (6 * q)))] [.int x] (n, w, mH r g M) rr h1 := by
  obtain ⟨C', n', w', G, M', bk', a1, a2⟩ := w_tried (B := B) (D := D) h hq hL hL2
  subst hx
  exact ⟨C', n', w', G, M', bk', a1, fun rr h1 hk => px_tableIn (off := 434) (tgt := 467) dL_law_33 (by decide) (by decide) rfl (by decide) (a2 rr h1 hk)⟩
theorem ls_result (h : LI b L xs e r N0 W0 q C n w g M bk) (hq : q ≤ 511) (hL : 6 * q + 5 < L) (hL2 : L ≤ 3072) (x : Int32) (hx : x = 12) : ∃ (C' : CS) (n' w' : Nat) (G : Nat → Option va_E) (M' : MS) (bk' : BK), LI b L xs e r N0 W0 (q + 1) C' n' w' G M' bk' ∧ ∀ rr h1, EX B D 100 mL_law 18 [some (.ref b), some (.ref e), some (.ref r), some (.int (nI (6 * (q + 1))))] [] (n', w', mH r G M') rr h1 → EX B D 100 mL_law 33 [some (.ref b), some (.ref e), some (.ref r), some (.int (nI (6 * q)))] [.int x] (n, w, mH r g M) rr h1 := by
  obtain ⟨C', n', w', G, M', bk', a1, a2⟩ := w_result (B := B) (D := D) h hq hL hL2
  subst hx
  exact ⟨C', n', w', G, M', bk', a1, fun rr h1 hk => px_tableIn (off := 477) (tgt := 510) dL_law_33 (by decide) (by decide) rfl (by decide) (a2 rr h1 hk)⟩
theorem ls_failure (h : LI b L xs e r N0 W0 q C n w g M bk) (hq : q ≤ 511) (hL : 6 * q + 5 < L) (hL2 : L ≤ 3072) (x : Int32) (hx : x = 13) : ∃ (C' : CS) (n' w' : Nat) (G : Nat → Option va_E) (M' : MS) (bk' : BK), LI b L xs e r N0 W0 (q + 1) C' n' w' G M' bk' ∧ ∀ rr h1, EX B D 100 mL_law 18 [some (.ref b), some (.ref e), some (.ref r), some (.int (nI (6 * (q + 1))))] [] (n', w', mH r G M') rr h1 → EX B D 100 mL_law 33 [some (.ref b), some (.ref e), some (.ref r), some (.int (nI (6 * q)))] [.int x] (n, w, mH r g M) rr h1 := by
  obtain ⟨C', n', w', G, M', bk', a1, a2⟩ := w_failure (B := B) (D := D) h hq hL hL2
  subst hx
  exact ⟨C', n', w', G, M', bk', a1, fun rr h1 hk => px_tableIn (off := 500) (tgt := 533) dL_law_33 (by decide) (by decide) rfl (by decide) (a2 rr h1 hk)⟩
theorem ls_causes (h : LI b L xs e r N0 W0 q C n w g M bk) (hq : q ≤ 511) (hL : 6 * q + 5 < L) (hL2 : L ≤ 3072) (x : Int32) (hx : x = 14) : ∃ (C' : CS) (n' w' : Nat) (G : Nat → Option va_E) (M' : MS) (bk' : BK), LI b L xs e r N0 W0 (q + 1) C' n' w' G M' bk' ∧ ∀ rr h1, EX B D 100 mL_law 18 [some (.ref b), some (.ref e), some (.ref r), some (.int (nI (6 * (q + 1))))] [] (n', w', mH r G M') rr h1 → EX B D 100 mL_law 33 [some (.ref b), some (.ref e), some (.ref r), some (.int (nI (6 * q)))] [.int x] (n, w, mH r g M) rr h1 := by
  obtain ⟨C', n', w', G, M', bk', a1, a2⟩ := w_causes (B := B) (D := D) h hq hL hL2
  subst hx
  exact ⟨C', n', w', G, M', bk', a1, fun rr h1 hk => px_tableIn (off := 543) (tgt := 576) dL_law_33 (by decide) (by decide) rfl (by decide) (a2 rr h1 hk)⟩
theorem ls_root (h : LI b L xs e r N0 W0 q C n w g M bk) (hq : q ≤ 511) (hL : 6 * q + 5 < L) (hL2 : L ≤ 3072) (x : Int32) (hx : x = 15) : ∃ (C' : CS) (n' w' : Nat) (G : Nat → Option va_E) (M' : MS) (bk' : BK), LI b L xs e r N0 W0 (q + 1) C' n' w' G M' bk' ∧ ∀ rr h1, EX B D 100 mL_law 18 [some (.ref b), some (.ref e), some (.ref r), some (.int (nI (6 * (q + 1))))] [] (n', w', mH r G M') rr h1 → EX B D 100 mL_law 33 [some (.ref b), some (.ref e), some (.ref r), some (.int (nI (6 * q)))] [.int x] (n, w, mH r g M) rr h1 := by
  obtain ⟨C', n', w', G, M', bk', a1, a2⟩ := w_root (B := B) (D := D) h hq hL hL2
  subst hx
  exact ⟨C', n', w', G, M', bk', a1, fun rr h1 hk => px_tableIn (off := 566) (tgt := 599) dL_law_33 (by decide) (by decide) rfl (by decide) (a2 rr h1 hk)⟩
theorem ls_blamed (h : LI b L xs e r N0 W0 q C n w g M bk) (hq : q ≤ 511) (hL : 6 * q + 5 < L) (hL2 : L ≤ 3072) (x : Int32) (hx : x = 16) : ∃ (C' : CS) (n' w' : Nat) (G : Nat → Option va_E) (M' : MS) (bk' : BK), LI b L xs e r N0 W0 (q + 1) C' n' w' G M' bk' ∧ ∀ rr h1, EX B D 100 mL_law 18 [some (.ref b), some (.ref e), some (.ref r), some (.int (nI (6 * (q + 1))))] [] (n', w', mH r G M') rr h1 → EX B D 100 mL_law 33 [some (.ref b), some (.ref e), some (.ref r), some (.int (nI (6 * q)))] [.int x] (n, w, mH r g M) rr h1 := by
  obtain ⟨C', n', w', G, M', bk', a1, a2⟩ := w_blamed (B := B) (D := D) h hq hL hL2
  subst hx
  exact ⟨C', n', w', G, M', bk', a1, fun rr h1 hk => px_tableIn (off := 589) (tgt := 622) dL_law_33 (by decide) (by decide) rfl (by decide) (a2 rr h1 hk)⟩
theorem ls_trace (h : LI b L xs e r N0 W0 q C n w g M bk) (hq : q ≤ 511) (hL : 6 * q + 5 < L) (hL2 : L ≤ 3072) (x : Int32) (hx : x = 17) : ∃ (C' : CS) (n' w' : Nat) (G : Nat → Option va_E) (M' : MS) (bk' : BK), LI b L xs e r N0 W0 (q + 1) C' n' w' G M' bk' ∧ ∀ rr h1, EX B D 100 mL_law 18 [some (.ref b), some (.ref e), some (.ref r), some (.int (nI (6 * (q + 1))))] [] (n', w', mH r G M') rr h1 → EX B D 100 mL_law 33 [some (.ref b), some (.ref e), some (.ref r), some (.int (nI (6 * q)))] [.int x] (n, w, mH r g M) rr h1 := by
  obtain ⟨C', n', w', G, M', bk', a1, a2⟩ := w_trace (B := B) (D := D) h hq hL hL2
  subst hx
  exact ⟨C', n', w', G, M', bk', a1, fun rr h1 hk => px_tableIn (off := 612) (tgt := 645) dL_law_33 (by decide) (by decide) rfl (by decide) (a2 rr h1 hk)⟩
theorem ls_seen (h : LI b L xs e r N0 W0 q C n w g M bk) (hq : q ≤ 511) (hL : 6 * q + 5 < L) (hL2 : L ≤ 3072) (x : Int32) (hx : x = 18) : ∃ (C' : CS) (n' w' : Nat) (G : Nat → Option va_E) (M' : MS) (bk' : BK), LI b L xs e r N0 W0 (q + 1) C' n' w' G M' bk' ∧ ∀ rr h1, EX B D 100 mL_law 18 [some (.ref b), some (.ref e), some (.ref r), some (.int (nI (6 * (q + 1))))] [] (n', w', mH r G M') rr h1 → EX B D 100 mL_law 33 [some (.ref b), some (.ref e), some (.ref r), some (.int (nI (6 * q)))] [.int x] (n, w, mH r g M) rr h1 := by
  obtain ⟨C', n', w', G, M', bk', a1, a2⟩ := w_seen (B := B) (D := D) h hq hL hL2
  subst hx
  exact ⟨C', n', w', G, M', bk', a1, fun rr h1 hk => px_tableIn (off := 645) (tgt := 678) dL_law_33 (by decide) (by decide) rfl (by decide) (a2 rr h1 hk)⟩
theorem ls_users (h : LI b L xs e r N0 W0 q C n w g M bk) (hq : q ≤ 511) (hL : 6 * q + 5 < L) (hL2 : L ≤ 3072) (x : Int32) (hx : x = 19) : ∃ (C' : CS) (n' w' : Nat) (G : Nat → Option va_E) (M' : MS) (bk' : BK), LI b L xs e r N0 W0 (q + 1) C' n' w' G M' bk' ∧ ∀ rr h1, EX B D 100 mL_law 18 [some (.ref b), some (.ref e), some (.ref r), some (.int (nI (6 * (q + 1))))] [] (n', w', mH r G M') rr h1 → EX B D 100 mL_law 33 [some (.ref b), some (.ref e), some (.ref r), some (.int (nI (6 * q)))] [.int x] (n, w, mH r g M) rr h1 := by
  obtain ⟨C', n', w', G, M', bk', a1, a2⟩ := w_users (B := B) (D := D) h hq hL hL2
  subst hx
  exact ⟨C', n', w', G, M', bk', a1, fun rr h1 hk => px_tableIn (off := 678) (tgt := 711) dL_law_33 (by decide) (by decide) rfl (by decide) (a2 rr h1 hk)⟩
theorem ls_depth (h : LI b L xs e r N0 W0 q C n w g M bk) (hq : q ≤ 511) (hL : 6 * q + 5 < L) (hL2 : L ≤ 3072) (x : Int32) (hx : x = 20) : ∃ (C' : CS) (n' w' : Nat) (G : Nat → Option va_E) (M' : MS) (bk' : BK), LI b L xs e r N0 W0 (q + 1) C' n' w' G M' bk' ∧ ∀ rr h1, EX B D 100 mL_law 18 [some (.ref b), some (.ref e), some (.ref r), some (.int (nI (6 * (q + 1))))] [] (n', w', mH r G M') rr h1 → EX B D 100 mL_law 33 [some (.ref b), some (.ref e), some (.ref r), some (.int (nI (6 * q)))] [.int x] (n, w, mH r g M) rr h1 := by
  obtain ⟨C', n', w', G, M', bk', a1, a2⟩ := w_depth (B := B) (D := D) h hq hL hL2
  subst hx
  exact ⟨C', n', w', G, M', bk', a1, fun rr h1 hk => px_tableIn (off := 701) (tgt := 734) dL_law_33 (by decide) (by decide) rfl (by decide) (a2 rr h1 hk)⟩
theorem ls_order (h : LI b L xs e r N0 W0 q C n w g M bk) (hq : q ≤ 511) (hL : 6 * q + 5 < L) (hL2 : L ≤ 3072) (x : Int32) (hx : x = 21) : ∃ (C' : CS) (n' w' : Nat) (G : Nat → Option va_E) (M' : MS) (bk' : BK), LI b L xs e r N0 W0 (q + 1) C' n' w' G M' bk' ∧ ∀ rr h1, EX B D 100 mL_law 18 [some (.ref b), some (.ref e), some (.ref r), some (.int (nI (6 * (q + 1))))] [] (n', w', mH r G M') rr h1 → EX B D 100 mL_law 33 [some (.ref b), some (.ref e), some (.ref r), some (.int (nI (6 * q)))] [.int x] (n, w, mH r g M) rr h1 := by
  obtain ⟨C', n', w', G, M', bk', a1, a2⟩ := w_order (B := B) (D := D) h hq hL hL2
  subst hx
  exact ⟨C', n', w', G, M', bk', a1, fun rr h1 hk => px_tableIn (off := 724) (tgt := 757) dL_law_33 (by decide) (by decide) rfl (by decide) (a2 rr h1 hk)⟩
theorem ls_unlike (h : LI b L xs e r N0 W0 q C n w g M bk) (hq : q ≤ 511) (hL : 6 * q + 5 < L) (hL2 : L ≤ 3072) (x : Int32) (hx : x = 22) : ∃ (C' : CS) (n' w' : Nat) (G : Nat → Option va_E) (M' : MS) (bk' : BK), LI b L xs e r N0 W0 (q + 1) C' n' w' G M' bk' ∧ ∀ rr h1, EX B D 100 mL_law 18 [some (.ref b), some (.ref e), some (.ref r), some (.int (nI (6 * (q + 1))))] [] (n', w', mH r G M') rr h1 → EX B D 100 mL_law 33 [some (.ref b), some (.ref e), some (.ref r), some (.int (nI (6 * q)))] [.int x] (n, w, mH r g M) rr h1 := by
  obtain ⟨C', n', w', G, M', bk', a1, a2⟩ := w_unlike (B := B) (D := D) h hq hL hL2
  subst hx
  exact ⟨C', n', w', G, M', bk', a1, fun rr h1 hk => px_tableIn (off := 747) (tgt := 780) dL_law_33 (by decide) (by decide) rfl (by decide) (a2 rr h1 hk)⟩
theorem ls_fresh (h : LI b L xs e r N0 W0 q C n w g M bk) (hq : q ≤ 511) (hL : 6 * q + 5 < L) (hL2 : L ≤ 3072) (x : Int32) (hx : x = 23) : ∃ (C' : CS) (n' w' : Nat) (G : Nat → Option va_E) (M' : MS) (bk' : BK), LI b L xs e r N0 W0 (q + 1) C' n' w' G M' bk' ∧ ∀ rr h1, EX B D 100 mL_law 18 [some (.ref b), some (.ref e), some (.ref r), some (.int (nI (6 * (q + 1))))] [] (n', w', mH r G M') rr h1 → EX B D 100 mL_law 33 [some (.ref b), some (.ref e), some (.ref r), some (.int (nI (6 * q)))] [.int x] (n, w, mH r g M) rr h1 := by
  obtain ⟨C', n', w', G, M', bk', a1, a2⟩ := w_fresh (B := B) (D := D) h hq hL hL2
  subst hx
  exact ⟨C', n', w', G, M', bk', a1, fun rr h1 hk => px_tableIn (off := 760) (tgt := 793) dL_law_33 (by decide) (by decide) rfl (by decide) (a2 rr h1 hk)⟩
theorem ls_forget (h : LI b L xs e r N0 W0 q C n w g M bk) (hq : q ≤ 511) (hL : 6 * q + 5 < L) (hL2 : L ≤ 3072) (x : Int32) (hx : x = 24) : ∃ (C' : CS) (n' w' : Nat) (G : Nat → Option va_E) (M' : MS) (bk' : BK), LI b L xs e r N0 W0 (q + 1) C' n' w' G M' bk' ∧ ∀ rr h1, EX B D 100 mL_law 18 [some (.ref b), some (.ref e), some (.ref r), some (.int (nI (6 * (q + 1))))] [] (n', w', mH r G M') rr h1 → EX B D 100 mL_law 33 [some (.ref b), some (.ref e), some (.ref r), some (.int (nI (6 * q)))] [.int x] (n, w, mH r g M) rr h1 := by
  obtain ⟨C', n', w', G, M', bk', a1, a2⟩ := w_forget (B := B) (D := D) h hq hL hL2
  subst hx
  exact ⟨C', n', w', G, M', bk', a1, fun rr h1 hk => px_tableIn (off := 773) (tgt := 806) dL_law_33 (by decide) (by decide) rfl (by decide) (a2 rr h1 hk)⟩
theorem ls_told (h : LI b L xs e r N0 W0 q C n w g M bk) (hq : q ≤ 511) (hL : 6 * q + 5 < L) (hL2 : L ≤ 3072) (x : Int32) (hx : x = 25) : ∃ (C' : CS) (n' w' : Nat) (G : Nat → Option va_E) (M' : MS) (bk' : BK), LI b L xs e r N0 W0 (q + 1) C' n' w' G M' bk' ∧ ∀ rr h1, EX B D 100 mL_law 18 [some (.ref b), some (.ref e), some (.ref r), some (.int (nI (6 * (q + 1))))] [] (n', w', mH r G M') rr h1 → EX B D 100 mL_law 33 [some (.ref b), some (.ref e), some (.ref r), some (.int (nI (6 * q)))] [.int x] (n, w, mH r g M) rr h1 := by
  obtain ⟨C', n', w', G, M', bk', a1, a2⟩ := w_told (B := B) (D := D) h hq hL hL2
  subst hx
  exact ⟨C', n', w', G, M', bk', a1, fun rr h1 hk => px_tableIn (off := 796) (tgt := 829) dL_law_33 (by decide) (by decide) rfl (by decide) (a2 rr h1 hk)⟩
theorem ls_list (h : LI b L xs e r N0 W0 q C n w g M bk) (hq : q ≤ 511) (hL : 6 * q + 5 < L) (hL2 : L ≤ 3072) (x : Int32) (hx : x = 26) : ∃ (C' : CS) (n' w' : Nat) (G : Nat → Option va_E) (M' : MS) (bk' : BK), LI b L xs e r N0 W0 (q + 1) C' n' w' G M' bk' ∧ ∀ rr h1, EX B D 100 mL_law 18 [some (.ref b), some (.ref e), some (.ref r), some (.int (nI (6 * (q + 1))))] [] (n', w', mH r G M') rr h1 → EX B D 100 mL_law 33 [some (.ref b), some (.ref e), some (.ref r), some (.int (nI (6 * q)))] [.int x] (n, w, mH r g M) rr h1 := by
  obtain ⟨C', n', w', G, M', bk', a1, a2⟩ := w_list (B := B) (D := D) h hq hL hL2
  subst hx
  exact ⟨C', n', w', G, M', bk', a1, fun rr h1 hk => px_tableIn (off := 819) (tgt := 852) dL_law_33 (by decide) (by decide) rfl (by decide) (a2 rr h1 hk)⟩
theorem ls_put (h : LI b L xs e r N0 W0 q C n w g M bk) (hq : q ≤ 511) (hL : 6 * q + 5 < L) (hL2 : L ≤ 3072) (x : Int32) (hx : x = 27) : ∃ (C' : CS) (n' w' : Nat) (G : Nat → Option va_E) (M' : MS) (bk' : BK), LI b L xs e r N0 W0 (q + 1) C' n' w' G M' bk' ∧ ∀ rr h1, EX B D 100 mL_law 18 [some (.ref b), some (.ref e), some (.ref r), some (.int (nI (6 * (q + 1))))] [] (n', w', mH r G M') rr h1 → EX B D 100 mL_law 33 [some (.ref b), some (.ref e), some (.ref r), some (.int (nI (6 * q)))] [.int x] (n, w, mH r g M) rr h1 := by
  obtain ⟨C', n', w', G, M', bk', a1, a2⟩ := w_put (B := B) (D := D) h hq hL hL2
  subst hx
  exact ⟨C', n', w', G, M', bk', a1, fun rr h1 hk => px_tableIn (off := 852) (tgt := 885) dL_law_33 (by decide) (by decide) rfl (by decide) (a2 rr h1 hk)⟩
theorem ls_get (h : LI b L xs e r N0 W0 q C n w g M bk) (hq : q ≤ 511) (hL : 6 * q + 5 < L) (hL2 : L ≤ 3072) (x : Int32) (hx : x = 28) : ∃ (C' : CS) (n' w' : Nat) (G : Nat → Option va_E) (M' : MS) (bk' : BK), LI b L xs e r N0 W0 (q + 1) C' n' w' G M' bk' ∧ ∀ rr h1, EX B D 100 mL_law 18 [some (.ref b), some (.ref e), some (.ref r), some (.int (nI (6 * (q + 1))))] [] (n', w', mH r G M') rr h1 → EX B D 100 mL_law 33 [some (.ref b), some (.ref e), some (.ref r), some (.int (nI (6 * q)))] [.int x] (n, w, mH r g M) rr h1 := by
  obtain ⟨C', n', w', G, M', bk', a1, a2⟩ := w_get (B := B) (D := D) h hq hL hL2
  subst hx
  exact ⟨C', n', w', G, M', bk', a1, fun rr h1 hk => px_tableIn (off := 925) (tgt := 958) dL_law_33 (by decide) (by decide) rfl (by decide) (a2 rr h1 hk)⟩
theorem ls_move (h : LI b L xs e r N0 W0 q C n w g M bk) (hq : q ≤ 511) (hL : 6 * q + 5 < L) (hL2 : L ≤ 3072) (x : Int32) (hx : x = 29) : ∃ (C' : CS) (n' w' : Nat) (G : Nat → Option va_E) (M' : MS) (bk' : BK), LI b L xs e r N0 W0 (q + 1) C' n' w' G M' bk' ∧ ∀ rr h1, EX B D 100 mL_law 18 [some (.ref b), some (.ref e), some (.ref r), some (.int (nI (6 * (q + 1))))] [] (n', w', mH r G M') rr h1 → EX B D 100 mL_law 33 [some (.ref b), some (.ref e), some (.ref r), some (.int (nI (6 * q)))] [.int x] (n, w, mH r g M) rr h1 := by
  obtain ⟨C', n', w', G, M', bk', a1, a2⟩ := w_move (B := B) (D := D) h hq hL hL2
  subst hx
  exact ⟨C', n', w', G, M', bk', a1, fun rr h1 hk => px_tableIn (off := 959) (tgt := 992) dL_law_33 (by decide) (by decide) rfl (by decide) (a2 rr h1 hk)⟩
theorem ls_lay (h : LI b L xs e r N0 W0 q C n w g M bk) (hq : q ≤ 511) (hL : 6 * q + 5 < L) (hL2 : L ≤ 3072) (x : Int32) (hx : x = 30) : ∃ (C' : CS) (n' w' : Nat) (G : Nat → Option va_E) (M' : MS) (bk' : BK), LI b L xs e r N0 W0 (q + 1) C' n' w' G M' bk' ∧ ∀ rr h1, EX B D 100 mL_law 18 [some (.ref b), some (.ref e), some (.ref r), some (.int (nI (6 * (q + 1))))] [] (n', w', mH r G M') rr h1 → EX B D 100 mL_law 33 [some (.ref b), some (.ref e), some (.ref r), some (.int (nI (6 * q)))] [.int x] (n, w, mH r g M) rr h1 := by
  obtain ⟨C', n', w', G, M', bk', a1, a2⟩ := w_lay (B := B) (D := D) h hq hL hL2
  subst hx
  exact ⟨C', n', w', G, M', bk', a1, fun rr h1 hk => px_tableIn (off := 1022) (tgt := 1055) dL_law_33 (by decide) (by decide) rfl (by decide) (a2 rr h1 hk)⟩
theorem ls_judge (h : LI b L xs e r N0 W0 q C n w g M bk) (hq : q ≤ 511) (hL : 6 * q + 5 < L) (hL2 : L ≤ 3072) (x : Int32) (hx : x = 31) : ∃ (C' : CS) (n' w' : Nat) (G : Nat → Option va_E) (M' : MS) (bk' : BK), LI b L xs e r N0 W0 (q + 1) C' n' w' G M' bk' ∧ ∀ rr h1, EX B D 100 mL_law 18 [some (.ref b), some (.ref e), some (.ref r), some (.int (nI (6 * (q + 1))))] [] (n', w', mH r G M') rr h1 → EX B D 100 mL_law 33 [some (.ref b), some (.ref e), some (.ref r), some (.int (nI (6 * q)))] [.int x] (n, w, mH r g M) rr h1 := by
  obtain ⟨C', n', w', G, M', bk', a1, a2⟩ := w_judge (B := B) (D := D) h hq hL hL2
  subst hx
  exact ⟨C', n', w', G, M', bk', a1, fun rr h1 hk => px_tableIn (off := 1055) (tgt := 1088) dL_law_33 (by decide) (by decide) rfl (by decide) (a2 rr h1 hk)⟩
theorem ls_image (h : LI b L xs e r N0 W0 q C n w g M bk) (hq : q ≤ 511) (hL : 6 * q + 5 < L) (hL2 : L ≤ 3072) (x : Int32) (hx : x = 32) : ∃ (C' : CS) (n' w' : Nat) (G : Nat → Option va_E) (M' : MS) (bk' : BK), LI b L xs e r N0 W0 (q + 1) C' n' w' G M' bk' ∧ ∀ rr h1, EX B D 100 mL_law 18 [some (.ref b), some (.ref e), some (.ref r), some (.int (nI (6 * (q + 1))))] [] (n', w', mH r G M') rr h1 → EX B D 100 mL_law 33 [some (.ref b), some (.ref e), some (.ref r), some (.int (nI (6 * q)))] [.int x] (n, w, mH r g M) rr h1 := by
  obtain ⟨C', n', w', G, M', bk', a1, a2⟩ := w_image (B := B) (D := D) h hq hL hL2
  subst hx
  exact ⟨C', n', w', G, M', bk', a1, fun rr h1 hk => px_tableIn (off := 1088) (tgt := 1121) dL_law_33 (by decide) (by decide) rfl (by decide) (a2 rr h1 hk)⟩
theorem ls_undo (h : LI b L xs e r N0 W0 q C n w g M bk) (hq : q ≤ 511) (hL : 6 * q + 5 < L) (hL2 : L ≤ 3072) (x : Int32) (hx : x = 33) : ∃ (C' : CS) (n' w' : Nat) (G : Nat → Option va_E) (M' : MS) (bk' : BK), LI b L xs e r N0 W0 (q + 1) C' n' w' G M' bk' ∧ ∀ rr h1, EX B D 100 mL_law 18 [some (.ref b), some (.ref e), some (.ref r), some (.int (nI (6 * (q + 1))))] [] (n', w', mH r G M') rr h1 → EX B D 100 mL_law 33 [some (.ref b), some (.ref e), some (.ref r), some (.int (nI (6 * q)))] [.int x] (n, w, mH r g M) rr h1 := by
  obtain ⟨C', n', w', G, M', bk', a1, a2⟩ := w_undo (B := B) (D := D) h hq hL hL2
  subst hx
  exact ⟨C', n', w', G, M', bk', a1, fun rr h1 hk => px_tableIn (off := 1101) (tgt := 1134) dL_law_33 (by decide) (by decide) rfl (by decide) (a2 rr h1 hk)⟩
theorem law_sw (h : LI b L xs e r N0 W0 q C n w g M bk) (hq : q ≤ 511) (hL : 6 * q + 5 < L) (hL2 : L ≤ 3072) (x : Int32) : ∃ (C' : CS) (n' w' : Nat) (G : Nat → Option va_E) (M' : MS) (bk' : BK), LI b L xs e r N0 W0 (q + 1) C' n' w' G M' bk' ∧ ∀ rr h1, EX B D 100 mL_law 18 [some (.ref b), some (.ref e), some (.ref r), some (.int (nI (6 * (q + 1))))] [] (n', w', mH r G M') rr h1 → EX B D 100 mL_law 33 [some (.ref b), some (.ref e), some (.ref r), some (.int (nI (6 * q)))] [.int x] (n, w, mH r g M) rr h1 := by
  rcases sw_cases x 0 34 with z | z | ⟨j, hj, z⟩
  · exact law_out h x (Or.inl z)
  · exact law_out h x (Or.inr (by omega))
  · match j, hj with
    | 0, _ => exact ls_give h hq hL hL2 x (Int32.toInt_inj.mp (by rw [z]; rfl))
    | 1, _ => exact ls_take h hq hL hL2 x (Int32.toInt_inj.mp (by rw [z]; rfl))
    | 2, _ => exact ls_feed h hq hL hL2 x (Int32.toInt_inj.mp (by rw [z]; rfl))
    | 3, _ => exact ls_clear h hq hL hL2 x (Int32.toInt_inj.mp (by rw [z]; rfl))
    | 4, _ => exact ls_rule h hq hL hL2 x (Int32.toInt_inj.mp (by rw [z]; rfl))
    | 5, _ => exact ls_drop h hq hL hL2 x (Int32.toInt_inj.mp (by rw [z]; rfl))
    | 6, _ => exact ls_copy h hq hL hL2 x (Int32.toInt_inj.mp (by rw [z]; rfl))
    | 7, _ => exact ls_step h hq hL hL2 x (Int32.toInt_inj.mp (by rw [z]; rfl))
    | 8, _ => exact ls_build h hq hL hL2 x (Int32.toInt_inj.mp (by rw [z]; rfl))
    | 9, _ => exact ls_all h hq hL hL2 x (Int32.toInt_inj.mp (by rw [z]; rfl))
    | 10, _ => exact ls_some h hq hL hL2 x (Int32.toInt_inj.mp (by rw [z]; rfl))
    | 11, _ => exact ls_tried h hq hL hL2 x (Int32.toInt_inj.mp (by rw [z]; rfl))
    | 12, _ => exact ls_result h hq hL hL2 x (Int32.toInt_inj.mp (by rw [z]; rfl))
    | 13, _ => exact ls_failure h hq hL hL2 x (Int32.toInt_inj.mp (by rw [z]; rfl))
    | 14, _ => exact ls_causes h hq hL hL2 x (Int32.toInt_inj.mp (by rw [z]; rfl))
    | 15, _ => exact ls_root h hq hL hL2 x (Int32.toInt_inj.mp (by rw [z]; rfl))
    | 16, _ => exact ls_blamed h hq hL hL2 x (Int32.toInt_inj.mp (by rw [z]; rfl))
    | 17, _ => exact ls_trace h hq hL hL2 x (Int32.toInt_inj.mp (by rw [z]; rfl))
    | 18, _ => exact ls_seen h hq hL hL2 x (Int32.toInt_inj.mp (by rw [z]; rfl))
    | 19, _ => exact ls_users h hq hL hL2 x (Int32.toInt_inj.mp (by rw [z]; rfl))
    | 20, _ => exact ls_depth h hq hL hL2 x (Int32.toInt_inj.mp (by rw [z]; rfl))
    | 21, _ => exact ls_order h hq hL hL2 x (Int32.toInt_inj.mp (by rw [z]; rfl))
    | 22, _ => exact ls_unlike h hq hL hL2 x (Int32.toInt_inj.mp (by rw [z]; rfl))
    | 23, _ => exact ls_fresh h hq hL hL2 x (Int32.toInt_inj.mp (by rw [z]; rfl))
    | 24, _ => exact ls_forget h hq hL hL2 x (Int32.toInt_inj.mp (by rw [z]; rfl))
    | 25, _ => exact ls_told h hq hL hL2 x (Int32.toInt_inj.mp (by rw [z]; rfl))
    | 26, _ => exact ls_list h hq hL hL2 x (Int32.toInt_inj.mp (by rw [z]; rfl))
    | 27, _ => exact ls_put h hq hL hL2 x (Int32.toInt_inj.mp (by rw [z]; rfl))
    | 28, _ => exact ls_get h hq hL hL2 x (Int32.toInt_inj.mp (by rw [z]; rfl))
    | 29, _ => exact ls_move h hq hL hL2 x (Int32.toInt_inj.mp (by rw [z]; rfl))
    | 30, _ => exact ls_lay h hq hL hL2 x (Int32.toInt_inj.mp (by rw [z]; rfl))
    | 31, _ => exact ls_judge h hq hL hL2 x (Int32.toInt_inj.mp (by rw [z]; rfl))
    | 32, _ => exact ls_image h hq hL hL2 x (Int32.toInt_inj.mp (by rw [z]; rfl))
    | 33, _ => exact ls_undo h hq hL hL2 x (Int32.toInt_inj.mp (by rw [z]; rfl))
    | k + 34, hk => exact absurd hk (by omega)
theorem law_step (h : LI b L xs e r N0 W0 q C n w g M bk) (hq : q ≤ 511) (hL : 6 * q + 5 < L) (hL2 : L ≤ 3072) : ∃ (C' : CS) (n' w' : Nat) (G : Nat → Option va_E) (M' : MS) (bk' : BK), LI b L xs e r N0 W0 (q + 1) C' n' w' G M' bk' ∧ ∀ rr h1, EX B D 100 mL_law 18 [some (.ref b), some (.ref e), some (.ref r), some (.int (nI (6 * (q + 1))))] [] (n', w', mH r G M') rr h1 → EX B D 100 mL_law 18 [some (.ref b), some (.ref e), some (.ref r), some (.int (nI (6 * q)))] [] (n, w, mH r g M) rr h1 := by
  obtain ⟨C', n', w', G, M', bk', a1, a2⟩ := law_sw (B := B) (D := D) h hq hL hL2 (xs (nI (6 * q)).toNatClampNeg &&& 63)
  refine ⟨C', n', w', G, M', bk', a1, fun rr h1 hk => ?_⟩
  refine px_iload_n dL_law_18 rfl ?_
  refine px_aload_n dL_law_19 rfl ?_
  refine px_slen dL_law_20 (by exact h.2.2.2.2.1) ?_
  refine px_bipush (v := 6) dL_law_21 (by decide) ?_
  refine px_isub dL_law_23 ?_
  refine px_icmp_gt (tgt := 1153) dL_law_24 (by decide) (fun hc24 => ?_) (fun hc24 => ?_)
  · exact absurd ((lw_len hL2 (by omega)).mp hc24) (by omega)
  · refine px_aload_n dL_law_27 rfl ?_
    refine px_iload_n dL_law_28 rfl ?_
    refine px_saload dL_law_29 (by exact h.2.2.2.2.1) (by exact lw_at hL hL2) ?_
    refine px_bipush (v := 63) dL_law_30 (by decide) ?_
    refine px_iand dL_law_32 ?_
    exact a2 rr h1 hk
theorem law_end (h : LI b L xs e r N0 W0 q C n w g M bk) (hq : q ≤ 512) (hL : ¬ 6 * q + 5 < L) (hL2 : L ≤ 3072) : EX B D 100 mL_law 18 [some (.ref b), some (.ref e), some (.ref r), some (.int (nI (6 * q)))] [] (n, w, mH r g M) (some (.int 1)) (n, w, mH r g M) := by
  refine px_iload_n dL_law_18 rfl ?_
  refine px_aload_n dL_law_19 rfl ?_
  refine px_slen dL_law_20 (by exact h.2.2.2.2.1) ?_
  refine px_bipush (v := 6) dL_law_21 (by decide) ?_
  refine px_isub dL_law_23 ?_
  refine px_icmp_gt (tgt := 1153) dL_law_24 (by decide) (fun hc24 => ?_) (fun hc24 => ?_)
  · refine px_iconst (v := 1) dL_law_1153 (by decide) ?_
    exact px_reti dL_law_1154 (by rfl) (by rfl)
  · exact absurd ((lw_len hL2 hq).mpr (by omega)) hc24
theorem law_loop (hL2 : L ≤ 3072) : ∀ (k q : Nat) (C : CS) (n w : Nat) (g : Nat → Option va_E) (M : MS) (bk : BK), q + k = 512 → LI b L xs e r N0 W0 q C n w g M bk → ∃ h1 : pm_H, EX B D 100 mL_law 18 [some (.ref b), some (.ref e), some (.ref r), some (.int (nI (6 * q)))] [] (n, w, mH r g M) (some (.int 1)) h1 ∧ h1.1 ≤ N0 + 17 * 512 ∧ h1.2.1 ≤ W0 + 85 * 512
  | 0, q, C, n, w, g, M, bk, hk, h => by
    obtain ⟨h1, h2, h3, h4, h5, h6, h7, h8, h9, h10⟩ := id h
    exact ⟨(n, w, mH r g M), law_end h (by omega) (by omega) hL2, by show n ≤ _; omega, by show w ≤ _; omega⟩
  | k + 1, q, C, n, w, g, M, bk, hk, h => by
    obtain ⟨h1, h2, h3, h4, h5, h6, h7, h8, h9, h10⟩ := id h
    by_cases hL : 6 * q + 5 < L
    · obtain ⟨C', n', w', G, M', bk', a1, a2⟩ := law_step (B := B) (D := D) h (by omega) hL hL2
      obtain ⟨H, b1, b2, b3⟩ := law_loop hL2 k (q + 1) C' n' w' G M' bk' (by omega) a1
      exact ⟨H, a2 _ _ b1, b2, b3⟩
    · exact ⟨(n, w, mH r g M), law_end h (by omega) hL hL2, by show n ≤ _; omega, by show w ≤ _; omega⟩
end M81

