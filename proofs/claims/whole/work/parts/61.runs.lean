/-! the reference runs, again and again -/
/-- only the row of all that a world is, between a and a + 25, is changed -/
def B5 (M M' : MS) (a : Nat) : Prop := M'.1 = M.1 ∧ (∀ j, j ≠ 5 → M'.2.1 j = M.2.1 j) ∧ M'.2.2 = M.2.2 ∧ ∀ q, q < a ∨ a + 25 ≤ q → M'.2.1 5 q = M.2.1 5 q
theorem B5.rf (M : MS) (a : Nat) : B5 M M a := ⟨rfl, fun _ _ => rfl, rfl, fun _ _ => rfl⟩
theorem B5.sa {M M' : MS} {a q : Nat} {x : Int32} (h : B5 M M' a) (h1 : a ≤ q) (h2 : q < a + 25) : B5 M (M'.sa 5 q x) a := ⟨h.1, fun j hj => (va_up_ne _ _ hj).trans (h.2.1 j hj), h.2.2.1, fun p hp => by
  show va_up M'.2.1 5 (va_up (M'.2.1 5) q x) 5 p = _
  rw [va_up_self, va_up_ne _ _ (by omega)]
  exact h.2.2.2 p hp⟩
theorem B5.tra {M N K : MS} {a : Nat} (h1 : B5 M N a) (h2 : B5 N K a) : B5 M K a := ⟨h2.1.trans h1.1, fun j hj => (h2.2.1 j hj).trans (h1.2.1 j hj), h2.2.2.1.trans h1.2.2.1, fun q hq => (h2.2.2.2 q hq).trans (h1.2.2.2 q hq)⟩
theorem sa5 (M : MS) (q : Nat) (x : Int32) : (M.sa 5 q x).2.1 5 = va_up (M.2.1 5) q x := by
  show va_up M.2.1 5 (va_up (M.2.1 5) q x) 5 = _
  rw [va_up_self]
section M61
variable {B : Nat} {D : va_G} {n w r : Nat} {f : Nat → Option va_E} {X : Nat → Bool} {bk : BK}
theorem l_X7_runs_87 {d t L : Nat} {x : Int32} (ht : t < 16) (hL : L ≤ 12) : ∀ (k j : Nat) (M : MS), j + k = L → M.1 22 = nI L → ∃ M' : MS, EX B D d mX7_runs 87 [some (.ref r), some (.int (nI (8 + t))), some (.int x), some (.int (nI (424 + 25 * t))), some (.int (bi false)), some (.int (nI j))] [] (n, w, mH r f M) (some (.int x)) (n, w, mH r f M') ∧ B5 M M' (424 + 25 * t) ∧ (∀ i, j ≤ i → i < L → M'.2.1 5 (424 + 25 * t + 1 + i) = M.2.1 12 i ∧ M'.2.1 5 (424 + 25 * t + 13 + i) = M.2.1 13 i) ∧ (∀ i, i < j → M'.2.1 5 (424 + 25 * t + 1 + i) = M.2.1 5 (424 + 25 * t + 1 + i) ∧ M'.2.1 5 (424 + 25 * t + 13 + i) = M.2.1 5 (424 + 25 * t + 13 + i)) ∧ M'.2.1 5 (424 + 25 * t) = M.2.1 5 (424 + 25 * t)
  | 0, j, M, hj, h22 => by
    have : j = L := by omega
    subst this
    refine ⟨M, ?_, B5.rf M _, fun i h1 h2 => by omega, fun i _ => ⟨rfl, rfl⟩, rfl⟩
    refine px_iload dX7_runs_87 rfl ?_
    refine px_aload_n dX7_runs_89 rfl ?_
    refine mx_get fl_X7_175 dX7_runs_90 rfl ?_
    refine px_icmp_ge (tgt := 144) dX7_runs_93 (by decide) (fun hc93 => ?_) (fun hc93 => ?_)
    · refine px_iload_n dX7_runs_144 rfl ?_
      exact px_reti dX7_runs_145 (by rfl) (by rfl)
    · exact absurd (by rw [h22]; exact Int32.le_refl _) hc93
  | k + 1, j, M, hj, h22 => by
    have hge : ¬ M.1 22 ≤ nI j := by rw [h22]; exact nI_ge (by omega) (by omega)
    obtain ⟨M', e1, e2, e3, e4, e5⟩ := l_X7_runs_87 (d := d) (x := x) ht hL k (j + 1) ((M.sa 5 (424 + 25 * t + 1 + j) (M.2.1 12 j)).sa 5 (424 + 25 * t + 13 + j) (M.2.1 13 j)) (by omega) h22
    refine ⟨M', ?_, (((B5.rf M _).sa (by omega) (by omega)).sa (by omega) (by omega)).tra e2, fun i h1 h2 => ?_, fun i hi => ?_, ?_⟩
    · refine px_iload dX7_runs_87 rfl ?_
      refine px_aload_n dX7_runs_89 rfl ?_
      refine mx_get fl_X7_175 dX7_runs_90 rfl ?_
      refine px_icmp_ge (tgt := 144) dX7_runs_93 (by decide) (fun hc93 => ?_) (fun hc93 => ?_)
      · exact absurd hc93 hge
      · refine px_iload dX7_runs_96 rfl ?_
        refine px_ifb_ne (tgt := 144) dX7_runs_98 (by decide) (fun hc98 => ?_) (fun hc98 => ?_)
        · cases hc98
        · refine px_aload_n dX7_runs_101 rfl ?_
          refine mx_get fl_X7_48 dX7_runs_102 rfl ?_
          refine px_iload_n dX7_runs_105 rfl ?_
          refine px_iconst (v := 1) dX7_runs_106 (by decide) ?_
          refine px_iadd dX7_runs_107 ?_
          refine px_iload dX7_runs_108 rfl ?_
          refine px_iadd dX7_runs_110 ?_
          refine px_aload_n dX7_runs_111 rfl ?_
          refine mx_get fl_X7_73 dX7_runs_112 rfl ?_
          refine px_iload dX7_runs_115 rfl ?_
          refine mx_iaload (j := 12) (m := 12) (q := j) dX7_runs_117 (by decide) (by first | rfl | (simp (disch := omega) only [li0, li1, li2, li3, li5, li6, li8, li9, li10, li12, li13, li16, li20, li24, li25, li100, li408, li424, li824, nI_add, nI_mul, nI_sub]; first | done | rfl | (congr 1; omega))) (by omega) ?_
          refine mx_iastore (j := 5) (m := 824) (q := 424 + 25 * t + 1 + j) dX7_runs_118 (by decide) (by first | rfl | (simp (disch := omega) only [li0, li1, li2, li3, li5, li6, li8, li9, li10, li12, li13, li16, li20, li24, li25, li100, li408, li424, li824, nI_add, nI_mul, nI_sub]; first | done | rfl | (congr 1; omega))) (by omega) ?_
          refine px_aload_n dX7_runs_119 rfl ?_
          refine mx_get fl_X7_48 dX7_runs_120 rfl ?_
          refine px_iload_n dX7_runs_123 rfl ?_
          refine px_bipush (v := 13) dX7_runs_124 (by decide) ?_
          refine px_iadd dX7_runs_126 ?_
          refine px_iload dX7_runs_127 rfl ?_
          refine px_iadd dX7_runs_129 ?_
          refine px_aload_n dX7_runs_130 rfl ?_
          refine mx_get fl_X7_76 dX7_runs_131 rfl ?_
          refine px_iload dX7_runs_134 rfl ?_
          refine mx_iaload (j := 13) (m := 12) (q := j) dX7_runs_136 (by decide) (by first | rfl | (simp (disch := omega) only [li0, li1, li2, li3, li5, li6, li8, li9, li10, li12, li13, li16, li20, li24, li25, li100, li408, li424, li824, nI_add, nI_mul, nI_sub]; first | done | rfl | (congr 1; omega))) (by omega) ?_
          refine mx_iastore (j := 5) (m := 824) (q := 424 + 25 * t + 13 + j) dX7_runs_137 (by decide) (by first | rfl | (simp (disch := omega) only [li0, li1, li2, li3, li5, li6, li8, li9, li10, li12, li13, li16, li20, li24, li25, li100, li408, li424, li824, nI_add, nI_mul, nI_sub]; first | done | rfl | (congr 1; omega))) (by omega) ?_
          refine px_iinc5 rfl (nI_inc j) dX7_runs_138 ?_
          refine px_goto (tgt := 87) dX7_runs_141 (by decide) ?_
          exact e1
    · by_cases e : i = j
      · subst e
        obtain ⟨g1, g2⟩ := e4 i (by omega)
        rw [g1, g2, sa5, sa5]
        refine ⟨?_, ?_⟩
        · rw [va_up_ne _ _ (by omega), va_up_self]
        · rw [va_up_self]
      · exact e3 i (by omega) h2
    · obtain ⟨g1, g2⟩ := e4 i (by omega)
      rw [g1, g2, sa5, sa5]
      refine ⟨?_, ?_⟩
      · rw [va_up_ne _ _ (by omega), va_up_ne _ _ (by omega)]
      · rw [va_up_ne _ _ (by omega), va_up_ne _ _ (by omega)]
    · rw [e5, sa5, sa5, va_up_ne _ _ (by omega), va_up_ne _ _ (by omega)]
/-- what is written behind the last RUN -/
theorem t_runs {d t : Nat} {x : Int32} {M : MS} {dn : Nat → Bool} {acc : aAcc} {res : List Q4} (hd : 2 ≤ d) (ht : t < 16) (hb : Bk M bk) (hA : As bk M dn acc) (hx : Cd bk res x) : ∃ M' : MS, EX B D d mX7_runs 52 [some (.ref r), some (.int (nI (8 + t))), some (.int x), none, none, none] [] (n, w, mH r f M) (some (.int x)) (n, w, mH r f M') ∧ B5 M M' (424 + 25 * t) ∧ TrO bk (if isRing res = true then none else some acc) (M'.2.1 5) (424 + 25 * t) := by
  cases hr : isRing res with
  | true =>
    refine ⟨M.sa 5 (424 + 25 * t) (-1), ?_, (B5.rf M _).sa (by omega) (by omega), ?_⟩
    · refine px_aload_n dX7_runs_52 rfl ?_
      refine px_iload_n dX7_runs_53 rfl ?_
      refine px_callV1 (ν := mX7_traceAt) (ci := 7) rfl rfl lk_X7_98 in_X7_traceAt se_X7_traceAt mok_X7_traceAt dX7_runs_54 (c_X7_traceAt ht) (by exact mH_0) rfl rfl (by omega) (by simp) ?_
      refine px_istore3 rfl dX7_runs_57 ?_
      refine px_aload_n dX7_runs_58 rfl ?_
      refine px_iload_n dX7_runs_59 rfl ?_
      refine px_callV1 (ν := mX7_isOfRing) (ci := 7) rfl rfl lk_X7_187 in_X7_isOfRing se_X7_isOfRing mok_X7_isOfRing dX7_runs_60 (c_X7_isOfRing hb hx) (by exact mH_0) rfl rfl (by omega) (by simp) ?_
      rw [hr]
      refine px_istore4 rfl dX7_runs_63 ?_
      refine px_aload_n dX7_runs_65 rfl ?_
      refine mx_get fl_X7_48 dX7_runs_66 rfl ?_
      refine px_iload_n dX7_runs_69 rfl ?_
      refine px_iload dX7_runs_70 rfl ?_
      refine px_ifb_eq (tgt := 79) dX7_runs_72 (by decide) (fun hc72 => ?_) (fun hc72 => ?_)
      · cases hc72
      · refine px_iconst (v := (-1)) dX7_runs_75 (by decide) ?_
        refine px_goto (tgt := 83) dX7_runs_76 (by decide) ?_
        refine mx_iastore (j := 5) (m := 824) (q := 424 + 25 * t) dX7_runs_83 (by decide) (by first | rfl | (simp (disch := omega) only [li0, li1, li2, li3, li5, li6, li8, li9, li10, li12, li13, li16, li20, li24, li25, li100, li408, li424, li824, nI_add, nI_mul, nI_sub]; first | done | rfl | (congr 1; omega))) (by omega) ?_
        refine px_iconst (v := 0) dX7_runs_84 (by decide) ?_
        refine px_istore5 rfl dX7_runs_85 ?_
        refine px_iload dX7_runs_87 rfl ?_
        refine px_aload_n dX7_runs_89 rfl ?_
        refine mx_get fl_X7_175 dX7_runs_90 rfl ?_
        refine px_icmp_ge (tgt := 144) dX7_runs_93 (by decide) (fun hc93 => ?_) (fun hc93 => ?_)
        · refine px_iload_n dX7_runs_144 rfl ?_
          exact px_reti dX7_runs_145 (by rfl) (by rfl)
        · refine px_iload dX7_runs_96 rfl ?_
          refine px_ifb_ne (tgt := 144) dX7_runs_98 (by decide) (fun hc98 => ?_) (fun hc98 => ?_)
          · refine px_iload_n dX7_runs_144 rfl ?_
            exact px_reti dX7_runs_145 (by rfl) (by rfl)
          · cases hc98
    · rw [if_pos rfl]
      show (M.sa 5 _ _).2.1 5 _ = -1
      rw [sa5, va_up_self]
  | false =>
    obtain ⟨M', e1, e2, e3, e4, e5⟩ := l_X7_runs_87 (B := B) (D := D) (n := n) (w := w) (r := r) (f := f) (d := d) (x := x) ht hA.2.1 acc.length 0 (M.sa 5 (424 + 25 * t) (M.1 22)) (by omega) hA.1
    refine ⟨M', ?_, ((B5.rf M _).sa (by omega) (by omega)).tra e2, ?_⟩
    · refine px_aload_n dX7_runs_52 rfl ?_
      refine px_iload_n dX7_runs_53 rfl ?_
      refine px_callV1 (ν := mX7_traceAt) (ci := 7) rfl rfl lk_X7_98 in_X7_traceAt se_X7_traceAt mok_X7_traceAt dX7_runs_54 (c_X7_traceAt ht) (by exact mH_0) rfl rfl (by omega) (by simp) ?_
      refine px_istore3 rfl dX7_runs_57 ?_
      refine px_aload_n dX7_runs_58 rfl ?_
      refine px_iload_n dX7_runs_59 rfl ?_
      refine px_callV1 (ν := mX7_isOfRing) (ci := 7) rfl rfl lk_X7_187 in_X7_isOfRing se_X7_isOfRing mok_X7_isOfRing dX7_runs_60 (c_X7_isOfRing hb hx) (by exact mH_0) rfl rfl (by omega) (by simp) ?_
      rw [hr]
      refine px_istore4 rfl dX7_runs_63 ?_
      refine px_aload_n dX7_runs_65 rfl ?_
      refine mx_get fl_X7_48 dX7_runs_66 rfl ?_
      refine px_iload_n dX7_runs_69 rfl ?_
      refine px_iload dX7_runs_70 rfl ?_
      refine px_ifb_eq (tgt := 79) dX7_runs_72 (by decide) (fun hc72 => ?_) (fun hc72 => ?_)
      · refine px_aload_n dX7_runs_79 rfl ?_
        refine mx_get fl_X7_175 dX7_runs_80 rfl ?_
        refine mx_iastore (j := 5) (m := 824) (q := 424 + 25 * t) dX7_runs_83 (by decide) (by first | rfl | (simp (disch := omega) only [li0, li1, li2, li3, li5, li6, li8, li9, li10, li12, li13, li16, li20, li24, li25, li100, li408, li424, li824, nI_add, nI_mul, nI_sub]; first | done | rfl | (congr 1; omega))) (by omega) ?_
        refine px_iconst (v := 0) dX7_runs_84 (by decide) ?_
        refine px_istore5 rfl dX7_runs_85 ?_
        exact e1
      · cases hc72
    · rw [if_neg (by decide)]
      refine ⟨hA.2.1, ?_, fun i y hy => ?_⟩
      · rw [e5, sa5, va_up_self]; exact hA.1
      · obtain ⟨a1, a2, a3, a4, a5⟩ := hA.2.2 i y hy
        obtain ⟨g1, g2⟩ := e3 i (Nat.zero_le _) (List.getElem?_eq_some_iff.mp hy).1
        rw [g1, g2]
        exact ⟨a1, a2, a3, a4⟩
theorem GE.of' {bk bk' : BK} {M M' : MS} {S : BS} (h : GE bk M S) (hb : Bk M' bk') (hp : bk <+: bk') (e : M'.2.1 = M.2.1) : GE bk' M' S := by
  refine ⟨hb, by rw [e]; exact h.2.1, by rw [e]; exact h.2.2.1, ?_, by rw [e]; exact h.2.2.2.2.1, h.2.2.2.2.2⟩
  rw [e]
  exact h.2.2.2.1.ag hp (fun _ _ _ => rfl)
theorem NW.seen {bk X g A} (h : NW bk X g A) {k : Nat} (hk : X k = true) (tr : Option aAcc) : NW bk X g (A.set k (A.rs k) tr) := by
  have h1 := h.hide k tr
  have e : va_up X k true = X := by rw [← hk]; exact up_id X k
  rwa [e] at h1
theorem m10_neg {m : Nat} (hm : m < 24) : ¬ (0 : Int32) ≤ -10 - nI m ∧ -10 - (-10 - nI m) = nI m := by
  refine ⟨fun h => ?_, ?_⟩
  · rw [Int32.le_iff_toInt_le, Int32.toInt_sub, nI_toInt (by omega), show (-10 : Int32).toInt = -10 by decide, Int.bmod_eq_of_le (by omega) (by omega)] at h
    rw [show (0 : Int32).toInt = 0 by decide] at h
    omega
  · apply Int32.toInt_inj.mp
    rw [Int32.toInt_sub, Int32.toInt_sub, nI_toInt (by omega), show (-10 : Int32).toInt = -10 by decide, Int.bmod_eq_of_le (n := -10 - (m : Int)) (by omega) (by omega), Int.bmod_eq_of_le (by omega) (by omega)]
    omega
theorem l_X7_runs_6 {dd F d t : Nat} (hdd : 3 ≤ dd) (hd : dd + 1 ≤ d) (hH : HR B D dd F n w r f) (ht : t < 16) (hX0 : X (8 + t) = true) : ∀ (j : Nat) (S : BS) (M : MS) (bk : BK) (x0 : Int32), BR bk X M S → S.op (8 + t) = true → S.dn (8 + t) = false → (∀ j, X j = true → S.op j = true) → 16 ≤ cd S.op + F → ne bk + 16 ≤ 8900 + cd S.dn → 16 ≤ cd S.dn + j →
    ∃ (M' : MS) (bk' : BK) (Sx : BS) (acc : aAcc) (res : List Q4) (x : Int32), (∀ rr h1, EX B D d mX7_runs 52 [some (.ref r), some (.int (nI (8 + t))), some (.int x), none, none, none] [] (n, w, mH r f M') rr h1 → EX B D d mX7_runs 6 [some (.ref r), some (.int (nI (8 + t))), some (.int x0), none, none, none] [] (n, w, mH r f M) rr h1) ∧ aRun (aNeed (aBuild F)) (8 + t) j S = aFin (aRan Sx (8 + t) acc) (8 + t) acc res ∧ Po bk X M S bk' M' (aRan Sx (8 + t) acc) 1 ∧ As bk' M' Sx.dn acc ∧ Cd bk' res x ∧ res ≠ [] ∧ (aRan Sx (8 + t) acc).A.rs (8 + t) = S.A.rs (8 + t)
  | 0, S, M, bk, x0, hB, hop, hdn, hX, hF, hcap, hj => by
    have := cd_lt ht hdn
    omega
  | j + 1, S, M, bk, x0, hB, hop, hdn, hX, hF, hcap, hj => by
    have hlt := cd_lt ht hdn
    have hG : GE bk ((M.sets 16 (M.1 16 + 1)).sets 22 0) S := hB.ge.of' (hB.1.of rfl (fun _ _ _ => rfl)) List.prefix_rfl rfl
    obtain ⟨M1, bk1, x, c1, c2, c3, c4, c5⟩ := c_X7_goes (B := B) (D := D) (n := n) (w := w) (r := r) (f := f) ht hG (by omega) (by show va_up (M.sets 16 (M.1 16 + 1)).1 22 0 22 = 0; rw [va_up_self])
    have hB1 : ∀ acc, BR bk1 X M1 (aRan S (8 + t) acc) := fun acc => by
      have hN : NW bk1 X (M1.2.1 5) S.A := by
        rw [c4.2.1 5 (by omega) (by omega) (by omega)]
        exact hB.2.1.ag c3 (fun _ _ => rfl)
      obtain ⟨b1, b2, b3, b4, b5, b6, b7⟩ := hB.2.2.1
      refine ⟨c2, hN.seen hX0 _, ⟨?_, ?_, ?_, ?_, ?_, ?_, ?_⟩, hB.2.2.2.set (rs := S.A.rs (8 + t)) (tr := some acc) hop rfl rfl rfl rfl⟩
      · rw [c4.2.1 9 (by omega) (by omega) (by omega), c4.2.1 10 (by omega) (by omega) (by omega)]; exact b1
      · rw [c4.1 14 (by omega) (by omega)]; exact b2
      · rw [c4.2.1 11 (by omega) (by omega) (by omega)]; exact b3
      · rw [c4.1 16 (by omega) (by omega)]
        show M.1 16 + 1 = S.st + 1
        rw [b4]
      · rw [c4.1 17 (by omega) (by omega)]; exact b5
      · rw [c4.1 18 (by omega) (by omega)]; exact b6
      · rw [c4.1 19 (by omega) (by omega)]; exact b7
    have hFb : Fb M M1 := by
      have h1 := c4.fb
      exact ⟨fun j hj => (h1.1 j hj).trans (by rcases hj with rfl | rfl | rfl <;> rfl), h1.2.1, h1.2.2⟩
    have hrs : ∀ acc, (aRan S (8 + t) acc).A.rs (8 + t) = S.A.rs (8 + t) := fun acc => va_up_self _ _ _
    cases hz : aTry S (8 + t) with
    | mk acc y =>
    rw [hz] at c5
    cases y with
    | inl res =>
      obtain ⟨d1, d2, d3, d4⟩ := c5
      have hx0 := d2.ne d3
      refine ⟨M1, bk1, S, acc, res, x, fun rr h1 hk => ?_, aRun_inl hz, ⟨hB1 acc, c3, hFb, ?_, fun _ h => h⟩, d1, d2, d3, hrs acc⟩
      · refine px_aload_n dX7_runs_6 rfl ?_
        refine px_dup dX7_runs_7 rfl ?_
        refine mx_get fl_X7_178 dX7_runs_8 rfl ?_
        refine px_iconst (v := 1) dX7_runs_11 (by decide) ?_
        refine px_iadd dX7_runs_12 ?_
        refine mx_put fp_X7_178 dX7_runs_13 rfl rfl (by decide) rfl ?_
        refine px_aload_n dX7_runs_16 rfl ?_
        refine px_iconst (v := 0) dX7_runs_17 (by decide) ?_
        refine mx_put fp_X7_175 dX7_runs_18 rfl rfl (by decide) rfl ?_
        refine px_aload_n dX7_runs_21 rfl ?_
        refine px_iload_n dX7_runs_22 rfl ?_
        refine px_callV1 (ν := mX7_goes) (ci := 7) rfl rfl lk_X7_181 in_X7_goes se_X7_goes mok_X7_goes dX7_runs_23 (c1) (by exact mH_0) rfl rfl (by omega) (by simp) ?_
        refine px_istore2 rfl dX7_runs_26 ?_
        refine px_iload_n dX7_runs_27 rfl ?_
        refine px_if_ge (tgt := 2) dX7_runs_28 (by decide) (fun hc28 => ?_) (fun hc28 => ?_)
        · refine px_iload_n dX7_runs_2 rfl ?_
          refine px_if_ge (tgt := 52) dX7_runs_3 (by decide) (fun hc3 => ?_) (fun hc3 => ?_)
          · exact hk
          · exact absurd (Int32.not_lt.mp hx0) hc3
        · exact absurd (Int32.not_lt.mp hx0) hc28
      · show ne bk1 + cd S.dn ≤ ne bk + cd S.dn + 1
        omega
    | inr m =>
      obtain ⟨d1, d2, d3, d4, d5, d6⟩ := c5
      obtain ⟨u, hu, rfl⟩ : ∃ u, u < 16 ∧ m = 8 + u := ⟨m - 8, by omega, by omega⟩
      obtain ⟨neg, back⟩ := m10_neg d4
      rw [← d1] at neg back
      have hB2 : BR bk1 X (M1.sets 17 (M1.1 17 + 1)) (aPut (aRan S (8 + t) acc)) := by
        have h := hB1 acc
        obtain ⟨b1, b2, b3, b4, b5, b6, b7⟩ := h.2.2.1
        refine ⟨h.1.of rfl (fun _ _ _ => rfl), h.2.1, ⟨b1, b2, b3, b4, ?_, b6, b7⟩, h.2.2.2.of rfl rfl rfl rfl⟩
        show va_up M1.1 17 (M1.1 17 + 1) 17 = S.po + 1
        rw [va_up_self, b5]
        rfl
      obtain ⟨M2, bk2, hC, hP, hdone⟩ := hH (aPut (aRan S (8 + t) acc)) u (M1.sets 17 (M1.1 17 + 1)) bk1 X hu hB2 d5 d6 hX hF (by show ne bk1 + 16 ≤ 8900 + cd S.dn; omega)
      have hK := Kp_build F (8 + u) (aPut (aRan S (8 + t) acc)) d6
      have hne : aNeed (aBuild F) (8 + u) (aPut (aRan S (8 + t) acc)) = aBuild F (8 + u) (aPut (aRan S (8 + t) acc)) := by unfold aNeed; rw [if_pos ⟨by omega, d5, d6⟩]
      have hcd : cd S.dn < cd (aBuild F (8 + u) (aPut (aRan S (8 + t) acc))).dn := cdN_lts (fun j hj => hP.2.2.2.2 j hj) hu d5 hdone
      have hP4 : ne bk2 + cd S.dn ≤ ne bk1 + cd (aBuild F (8 + u) (aPut (aRan S (8 + t) acc))).dn + 0 := hP.2.2.2.1
      obtain ⟨M', bk', Sx, acc', res, x', e1, e2, e3, e4, e5, e6, e7⟩ := l_X7_runs_6 hdd hd hH ht hX0 j (aBuild F (8 + u) (aPut (aRan S (8 + t) acc))) M2 bk2 x hP.1 (by rw [hK.1]; exact hop) (by rw [hK.2.2.2.2 _ hop]; exact hdn) (fun j hj => by rw [hK.1]; exact hX j hj) (by rw [hK.1]; exact hF) (by omega) (by omega)
      refine ⟨M', bk', Sx, acc', res, x', fun rr h1 hk => ?_, (aRun_inrS hz).trans (by rw [hne]; exact e2), ?_, e4, e5, e6, e7.trans (((hK.2.2.2.1 _ hop).2).trans (hrs acc))⟩
      · have e1 := e1 rr h1 hk
        refine px_aload_n dX7_runs_6 rfl ?_
        refine px_dup dX7_runs_7 rfl ?_
        refine mx_get fl_X7_178 dX7_runs_8 rfl ?_
        refine px_iconst (v := 1) dX7_runs_11 (by decide) ?_
        refine px_iadd dX7_runs_12 ?_
        refine mx_put fp_X7_178 dX7_runs_13 rfl rfl (by decide) rfl ?_
        refine px_aload_n dX7_runs_16 rfl ?_
        refine px_iconst (v := 0) dX7_runs_17 (by decide) ?_
        refine mx_put fp_X7_175 dX7_runs_18 rfl rfl (by decide) rfl ?_
        refine px_aload_n dX7_runs_21 rfl ?_
        refine px_iload_n dX7_runs_22 rfl ?_
        refine px_callV1 (ν := mX7_goes) (ci := 7) rfl rfl lk_X7_181 in_X7_goes se_X7_goes mok_X7_goes dX7_runs_23 (c1) (by exact mH_0) rfl rfl (by omega) (by simp) ?_
        refine px_istore2 rfl dX7_runs_26 ?_
        refine px_iload_n dX7_runs_27 rfl ?_
        refine px_if_ge (tgt := 2) dX7_runs_28 (by decide) (fun hc28 => ?_) (fun hc28 => ?_)
        · exact absurd hc28 neg
        · refine px_aload_n dX7_runs_31 rfl ?_
          refine px_dup dX7_runs_32 rfl ?_
          refine mx_get fl_X7_184 dX7_runs_33 rfl ?_
          refine px_iconst (v := 1) dX7_runs_36 (by decide) ?_
          refine px_iadd dX7_runs_37 ?_
          refine mx_put fp_X7_184 dX7_runs_38 rfl rfl (by decide) rfl ?_
          refine px_aload_n dX7_runs_41 rfl ?_
          refine px_bipush (v := (-10)) dX7_runs_42 (by decide) ?_
          refine px_iload_n dX7_runs_44 rfl ?_
          refine px_isub dX7_runs_45 ?_
          rw [back]
          refine px_callV0 (ν := mX7_builds) (ci := 7) rfl rfl lk_X7_172 in_X7_builds se_X7_builds mok_X7_builds dX7_runs_46 (hC) (by exact mH_0) rfl rfl (by omega) (by simp) ?_
          refine px_goto (tgt := 2) dX7_runs_49 (by decide) ?_
          refine px_iload_n dX7_runs_2 rfl ?_
          refine px_if_ge (tgt := 52) dX7_runs_3 (by decide) (fun hc3 => ?_) (fun hc3 => ?_)
          · exact absurd hc3 neg
          · exact e1
      · refine (show Po bk X M S bk2 M2 (aBuild F (8 + u) (aPut (aRan S (8 + t) acc))) 0 from ⟨hP.1, c3.trans hP.2.1, hFb.tra ((show Fb M1 (M1.sets 17 (M1.1 17 + 1)) from ⟨fun j hj => by rcases hj with rfl | rfl | rfl <;> rfl, fun _ _ => rfl, rfl⟩).tra hP.2.2.1), by omega, fun j hj => hP.2.2.2.2 j hj⟩).tra e3 (Nat.le_refl _)
theorem c_X7_runs {dd F d t : Nat} (hdd : 3 ≤ dd) (hd : dd + 1 ≤ d) (hd4 : 4 ≤ d) (hH : HR B D dd F n w r f) (ht : t < 16) (hX0 : X (8 + t) = true) {S : BS} {M : MS} (hB : BR bk X M S) (hop : S.op (8 + t) = true) (hdn : S.dn (8 + t) = false) (hX : ∀ j, X j = true → S.op j = true) (hF : 16 ≤ cd S.op + F) (hcap : ne bk + 16 ≤ 8900 + cd S.dn) :
    ∃ (M1 M' : MS) (bk' : BK) (Sx : BS) (acc : aAcc) (res : List Q4) (x : Int32), CT B D d mX7_runs [.ref r, .int (nI (8 + t))] (n, w, mH r f M) (some (.int x)) (n, w, mH r f M') ∧ aRun (aNeed (aBuild F)) (8 + t) 16 S = aFin (aRan Sx (8 + t) acc) (8 + t) acc res ∧ Po bk X M S bk' M1 (aRan Sx (8 + t) acc) 1 ∧ As bk' M1 Sx.dn acc ∧ Cd bk' res x ∧ res ≠ [] ∧ (aRan Sx (8 + t) acc).A.rs (8 + t) = S.A.rs (8 + t) ∧ B5 M1 M' (424 + 25 * t) ∧ TrO bk' (if isRing res = true then none else some acc) (M'.2.1 5) (424 + 25 * t) := by
  obtain ⟨M1, bk', Sx, acc, res, x, e1, e2, e3, e4, e5, e6, e7⟩ := l_X7_runs_6 hdd hd hH ht hX0 16 S M bk (-1) hB hop hdn hX hF hcap (by omega)
  obtain ⟨M', f1, f2, f3⟩ := t_runs (B := B) (D := D) (n := n) (w := w) (r := r) (f := f) (d := d) (by omega) ht e3.1.1 e4 e5
  refine ⟨M1, M', bk', Sx, acc, res, x, ?_, e2, e3, e4, e5, e6, e7, f2, f3⟩
  have e1 := e1 _ _ f1
  refine CT.of [some (.ref r), some (.int (nI (8 + t))), none, none, none, none] rfl (Nat.le_of_ble_eq_true rfl) pl_X7 trivial ?_
  refine px_iconst (v := (-1)) dX7_runs_0 (by decide) ?_
  refine px_istore2 rfl dX7_runs_1 ?_
  refine px_iload_n dX7_runs_2 rfl ?_
  refine px_if_ge (tgt := 52) dX7_runs_3 (by decide) (fun hc3 => ?_) (fun hc3 => ?_)
  · exact absurd hc3 (by decide)
  · exact e1
end M61
