/-! the recursion -/
def slk (z : aAcc × (List Q4 ⊕ Nat)) : Nat := match z.2 with
  | .inl _ => 0
  | .inr _ => 1
theorem aRun_inl {rec : Nat → BS → BS} {key k : Nat} {S : BS} {acc : aAcc} {r : List Q4} (h : aTry S key = (acc, .inl r)) : aRun rec key k S = aFin (aRan S key acc) key acc r := by
  cases k with
  | zero => rw [aRun, h]
  | succ k => rw [aRun, h]
theorem aRun_inr0 {rec : Nat → BS → BS} {key : Nat} {S : BS} {acc : aAcc} {m : Nat} (h : aTry S key = (acc, .inr m)) : aRun rec key 0 S = aRan S key acc := by rw [aRun, h]
theorem aRun_inrS {rec : Nat → BS → BS} {key k : Nat} {S : BS} {acc : aAcc} {m : Nat} (h : aTry S key = (acc, .inr m)) : aRun rec key (k + 1) S = aRun rec key k (rec m (aPut (aRan S key acc))) := by rw [aRun, h]
section M25
variable {B : Nat} {D : va_G} {b : Nat}
/-- where an attempt has come to: the pointer made, or none -/
def AF (g : Nat → Option va_E) (n b t : Nat) (sb : Int32) (S : BS) (z : aAcc × (List Q4 ⊕ Nat)) (made : Option Nat) : Prop := wfH g n ∧ match z.2 with
  | .inl r => IsB g b sb (aRan S (8 + t) z.1) ∧ ∃ p : Nat, made = some p ∧ ch g r (some p)
  | .inr m => m < 24 ∧ made = none ∧ IsBw g b sb (aRan S (8 + t) z.1) (nI m)
theorem AF.isB {g : Nat → Option va_E} {n t : Nat} {sb : Int32} {S : BS} {z : aAcc × (List Q4 ⊕ Nat)} {made : Option Nat} (h : AF g n b t sb S z made) : IsB g b sb (aRan S (8 + t) z.1) := by
  obtain ⟨acc, r | m⟩ := z
  · exact h.2.1
  · exact h.2.2.2.b
theorem c_try2 {n w : Nat} {f : Nat → Option va_E} {t : Nat} {sb : Int32} {S : BS} (ht : t < 16) (h : IsB f b sb S) (hwf : wfH f n) (hv : vRu S.A) : ∃ (n' w' : Nat) (g : Nat → Option va_E) (made : Option Nat), CT B D 6 mX0_runOnce [.ref b, .int (nI (8 + t)), .ref (b + 1 + 5 + 5 * t)] (n, w, f) (some (va_rf made)) (n', w', g) ∧ AF g n' b t sb S (aTry S (8 + t)) made ∧ Ag f g b (b + 111) n ∧ keeps f g ∧ n ≤ n' ∧ w' + 5 * n = w + 5 * n' ∧ n' + slk (aTry S (8 + t)) ≤ n + 1 := by
  have hA := c_try (B := B) (D := D) (w := w) ht h hwf hv
  unfold AT at hA
  unfold AF slk
  rcases hz : aTry S (8 + t) with ⟨acc, r | m⟩
  · rw [hz] at hA
    obtain ⟨g, p, g1, g2, g3, g4, g5, g6⟩ := hA
    exact ⟨n + 1, w + 5, g, some p, g1, ⟨g3, g2, p, rfl, g4⟩, g5, g6, by omega, by omega, (by show n + 1 + 0 ≤ n + 1; omega)⟩
  · rw [hz] at hA
    obtain ⟨hm, g, g1, g2, g3, g4, g5⟩ := hA
    exact ⟨n, w, g, none, g1, ⟨g3, hm, rfl, g2⟩, g4, g5, by omega, by omega, (by show n + 1 ≤ n + 1; omega)⟩
theorem l_X0_runToEnd_11 {dd F d : Nat} (hdd : 4 ≤ dd) (hd : dd + 1 ≤ d) (hd7 : 7 ≤ d) (hF : F ≤ 16) (hB : HB B D dd F b) {t : Nat} (ht : t < 16) {sb : Int32} : ∀ (k i n w : Nat) (f : Nat → Option va_E) (S : BS) (made : Option Nat), i + k = 16 → vRu S.A → S.op (8 + t) = true → AF f n b t sb S (aTry S (8 + t)) made →
    ∃ (n' w' : Nat) (g : Nat → Option va_E), EX B D d mX0_runToEnd 11 [some (.ref b), some (.int (nI (8 + t))), some (.ref (b + 1 + 5 + 5 * t)), some (.int (nI (16 - F))), some (va_rf made), some (.int (nI i))] [] (n, w, f) none (n', w', g) ∧ Bd f g n n' w w' b sb (aRan S (8 + t) (aTry S (8 + t)).1) (aRun (aNeed (aBuild F)) (8 + t) k S) (slk (aTry S (8 + t))) := by
  have hlev : nI (16 - F) + 1 = nI (17 - F) := by rw [nI_1]; congr 1; omega
  intro k
  induction k with
  | zero =>
    intro i n w f S made hi hv hop hA
    have hBb := hA.isB
    unfold AF at hA
    rcases hz : aTry S (8 + t) with ⟨acc, r | m⟩
    · rw [hz] at hA hBb
      obtain ⟨hwf, hb, p, rfl, hr⟩ := hA
      rw [aRun_inl hz]
      obtain ⟨g, hE, hBd⟩ := f_fin (B := B) (D := D) (n := n) (w := w) (d := d) (lev := nI (16 - F)) (x := nI i) (by omega) ht hb hwf (acc := acc) (by simp only [aRan, AW.set, BS.A, AW.tr, va_up_self]) hr
      refine ⟨n, w, g, ?_, hBd⟩
      refine px_aload dX0_runToEnd_11 rfl ?_
      refine px_ifnonnull_t (tgt := 58) dX0_runToEnd_13 (by decide) ?_
      exact hE
    · rw [hz] at hA hBb
      obtain ⟨hwf, hm, rfl, hb⟩ := hA
      rw [aRun_inr0 hz]
      refine ⟨n, w, f, ?_, (Bd.rf hBb hwf).tra (Bd.rf hBb hwf) (Nat.zero_le _)⟩
      refine px_aloadN dX0_runToEnd_11 rfl ?_
      refine px_ifnonnull_f dX0_runToEnd_13 ?_
      refine px_iload dX0_runToEnd_16 rfl ?_
      refine px_bipush (v := 16) dX0_runToEnd_18 (by decide) ?_
      refine px_icmp_ge (tgt := 58) dX0_runToEnd_20 (by decide) (fun hc20 => ?_) (fun hc20 => ?_)
      · refine px_aloadN dX0_runToEnd_58 rfl ?_
        refine px_ifnonnull_f dX0_runToEnd_60 ?_
        exact px_retv dX0_runToEnd_63 rfl (by rfl)
      · exact absurd (nI_le (a := 16) (b := i) (by omega) (by omega)) hc20
  | succ k ih =>
    intro i n w f S made hi hv hop hA
    have hBb := hA.isB
    unfold AF at hA
    rcases hz : aTry S (8 + t) with ⟨acc, r | m⟩
    · rw [hz] at hA hBb
      obtain ⟨hwf, hb, p, rfl, hr⟩ := hA
      rw [aRun_inl hz]
      obtain ⟨g, hE, hBd⟩ := f_fin (B := B) (D := D) (n := n) (w := w) (d := d) (lev := nI (16 - F)) (x := nI i) (by omega) ht hb hwf (acc := acc) (by simp only [aRan, AW.set, BS.A, AW.tr, va_up_self]) hr
      refine ⟨n, w, g, ?_, hBd⟩
      refine px_aload dX0_runToEnd_11 rfl ?_
      refine px_ifnonnull_t (tgt := 58) dX0_runToEnd_13 (by decide) ?_
      exact hE
    · rw [hz] at hA hBb
      obtain ⟨hwf, hm, rfl, hbw⟩ := hA
      rw [aRun_inrS hz]
      dsimp only at hm hbw hBb
      obtain ⟨dn, op, dk, h1, h2, h3, h4, h5, h6, h7⟩ := id hbw
      obtain ⟨p1, p2, p3, p4⟩ := hbw.b.cell (sb := sb) (T := aPut (aRan S (8 + t) acc)) (cn := (aRan S (8 + t) acc).ord.length) (dn := dn) (op := op) (st := (aRan S (8 + t) acc).st) (po := (aRan S (8 + t) acc).po + 1) (sp := (aRan S (8 + t) acc).sp) (cu := (aRan S (8 + t) acc).cu) (wt := nI m) hwf rfl rfl rfl rfl rfl rfl rfl h4 h5
      have hvp : vRu (aPut (aRan S (8 + t) acc)).A := hv.of rfl
      obtain ⟨n1, w1, g1, hC, hBd1⟩ := c_need (n := n) (w := w) (by omega) hB p1 p2 hvp hm
      have hkp := Kp_need (Kp_build F) m (aPut (aRan S (8 + t) acc))
      have hv2 : vRu (aNeed (aBuild F) m (aPut (aRan S (8 + t) acc))).A := hvp.of hkp.2.2.1
      obtain ⟨n2, w2, g2, made2, hR, hA2, a1, a2, a3, a4, a5⟩ := c_try2 (B := B) (D := D) (n := n1) (w := w1) ht hBd1.1 hBd1.2.1 hv2
      obtain ⟨n3, w3, g3, hE, hBd3⟩ := ih (i + 1) n2 w2 g2 _ made2 (by omega) hv2 (by rw [hkp.1]; exact hop) hA2
      obtain ⟨dn1, op1, wt1, dk1, i1, i2, i3, i4, i5, i6, i7⟩ := id hBd1.1
      obtain ⟨b1, b2, b3, b4, b5, b6, b7⟩ := hBd1
      obtain ⟨c1, c2, c3, c4, c5, c6, c7⟩ := hBd3
      have e1 : cd (aRan (aNeed (aBuild F) m (aPut (aRan S (8 + t) acc))) (8 + t) (aTry (aNeed (aBuild F) m (aPut (aRan S (8 + t) acc))) (8 + t)).1).dn = cd (aNeed (aBuild F) m (aPut (aRan S (8 + t) acc))).dn := rfl
      have e2 : cd (aPut (aRan S (8 + t) acc)).dn = cd (aRan S (8 + t) acc).dn := rfl
      rw [e1] at c7
      rw [e2] at b7
      refine ⟨n3, w3, g3, ?_, c1, c2, ((((p3 n).wide (Nat.le_refl _) (by omega)).tra b3 (Nat.le_refl _)).tra a1 b5).tra c3 (by omega), keeps_tr (keeps_tr (keeps_tr p4 b4) a2) c4, by omega, by omega, ?_⟩
      rotate_left
      · show n3 + cd (aRan S (8 + t) acc).dn ≤ n + _ + 1
        omega
      -- the walk
      refine px_aloadN dX0_runToEnd_11 rfl ?_
      refine px_ifnonnull_f dX0_runToEnd_13 ?_
      refine px_iload dX0_runToEnd_16 rfl ?_
      refine px_bipush (v := 16) dX0_runToEnd_18 (by decide) ?_
      refine px_icmp_ge (tgt := 58) dX0_runToEnd_20 (by decide) (fun hc20 => ?_) (fun hc20 => ?_)
      · exact absurd hc20 (nI_ge (a := i) (b := 16) (by omega) (by omega))
      · refine px_aload_n dX0_runToEnd_23 rfl ?_
        refine px_dup dX0_runToEnd_24 rfl ?_
        refine px_getfield fl_X0_114 dX0_runToEnd_25 (by first | exact h1 | exact va_up_self _ _ _ | exact i1) (by rfl) ?_
        refine px_iconst (v := 1) dX0_runToEnd_28 (by decide) ?_
        refine px_iadd dX0_runToEnd_29 ?_
        refine px_putfield fp_X0_114 dX0_runToEnd_30 (by first | exact h1 | exact va_up_self _ _ _ | exact i1) rfl rfl (by simp) ?_
        refine px_aload_n dX0_runToEnd_33 rfl ?_
        refine px_aload_n dX0_runToEnd_34 rfl ?_
        refine px_getfield fl_X0_117 dX0_runToEnd_35 (by first | exact h1 | exact va_up_self _ _ _ | exact i1) (by rfl) ?_
        refine px_iload_n dX0_runToEnd_38 rfl ?_
        refine px_iconst (v := 1) dX0_runToEnd_39 (by decide) ?_
        refine px_iadd dX0_runToEnd_40 ?_
        rw [hlev]
        refine px_callV0 (ν := mX0_buildTarget) (ci := 0) rfl rfl lk_X0_41 in_X0_buildTarget se_X0_buildTarget mok_X0_buildTarget dX0_runToEnd_41 (hC) (by first | exact h1 | exact va_up_self _ _ _ | exact i1) rfl rfl (by omega) (by simp) ?_
        refine px_aload_n dX0_runToEnd_44 rfl ?_
        refine px_iload_n dX0_runToEnd_45 rfl ?_
        refine px_aload_n dX0_runToEnd_46 rfl ?_
        refine px_callV1 (ν := mX0_runOnce) (ci := 0) rfl rfl lk_X0_110 in_X0_runOnce se_X0_runOnce mok_X0_runOnce dX0_runToEnd_47 (hR) (by first | exact h1 | exact va_up_self _ _ _ | exact i1) rfl rfl (by omega) (by simp) ?_
        refine px_astoreQ4 rfl dX0_runToEnd_50 ?_
        refine px_iinc5 (nl_rf _) (nI_inc i) dX0_runToEnd_52 ?_
        refine px_goto (tgt := 11) dX0_runToEnd_55 (by decide) ?_
        exact hE
theorem c_X0_runToEnd {dd F d : Nat} (hdd : 4 ≤ dd) (hd : dd + 1 ≤ d) (hd7 : 7 ≤ d) (hF : F ≤ 16) (hB : HB B D dd F b) {t n w : Nat} {f : Nat → Option va_E} {S : BS} (ht : t < 16) {sb : Int32} (h : IsB f b sb S) (hwf : wfH f n) (hv : vRu S.A) (hop : S.op (8 + t) = true) : ∃ (n' w' : Nat) (g : Nat → Option va_E), CT B D d mX0_runToEnd [.ref b, .int (nI (8 + t)), .ref (b + 1 + 5 + 5 * t), .int (nI (16 - F))] (n, w, f) none (n', w', g) ∧ Bd f g n n' w w' b sb S (aRun (aNeed (aBuild F)) (8 + t) 16 S) 1 := by
  obtain ⟨n1, w1, g1, made, hR, hA, a1, a2, a3, a4, a5⟩ := c_try2 (B := B) (D := D) (n := n) (w := w) ht h hwf hv
  obtain ⟨n2, w2, g2, hE, c1, c2, c3, c4, c5, c6, c7⟩ := l_X0_runToEnd_11 hdd hd hd7 hF hB ht 16 0 n1 w1 g1 S made (by omega) hv hop hA
  obtain ⟨dn, op, wt, dk, h1, h2, h3, h4, h5, h6, h7⟩ := id h
  have e1 : cd (aRan S (8 + t) (aTry S (8 + t)).1).dn = cd S.dn := rfl
  rw [e1] at c7
  refine ⟨n2, w2, g2, ?_, c1, c2, a1.tra c3 a3, keeps_tr a2 c4, by omega, by omega, by omega⟩
  refine CT.of [some (.ref b), some (.int (nI (8 + t))), some (.ref (b + 1 + 5 + 5 * t)), some (.int (nI (16 - F))), none, none] rfl (Nat.le_of_ble_eq_true rfl) pl_X0 trivial ?_
  refine px_aload_n dX0_runToEnd_0 rfl ?_
  refine px_iload_n dX0_runToEnd_1 rfl ?_
  refine px_aload_n dX0_runToEnd_2 rfl ?_
  refine px_callV1 (ν := mX0_runOnce) (ci := 0) rfl rfl lk_X0_110 in_X0_runOnce se_X0_runOnce mok_X0_runOnce dX0_runToEnd_3 (hR) (by exact h1) rfl rfl (by omega) (by simp) ?_
  refine px_astoreQ4 rfl dX0_runToEnd_6 ?_
  refine px_iconst (v := 0) dX0_runToEnd_8 (by decide) ?_
  refine px_istore5 (nl_rf _) dX0_runToEnd_9 ?_
  exact hE
end M25
