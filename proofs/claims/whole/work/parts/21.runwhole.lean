/-! a RUN, whole -/
def vRu (A : AW) : Prop := ∀ (k : Nat) (x : Int32 × Nat), x ∈ A.ru k → x.2 < 100 ∧ (s_asks x.1 = true → x.2 < 24)
section M21
variable {B : Nat} {D : va_G} {n w : Nat} {b : Nat} {A : AW}
theorem r_tail {d : Nat} (hd : 6 ≤ d) {t cn : Nat} {dn op sb sr po sp cu wt : Int32} {dk : Nat → Int32} {Sd So : Nat → Bool} (ht : t < 16) {i : Nat} {s : Int32} {m : Nat} {U : List (Int32 × Nat)} (hx : (A.ru (8 + t))[i]? = some (s, m)) {acc : aAcc} {f : Nat → Option va_E} (h : RO f n b t A acc cn dn op sb sr po sp cu wt dk) {v bb : Int64}
    (ih : ∀ (v' : Int64) (p' : Nat) (z7 z8 z9 z10 z11 z12 z13 : Option Value), p' < 200 → RPost B D d 22 [some (.ref b), some (.int (nI (8 + t))), some (.ref (b + 1 + 5 + 5 * t)), some (.long v'), none, some (.int (nI p')), some (.int (nI (i + 1))), z7, z8, z9, z10, z11, z12, z13] [] n w f b t A cn dn op sb sr po sp cu wt dk (aGo A Sd So (8 + t) U (i + 1) v' p' acc)) (hm : m < 200) {z11 z12 z13 : Option Value} :
    RPost B D d 174 [some (.ref b), some (.int (nI (8 + t))), some (.ref (b + 1 + 5 + 5 * t)), some (.long v), none, some (.int (nI 0)), some (.int (nI i)), some (.int s), some (.int (nI m)), some (.long bb), none, z11, z12, z13] [] n w f b t A cn dn op sb sr po sp cu wt dk (if s_fsort s v bb (s_worked s v bb) = 0 then aGo A Sd So (8 + t) U (i + 1) (s_worked s v bb) (aPass s (s_worked s v bb) m) acc else (acc, .inl [(0, nI (8 + t), s_fsort s v bb (s_worked s v bb), nI i)])) := by
  by_cases hs : s_fsort s v bb (s_worked s v bb) = 0
  · rw [if_pos hs]
    refine (ih _ _ _ _ _ _ _ _ _ ?_).step (Ag.rf _ _ _ _) (keeps_rf _) (fun r h1 hE => r_next (x := (s, m)) hd ht h hx hs (z7 := none) (z8 := none) (z9 := none) (z10 := none) hE)
    unfold aPass; split <;> omega
  · rw [if_neg hs]
    exact r_fail (x := (s, m)) hd ht h hx hs (z7 := none) (z8 := none) (z9 := none) (z10 := none)
theorem r_loop {d : Nat} (hd : 6 ≤ d) {t cn : Nat} {dn op sb sr po sp cu wt : Int32} {dk : Nat → Int32} {Sd So : Nat → Bool} (ht : t < 16) (hSd : IsSet dn Sd) (hSo : IsSet op So) (hv : ∀ x, x ∈ A.ru (8 + t) → x.2 < 100 ∧ (s_asks x.1 = true → x.2 < 24)) : ∀ (U : List (Int32 × Nat)) (i : Nat) (v : Int64) (p : Nat) (acc : aAcc) (f : Nat → Option va_E) (z7 z8 z9 z10 z11 z12 z13 : Option Value), p < 200 → i ≤ (A.ru (8 + t)).length → (A.ru (8 + t)).drop i = U → acc.length ≤ i → RO f n b t A acc cn dn op sb sr po sp cu wt dk → RPost B D d 22 [some (.ref b), some (.int (nI (8 + t))), some (.ref (b + 1 + 5 + 5 * t)), some (.long v), none, some (.int (nI p)), some (.int (nI i)), z7, z8, z9, z10, z11, z12, z13] [] n w f b t A cn dn op sb sr po sp cu wt dk (aGo A Sd So (8 + t) U i v p acc) := by
  intro U
  induction U with
  | nil =>
    intro i v p acc f z7 z8 z9 z10 z11 z12 z13 hp hi hU hacc h
    have hi2 : (A.ru (8 + t)).length ≤ i := by have := congrArg List.length hU; rw [List.length_drop] at this; simp at this; omega
    cases p <;> exact r_end hd ht h (by omega)
  | cons y U ih =>
    obtain ⟨s, m⟩ := y
    intro i v p acc f z7 z8 z9 z10 z11 z12 z13 hp hi hU hacc h
    have hx : (A.ru (8 + t))[i]? = some (s, m) := by rw [← List.head?_drop, hU]; rfl
    have hilt : i < (A.ru (8 + t)).length := (List.getElem?_eq_some_iff.mp hx).1
    have hU2 : (A.ru (8 + t)).drop (i + 1) = U := by rw [← List.tail_drop, hU]; rfl
    have hlen := ((h.ta ht).cell).1
    obtain ⟨hm1, hm2⟩ := hv (s, m) (List.mem_of_getElem? hx)
    dsimp only at hm1 hm2
    cases p with
    | succ p =>
      exact (ih (i + 1) v p acc f z7 z8 z9 z10 z11 z12 z13 (by omega) (by omega) hU2 (by omega) h).step (Ag.rf _ _ _ _) (keeps_rf _) (fun r h1 hE => r_skip hd ht h hx (by omega) hE)
    | zero =>
      have hgo : aGo A Sd So (8 + t) ((s, m) :: U) i v 0 acc = match aOpd A Sd So (8 + t) s m i acc with
        | .inl z => z
        | .inr (acc', b) => if s_fsort s v b (s_worked s v b) = 0 then aGo A Sd So (8 + t) U (i + 1) (s_worked s v b) (aPass s (s_worked s v b) m) acc' else (acc', .inl [(0, nI (8 + t), s_fsort s v b (s_worked s v b), nI i)]) := rfl
      rw [hgo]
      by_cases hs : s_asks s = true
      · have hm := hm2 hs
        unfold aOpd
        rw [if_pos hs]
        by_cases hin : 8 ≤ m ∧ So m = true
        · rw [if_pos hin]
          exact r_ring (x := (s, m)) hd ht h hx hs (by rw [isIn_key hSo hm]; simp [hin.1, hin.2])
        · rw [if_neg hin]
          have hinf : s_isIn op (nI m) = false := by
            rw [isIn_key hSo hm]
            cases hso : So m with
            | false => simp
            | true => simp; rcases Nat.lt_or_ge m 8 with q | q; exact q; exact absurd ⟨q, hso⟩ hin
          by_cases hdn : 8 ≤ m ∧ Sd m = false
          · rw [if_pos hdn]
            exact r_off (x := (s, m)) hd ht h hx hs hinf (l_X0_runOnce_92_no hd h.1 hSd hdn.1 hm hdn.2 _ _ _ _ _ _ _ _)
          · rw [if_neg hdn]
            obtain ⟨q, hq, hc⟩ := l_X0_runOnce_92 (B := B) (D := D) (n := n) (w := w) hd h.1 hSd h.2.2.1 hm (fun h8 => by cases hh : Sd m with | true => rfl | false => exact absurd ⟨h8, hh⟩ hdn)
            rw [aHas_set] at hc
            cases hr : aHas A m with
            | none =>
              rw [hr] at hc
              have hq0 : q = none := hc
              subst hq0
              exact r_off (x := (s, m)) hd ht h hx hs hinf (hq _ _ _ _ _ _ _ _)
            | some rr =>
              rw [hr] at hc
              obtain ⟨p0, hp0, hch⟩ := hc
              subst hp0
              obtain ⟨g, hN, hWg, hAg, hkg, hwg⟩ := c_note (B := B) (D := D) (n := n) (w := w) h.2.2.1 ht (acc := acc) (by simp only [AW.set, AW.tr, va_up_self]) (by omega) hm hch h.2.2.2
              have htop := h.2.2.1.top h.2.2.2
              rw [AW.set_set] at hWg
              have hrs : (A.set (8 + t) (A.rs (8 + t)) (some acc)).rs (8 + t) = A.rs (8 + t) := by simp only [AW.set, AW.rs, va_up_self]
              rw [hrs] at hWg
              have hAb : Ag f g b (b + 111) n := (hAg n).wide (by omega) (by omega)
              have hb := h.2.2.2.lt h.1
              have hb2 := h.2.2.2.lt h.2.1
              have hROg : RO g n b t A (accNote acc m rr) cn dn op sb sr po sp cu wt dk := ⟨by rw [hAg n _ hb (by omega)]; exact h.1, by rw [hAg n _ hb2 (by omega)]; exact h.2.1, hWg, hwg⟩
              cases rr with
              | nil => cases hch
              | cons y rr =>
                obtain ⟨c, k, s0, tt⟩ := y
                obtain ⟨p1, q', e1, hcell, hrr⟩ := hch
                cases e1
                dsimp only
                rw [isF_ch]
                by_cases hs0 : s0 = 0
                · rw [if_neg (by simp [hs0])]
                  have htl : toldL ((c, k, s0, tt) :: rr) = c := by simp [toldL, hs0]
                  rw [htl]
                  dsimp only
                  have hnl := @accNote_len acc m ((c, k, s0, tt) :: rr)
                  exact (r_tail (bb := c.toInt64) (Sd := Sd) (So := So) (U := U) hd ht hx hROg (fun v' p' y7 y8 y9 y10 y11 y12 y13 hp' => ih (i + 1) v' p' _ g y7 y8 y9 y10 y11 y12 y13 hp' (by omega) hU2 (by omega) hROg) (by omega)).step hAb hkg (fun r h1 hE => r_got (x := (s, m)) hd ht h hx hs hinf (hq _ _ _ _ _ _ _ _) hN hROg hAb hkg (hkg _ _ hcell) (ch_keep hkg _ _ hrr) hs0 hE)
                · rw [if_pos (by simp [hs0])]
                  exact r_needs (x := (s, m)) hd ht h hx hs hinf (hq _ _ _ _ _ _ _ _) hN hROg hAb hkg (hkg _ _ hcell) (ch_keep hkg _ _ hrr) hs0
      · have hs' : s_asks s = false := by simpa using hs
        have ho : aOpd A Sd So (8 + t) s m i acc = .inr (acc, (nI m).toInt64) := by unfold aOpd; rw [if_neg hs]
        rw [ho]
        dsimp only
        exact (r_tail (bb := (nI m).toInt64) (Sd := Sd) (So := So) (U := U) hd ht hx h (fun v' p' y7 y8 y9 y10 y11 y12 y13 hp' => ih (i + 1) v' p' _ f y7 y8 y9 y10 y11 y12 y13 hp' (by omega) hU2 (by omega) h) (by omega)).step (Ag.rf _ _ _ _) (keeps_rf _) (fun r h1 hE => r_plain (x := (s, m)) hd ht h hx hs' hE)
/-- what a RUN's contract says -/
def OPost (B : Nat) (D : va_G) (n w : Nat) (f : Nat → Option va_E) (b t : Nat) (A : AW) (cn : Nat) (dn op sb sr po sp cu : Int32) (dk : Nat → Int32) (z : aAcc × (List Q4 ⊕ Nat)) : Prop := match z.2 with
  | .inl r => ∃ (g : Nat → Option va_E) (p : Nat) (wt : Int32), CT B D 6 mX0_runOnce [.ref b, .int (nI (8 + t)), .ref (b + 1 + 5 + 5 * t)] (n, w, f) (some (.ref p)) (n + 1, w + 5, g) ∧ RO g (n + 1) b t A z.1 cn dn op sb sr po sp cu wt dk ∧ ch g r (some p) ∧ Ag f g b (b + 111) n ∧ keeps f g
  | .inr m => ∃ g : Nat → Option va_E, CT B D 6 mX0_runOnce [.ref b, .int (nI (8 + t)), .ref (b + 1 + 5 + 5 * t)] (n, w, f) (some .null) (n, w, g) ∧ RO g n b t A z.1 cn dn op sb sr po sp cu (nI m) dk ∧ Ag f g b (b + 111) n ∧ keeps f g
theorem c_X0_runOnce {f : Nat → Option va_E} {t cn : Nat} {dn op sb sr po sp cu wt : Int32} {dk : Nat → Int32} {Sd So : Nat → Bool} (ht : t < 16) (hSd : IsSet dn Sd) (hSo : IsSet op So) (hv : ∀ x, x ∈ A.ru (8 + t) → x.2 < 100 ∧ (s_asks x.1 = true → x.2 < 24)) (hb : f b = some (bcell b cn dn op sb sr po sp cu wt)) (hk : f (b + 110) = some (.inl (0, 16, .inl dk))) (hW : IsW f (b + 1) A) (hwf : wfH f n) : OPost B D n w f b t A cn dn op sb (sr + 1) po sp cu dk (aGo A Sd So (8 + t) (A.ru (8 + t)) 0 0 0 []) := by
  have htop := hW.top hwf
  have hbn := hwf.lt hb
  have hkn := hwf.lt hk
  have k1 : keeps f (va_up f b (some (bcell b cn dn op sb (sr + 1) po sp cu wt))) := keeps_at hb (fun fs e => by cases e)
  have A1 : Ag f (va_up f b (some (bcell b cn dn op sb (sr + 1) po sp cu wt))) b (b + 1) n := (Ag.rf _ _ _ _).up (by omega) (by omega)
  have W1 := hW.ag A1 (by omega) (Or.inr (by omega)) k1
  obtain ⟨c, q, l, sg, fg, tk, tp, h1, h2, h3, h4, h5, h6⟩ := W1.2.2.2.2.2 t ht
  have k2 : keeps (va_up f b (some (bcell b cn dn op sb (sr + 1) po sp cu wt))) (va_up (va_up f b (some (bcell b cn dn op sb (sr + 1) po sp cu wt))) (b + 1 + 5 + 5 * t) (some (tcell (b + 1 + 5 + 5 * t) c q 0))) := keeps_at h1.1 (fun fs e => by cases e)
  have A2 : Ag (va_up f b (some (bcell b cn dn op sb (sr + 1) po sp cu wt))) (va_up (va_up f b (some (bcell b cn dn op sb (sr + 1) po sp cu wt))) (b + 1 + 5 + 5 * t) (some (tcell (b + 1 + 5 + 5 * t) c q 0))) (b + 1 + 5 + 5 * t) (b + 1 + 5 + 5 * t + 5) n := (Ag.rf _ _ _ _).up (by omega) (by omega)
  have W2 := W1.setT ht htop A2 k2 (rs := A.rs (8 + t)) (tr := some []) ⟨c, q, 0, sg, fg, tk, tp, ⟨va_up_self _ _ _, by rw [va_up_ne _ _ (by omega)]; exact h1.2.1, by rw [va_up_ne _ _ (by omega)]; exact h1.2.2.1, by rw [va_up_ne _ _ (by omega)]; exact h1.2.2.2.1, by rw [va_up_ne _ _ (by omega)]; exact h1.2.2.2.2⟩, h2, h3, h4, ⟨chO_keep k2 h5.1, h5.2.keep k2⟩, by simp, rfl, fun i x hx => by simp at hx⟩
  have R2 : RO (va_up (va_up f b (some (bcell b cn dn op sb (sr + 1) po sp cu wt))) (b + 1 + 5 + 5 * t) (some (tcell (b + 1 + 5 + 5 * t) c q 0))) n b t A [] cn dn op sb (sr + 1) po sp cu wt dk := ⟨by rw [va_up_ne _ _ (by omega), va_up_self], by rw [va_up_ne _ _ (by omega), va_up_ne _ _ (by omega)]; exact hk, W2, (hwf.up hbn).up (by omega)⟩
  have hP := r_loop (B := B) (D := D) (w := w) (d := 6) (by omega) ht hSd hSo hv (A.ru (8 + t)) 0 0 0 [] _ none none none none none none none (by omega) (Nat.zero_le _) rfl (by simp) R2
  have A3 : Ag f (va_up (va_up f b (some (bcell b cn dn op sb (sr + 1) po sp cu wt))) (b + 1 + 5 + 5 * t) (some (tcell (b + 1 + 5 + 5 * t) c q 0))) b (b + 111) n := (A1.wide (Nat.le_refl _) (by omega)).tra (A2.wide (by omega) (by omega)) (Nat.le_refl _)
  have key : ∀ (r : Option Value) (h1' : pm_H), pm_rok (some (.object "BuildEngine$Result")) r → EX B D 6 mX0_runOnce 22 [some (.ref b), some (.int (nI (8 + t))), some (.ref (b + 1 + 5 + 5 * t)), some (.long 0), none, some (.int (nI 0)), some (.int (nI 0)), none, none, none, none, none, none, none] [] (n, w, va_up (va_up f b (some (bcell b cn dn op sb (sr + 1) po sp cu wt))) (b + 1 + 5 + 5 * t) (some (tcell (b + 1 + 5 + 5 * t) c q 0))) r h1' → CT B D 6 mX0_runOnce [.ref b, .int (nI (8 + t)), .ref (b + 1 + 5 + 5 * t)] (n, w, f) r h1' := by
    intro r h1' hr hE
    refine CT.of [some (.ref b), some (.int (nI (8 + t))), some (.ref (b + 1 + 5 + 5 * t)), none, none, none, none, none, none, none, none, none, none, none] rfl (Nat.le_of_ble_eq_true rfl) pl_X0 hr ?_
    refine px_aload_n dX0_runOnce_0 rfl ?_
    refine px_dup dX0_runOnce_1 rfl ?_
    refine px_getfield fl_X0_35 dX0_runOnce_2 (by first | exact hb | exact h1.1) (by rfl) ?_
    refine px_iconst (v := 1) dX0_runOnce_5 (by decide) ?_
    refine px_iadd dX0_runOnce_6 ?_
    refine px_putfield fp_X0_35 dX0_runOnce_7 (by first | exact hb | exact h1.1) rfl rfl (by simp) ?_
    refine px_aload_n dX0_runOnce_10 rfl ?_
    refine px_callV0 (ν := mX4_startTrace) (ci := 4) rfl rfl lk_X0_130 in_X4_startTrace se_X4_startTrace mok_X4_startTrace dX0_runOnce_11 (c_X4_startTrace h1) (by first | exact hb | exact h1.1) rfl rfl (by omega) (by simp) ?_
    refine px_lconst (v := 0) dX0_runOnce_14 (by decide) ?_
    refine px_lstore3 rfl dX0_runOnce_15 ?_
    refine px_iconst (v := 0) dX0_runOnce_16 (by decide) ?_
    refine px_istore5 rfl dX0_runOnce_17 ?_
    refine px_iconst (v := 0) dX0_runOnce_19 (by decide) ?_
    refine px_istore6 rfl dX0_runOnce_20 ?_
    exact hE
  unfold RPost at hP
  unfold OPost
  rcases hz : aGo A Sd So (8 + t) (A.ru (8 + t)) 0 0 0 [] with ⟨acc, r | m⟩
  · rw [hz] at hP
    obtain ⟨g, p, g1, g2, g3, g4, g5⟩ := hP
    exact ⟨g, p, wt, key _ _ trivial g1, g2, g3, A3.tra g4 (Nat.le_refl _), keeps_tr (keeps_tr k1 k2) g5⟩
  · rw [hz] at hP
    obtain ⟨g, g1, g2, g3, g4⟩ := hP
    exact ⟨g, key _ _ trivial g1, g2, A3.tra g3 (Nat.le_refl _), keeps_tr (keeps_tr k1 k2) g4⟩
end M21
