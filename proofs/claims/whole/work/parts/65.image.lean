/-! the reference: THE IMAGE, BUILDS, ORDER -/
section M65a
variable {B : Nat} {D : va_G} {d : Nat} {μ : pm_M} {pc : Nat} {ls : pm_Ls} {st : List Value} {n w r0 : Nat} {f : Nat → Option va_E} {M : MS} {r : Option Value} {h1 : pm_H}
theorem px_bastoreY {a m : Nat} {g : Nat → Int32} {i x y : Int32} (hd : decode μ.2.1 pc = .ok (.bastore, 1)) (ha : f a = some (.inl (2, m, .inl g))) (hi : 0 ≤ i.toInt ∧ i.toInt < m) (hn : narrow .boolean (.int x) = .int y) (kk : EX B D d μ (pc + 1) ls st (n, w, va_up f a (some (.inl (2, m, .inl (va_up g i.toNatClampNeg y))))) r h1) : EX B D d μ pc ls (.int x :: .int i :: .ref a :: st) (n, w, f) r h1 := by
  refine ⟨kk.1, fun p l e R s m' args below meth c H locs lsA n0 w0 Q cx hl hR hlo e1 e2 e3 e4 hq => ?_⟩
  obtain ⟨hBa, cA, hA, hRA, hc⟩ := pm_arr (hR.2.2 a _ ha) (by decide)
  have hin := pm_rin hi
  refine W.zast cx.1 cx.2.1 hc (hA m (fun j => .int (g j))) (fun q => by cases q) (by show ¬ (i < 0 ∨ (arrV _ _ _).slots.size ≤ _); rw [arrV_size]; exact hin) rfl rfl hd fun H1 g1 z oq => ?_
  refine kk.2 p l e R s m' args below meth c H1 _ lsA n0 w0 Q cx hl (hR.set (pm_arr' (by decide) ⟨hBa, cA, hA, hRA, ?_⟩) z oq) (pm_lo hlo hBa) e1 e2 e3 e4 hq
  rw [g1, hn, vp_cell_i, vp_cell_i, arrV_store]
  congr 2
  funext q
  by_cases hq : q = i.toNatClampNeg
  · subst hq
    simp [updV, va_up]
  · simp [updV, va_up, hq]
/-- whatever the number: something is stored -/
theorem mx_bastoreY {j m q : Nat} {i x : Int32} (hd : decode μ.2.1 pc = .ok (.bastore, 1)) (hj : 1 ≤ j ∧ j < 18 ∧ mty j = 2 ∧ mln j = m) (hi : i = nI q) (hq : q < m) (kk : ∀ y : Int32, narrow .boolean (.int x) = .int y → EX B D d μ (pc + 1) ls st (n, w, mH r0 f (M.sa j q y)) r h1) : EX B D d μ pc ls (.int x :: .int i :: .ref (r0 + j) :: st) (n, w, mH r0 f M) r h1 := by
  obtain ⟨y, hy⟩ : ∃ y : Int32, narrow .boolean (.int x) = .int y := ⟨_, rfl⟩
  obtain ⟨j1, j2, j3, j4⟩ := hj
  have hm := mln_le j
  subst hi j4
  refine px_bastoreY (m := mln j) (g := M.2.1 j) hd (by rw [mH_i j1 j2, j3]) (nI_in2 hq hm) hy ?_
  rw [nI_clamp (by omega), mH_seta j1 j2 j3 rfl]
  exact kk y hy
end M65a
theorem px_z {B : Nat} {D : va_G} {d : Nat} {μ : pm_M} {pc : Nat} {ls : pm_Ls} {st : List Value} {h : pm_H} {r : Option Value} {h1 : pm_H} {z : Int32} {p : Bool} (hz : z = bi p) (kk : EX B D d μ pc ls (.int (bi p) :: st) h r h1) : EX B D d μ pc ls (.int z :: st) h r h1 := by
  subst hz; exact kk
theorem sin_s (k : Int32) : s_isInL k.toInt64 0 1 = s_isStops k := by
  rw [sin_lt (x := 0) (y := 1) (by decide) (by decide)]
  unfold s_isStops
  rw [Bool.eq_iff_iff]
  simp only [Bool.and_eq_true, Bool.or_eq_true, decide_eq_true_eq, ← Int32.toInt_inj]
  rw [show (0 : Int32).toInt = 0 by decide, show (1 : Int32).toInt = 1 by decide]
  omega
theorem sin_b (k : Int32) : s_isInL k.toInt64 0 65535 = !decide (k < 0 ∨ 65535 < k) := by
  rw [sin_lt (x := 0) (y := 65535) (by decide) (by decide), Bool.eq_iff_iff]
  simp only [Bool.and_eq_true, Bool.not_eq_true', decide_eq_true_eq, decide_eq_false_iff_not, Int32.lt_iff_toInt_lt]
  rw [show (0 : Int32).toInt = 0 by decide, show (65535 : Int32).toInt = 65535 by decide]
  omega
section M65
variable {B : Nat} {D : va_G} {n w r : Nat} {f : Nat → Option va_E} {bk : BK} {M : MS} {C : CS}
theorem aCount_hv (A : AW) : cntF (t_hv A 1) 16 0 0 = aCount A := cntF_shift (fun k => (aHas A k).isSome) 16 0 0
theorem m_image (h : RP bk M C) : RQ B D n w r f 5 mX7_image [] bk M (.int (v_image C).1) (v_image C).2 := by
  obtain ⟨g, hC, hg⟩ := c_X7_pours_56 (B := B) (D := D) (n := n) (w := w) (r := r) (f := f) (M := M)
  obtain ⟨h1, h2, h3, h4, h7, h8⟩ := h
  have h5 : NW bk noX (((M.seta 6 g).sets 8 1).2.1 5) C.1.1.A := h2.1
  have e6 : ((M.seta 6 g).sets 8 1).2.1 6 = g := by
    show va_up M.2.1 6 g 6 = g
    rw [va_up_self]
  refine ⟨(M.seta 6 g).sets 8 1, bk, ?_, ⟨h1.of rfl (fun j a b => va_up_ne _ _ (by omega)), ⟨h5, h2.2⟩, ⟨rfl, fun _ => ⟨?_, h2.2⟩⟩, h4, h7, h8⟩, by omega⟩
  · refine CT.of [some (.ref r)] rfl (Nat.le_of_ble_eq_true rfl) pl_X7 trivial ?_
    refine px_aload_n dX7_image_0 rfl ?_
    refine mx_get fl_X7_48 dX7_image_1 rfl ?_
    refine px_aload_n dX7_image_4 rfl ?_
    refine mx_get fl_X7_51 dX7_image_5 rfl ?_
    refine px_callS0 (ν := mX7_pours) lk_X7_204 st_X7_pours mok_X7_pours dX7_image_8 (hC) rfl rfl (by omega) (by simp) ?_
    refine px_aload_n dX7_image_11 rfl ?_
    refine px_iconst (v := 1) dX7_image_12 (by decide) ?_
    refine mx_put fp_X7_241 dX7_image_13 rfl rfl (by decide) rfl ?_
    refine px_aload_n dX7_image_16 rfl ?_
    refine px_iconst (v := 1) dX7_image_17 (by decide) ?_
    refine px_callV1 (ν := mX7_having) (ci := 7) rfl rfl lk_X7_231 in_X7_having se_X7_having mok_X7_having dX7_image_18 (c_X7_having_1 h5) (by exact mH_0) rfl rfl (by omega) (by simp) ?_
    exact px_reti dX7_image_21 (by rw [aCount_hv]; rfl) (by rfl)
  · rw [e6]
    exact h2.1.ag List.prefix_rfl hg
theorem l_X7_undo_23 {d : Nat} : ∀ (k j : Nat) (M : MS), j + k = 24 → ∃ M' : MS, (∀ rr h1, EX B D d mX7_undo 42 [some (.ref r), some (.int (nI 24))] [] (n, w, mH r f M') rr h1 → EX B D d mX7_undo 23 [some (.ref r), some (.int (nI j))] [] (n, w, mH r f M) rr h1) ∧ M'.1 = M.1 ∧ M'.2.2 = M.2.2 ∧ ∀ i, i ≠ 9 → M'.2.1 i = M.2.1 i
  | 0, j, M, hj => by
    have : j = 24 := by omega
    subst this
    refine ⟨M, fun rr h1 hk => ?_, rfl, rfl, fun _ _ => rfl⟩
    refine px_iload_n dX7_undo_23 rfl ?_
    refine px_bipush (v := 24) dX7_undo_24 (by decide) ?_
    refine px_icmp_ge (tgt := 42) dX7_undo_26 (by decide) (fun hc26 => ?_) (fun hc26 => ?_)
    · exact hk
    · exact absurd (by decide) hc26
  | k + 1, j, M, hj => by
    obtain ⟨M', e1, e2, e3, e4⟩ := l_X7_undo_23 (d := d) k (j + 1) (M.sa 9 j 0) (by omega)
    refine ⟨M', fun rr h1 hk => ?_, e2, e3, fun i hi => (e4 i hi).trans (va_up_ne _ _ hi)⟩
    have e1 := e1 rr h1 hk
    refine px_iload_n dX7_undo_23 rfl ?_
    refine px_bipush (v := 24) dX7_undo_24 (by decide) ?_
    refine px_icmp_ge (tgt := 42) dX7_undo_26 (by decide) (fun hc26 => ?_) (fun hc26 => ?_)
    · exact absurd hc26 (nI_ge (a := j) (b := 24) (by omega) (by omega))
    · refine px_aload_n dX7_undo_29 rfl ?_
      refine mx_get fl_X7_60 dX7_undo_30 rfl ?_
      refine px_iload_n dX7_undo_33 rfl ?_
      refine px_iconst (v := 0) dX7_undo_34 (by decide) ?_
      refine mx_bastore (j := 9) (m := 24) (q := j) dX7_undo_35 (by decide) (by first | rfl | (simp (disch := omega) only [li0, li1, li2, li3, li5, li6, li8, li9, li10, li12, li13, li16, li20, li24, li25, li100, li408, li424, li824, nI_add, nI_mul, nI_sub]; first | done | rfl | (congr 1; omega))) (by omega) (by first | exact Or.inl rfl | exact Or.inr rfl | exact bi_01 _) ?_
      refine px_iinc1 rfl (nI_inc j) dX7_undo_36 ?_
      refine px_goto (tgt := 23) dX7_undo_39 (by decide) ?_
      exact e1
theorem m_undo (h : RP bk M C) : RQ B D n w r f 5 mX7_undo [] bk M (.int (v_undo C).1) (v_undo C).2 := by
  cases him : C.2.1.1 with
  | false =>
    have h0 : v_undo C = (-3, C) := by unfold v_undo; rw [if_neg (by rw [him]; decide)]
    rw [h0]
    refine RQ.same h ?_
    have h8 : M.1 8 = 0 := by rw [h.2.2.1.1, him]; rfl
    refine CT.of [some (.ref r), none] rfl (Nat.le_of_ble_eq_true rfl) pl_X7 trivial ?_
    refine px_aload_n dX7_undo_0 rfl ?_
    refine mx_get fl_X7_241 dX7_undo_1 rfl ?_
    refine px_if_ne (tgt := 10) dX7_undo_4 (by decide) (fun hc4 => ?_) (fun hc4 => ?_)
    · exact absurd h8 hc4
    · refine px_bipush (v := (-3)) dX7_undo_7 (by decide) ?_
      exact px_reti dX7_undo_9 (by rfl) (by rfl)
  | true =>
    have h0 : v_undo C = (aCount C.2.1.2, ((aForget (C.2.1.2, C.1.1.2), none), C.2)) := by unfold v_undo; rw [if_pos him]
    rw [h0]
    obtain ⟨g, hC, hg⟩ := c_X7_pours_65 (B := B) (D := D) (n := n) (w := w) (r := r) (f := f) (M := M)
    obtain ⟨M', e1, e2, e3, e4⟩ := l_X7_undo_23 (B := B) (D := D) (n := n) (w := w) (r := r) (f := f) (d := 5) 24 0 (M.seta 5 g) (by omega)
    obtain ⟨h1, h2, h3, ⟨h4, h5, h6⟩, h7, h8⟩ := h
    have h8' : ¬ M.1 8 = 0 := by rw [h3.1, him]; decide
    have e5 : M'.2.1 5 = g := by
      rw [e4 5 (by omega)]
      show va_up M.2.1 5 g 5 = g
      rw [va_up_self]
    have ea : ∀ i, i ≠ 9 → i ≠ 5 → M'.2.1 i = M.2.1 i := fun i a b => (e4 i a).trans (va_up_ne _ _ b)
    have es : M'.1 = M.1 := e2
    have el : M'.2.2 = M.2.2 := e3
    obtain ⟨i1, i2⟩ := h3.2 him
    have hN : NW bk noX (((M'.sets 14 0).sets 15 (-5)).2.1 5) C.2.1.2 := by
      show NW bk noX (M'.2.1 5) C.2.1.2
      rw [e5]; exact i1.ag List.prefix_rfl hg
    refine ⟨(M'.sets 14 0).sets 15 (-5), bk, ?_, ⟨h1.of (by show M'.1 4 = _; rw [es]) (fun j a b => ea j (by omega) (by omega)), ⟨hN, i2⟩, ⟨?_, fun _ => ⟨?_, i2⟩⟩, ⟨⟨rfl, fun i x hx => ?_, ?_, ?_, ?_, ?_⟩, Nat.zero_le _, rfl⟩, ⟨?_, h7.2.1, ?_⟩, ?_⟩, by omega⟩
    · refine CT.of [some (.ref r), none] rfl (Nat.le_of_ble_eq_true rfl) pl_X7 trivial ?_
      refine px_aload_n dX7_undo_0 rfl ?_
      refine mx_get fl_X7_241 dX7_undo_1 rfl ?_
      refine px_if_ne (tgt := 10) dX7_undo_4 (by decide) (fun hc4 => ?_) (fun hc4 => ?_)
      · refine px_aload_n dX7_undo_10 rfl ?_
        refine mx_get fl_X7_51 dX7_undo_11 rfl ?_
        refine px_aload_n dX7_undo_14 rfl ?_
        refine mx_get fl_X7_48 dX7_undo_15 rfl ?_
        refine px_callS0 (ν := mX7_pours) lk_X7_204 st_X7_pours mok_X7_pours dX7_undo_18 (hC) rfl rfl (by omega) (by simp) ?_
        refine px_iconst (v := 0) dX7_undo_21 (by decide) ?_
        refine px_istore1 rfl dX7_undo_22 ?_
        refine e1 _ _ ?_
        refine px_aload_n dX7_undo_42 rfl ?_
        refine px_iconst (v := 0) dX7_undo_43 (by decide) ?_
        refine mx_put fp_X7_144 dX7_undo_44 rfl rfl (by decide) rfl ?_
        refine px_aload_n dX7_undo_47 rfl ?_
        refine px_bipush (v := (-5)) dX7_undo_48 (by decide) ?_
        refine mx_put fp_X7_70 dX7_undo_50 rfl rfl (by decide) rfl ?_
        refine px_aload_n dX7_undo_53 rfl ?_
        refine px_iconst (v := 1) dX7_undo_54 (by decide) ?_
        refine px_callV1 (ν := mX7_having) (ci := 7) rfl rfl lk_X7_231 in_X7_having se_X7_having mok_X7_having dX7_undo_55 (c_X7_having_1 hN) (by exact mH_0) rfl rfl (by omega) (by simp) ?_
        exact px_reti dX7_undo_58 (by rw [aCount_hv]) (by rfl)
      · exact absurd hc4 h8'
    · show M'.1 8 = _
      rw [es]; exact h3.1
    · show NW bk noX (M'.2.1 6) C.2.1.2
      rw [ea 6 (by omega) (by omega)]; exact i1
    · have hx : ([] : List Nat)[i]? = some x := hx
      cases hx
    · show M'.1 16 = _; rw [es]; exact h4.2.2.1
    · show M'.1 17 = _; rw [es]; exact h4.2.2.2.1
    · show M'.1 18 = _; rw [es]; exact h4.2.2.2.2.1
    · show M'.1 19 = _; rw [es]; exact h4.2.2.2.2.2
    · show M'.1 10 = _; rw [es]; exact h7.1
    · show ∀ i, i < C.2.2.1.1 → M'.2.1 8 i = _
      rw [ea 8 (by omega) (by omega)]; exact h7.2.2
    · show RLs M' C.2.2.2
      intro i hi
      rw [ea 17 (by omega) (by omega), el]; exact h8 i hi
theorem m_order (h : RP bk M C) (i : Int32) : RQ B D n w r f 5 mX7_order [.int i] bk M (.int (v_order C i)) C := by
  refine RQ.same h ?_
  have h14 := h.2.2.2.1.1.1
  have hlen := h.2.2.2.1.2.1
  by_cases hi : i < 0
  · have h0 : v_order C i = -1 := by unfold v_order; rw [if_pos hi]
    rw [h0]
    refine CT.of [some (.ref r), some (.int i)] rfl (Nat.le_of_ble_eq_true rfl) pl_X7 trivial ?_
    refine px_iload_n dX7_order_0 rfl ?_
    refine px_if_ge (tgt := 8) dX7_order_1 (by decide) (fun hc1 => ?_) (fun hc1 => ?_)
    · exact absurd hi (Int32.not_lt.mpr hc1)
    · refine px_iconst (v := (-1)) dX7_order_4 (by decide) ?_
      refine px_goto (tgt := 27) dX7_order_5 (by decide) ?_
      exact px_reti dX7_order_27 (by rfl) (by rfl)
  · obtain ⟨j, hj, rfl⟩ := nI_of hi
    have hp : (0 : Int32) ≤ nI j := nI_pos' hj
    cases hx : C.1.1.ord[j]? with
    | some x =>
      have hjl := (List.getElem?_eq_some_iff.mp hx).1
      have h0 : v_order C (nI j) = nI x := by unfold v_order; rw [if_neg hi, nI_clamp hj, hx]
      rw [h0]
      have hv := h.2.2.2.1.1.2.1 j x hx
      have hge : ¬ M.1 14 ≤ nI j := by rw [h14]; exact nI_ge hjl (by omega)
      refine CT.of [some (.ref r), some (.int (nI j))] rfl (Nat.le_of_ble_eq_true rfl) pl_X7 trivial ?_
      refine px_iload_n dX7_order_0 rfl ?_
      refine px_if_ge (tgt := 8) dX7_order_1 (by decide) (fun hc1 => ?_) (fun hc1 => ?_)
      · refine px_iload_n dX7_order_8 rfl ?_
        refine px_aload_n dX7_order_9 rfl ?_
        refine mx_get fl_X7_144 dX7_order_10 rfl ?_
        refine px_icmp_ge (tgt := 25) dX7_order_13 (by decide) (fun hc13 => ?_) (fun hc13 => ?_)
        · exact absurd hc13 hge
        · refine px_aload_n dX7_order_16 rfl ?_
          refine mx_get fl_X7_67 dX7_order_17 rfl ?_
          refine px_iload_n dX7_order_20 rfl ?_
          refine mx_iaload (j := 11) (m := 16) (q := j) dX7_order_21 (by decide) (by first | rfl | (simp (disch := omega) only [li0, li1, li2, li3, li5, li6, li8, li9, li10, li12, li13, li16, li20, li24, li25, li100, li408, li424, li824, nI_add, nI_mul, nI_sub]; first | done | rfl | (congr 1; omega))) (by omega) ?_
          refine px_goto (tgt := 27) dX7_order_22 (by decide) ?_
          exact px_reti dX7_order_27 (by rw [hv]) (by rfl)
      · exact absurd hp hc1
    | none =>
      have hjl := List.getElem?_eq_none_iff.mp hx
      have h0 : v_order C (nI j) = -5 := by unfold v_order; rw [if_neg hi, nI_clamp hj, hx]
      rw [h0]
      have hge : M.1 14 ≤ nI j := by rw [h14]; exact nI_le hjl hj
      refine CT.of [some (.ref r), some (.int (nI j))] rfl (Nat.le_of_ble_eq_true rfl) pl_X7 trivial ?_
      refine px_iload_n dX7_order_0 rfl ?_
      refine px_if_ge (tgt := 8) dX7_order_1 (by decide) (fun hc1 => ?_) (fun hc1 => ?_)
      · refine px_iload_n dX7_order_8 rfl ?_
        refine px_aload_n dX7_order_9 rfl ?_
        refine mx_get fl_X7_144 dX7_order_10 rfl ?_
        refine px_icmp_ge (tgt := 25) dX7_order_13 (by decide) (fun hc13 => ?_) (fun hc13 => ?_)
        · refine px_bipush (v := (-5)) dX7_order_25 (by decide) ?_
          exact px_reti dX7_order_27 (by rfl) (by rfl)
        · exact absurd hge hc13
      · exact absurd hp hc1
/-- a BUILD over the whole picture -/
theorem RP.built {set : Int32} {stop : Bool} (h : RP bk M C) (hcap : ne bk + 16 ≤ 8900) : ∃ (M' : MS) (bk' : BK), CT B D 37 mX7_built [.ref r, .int set, .int (bi stop)] (n, w, mH r f M) (some (.int (nI (aAll set stop C.1.1).1.ord.length))) (n, w, mH r f M') ∧ RP bk' M' (aAll set stop C.1.1, C.2) ∧ ne bk' ≤ ne bk + 16 ∧ M'.1 16 = (aAll set stop C.1.1).1.st := by
  obtain ⟨h1, h2, h3, ⟨h4, h5, h6⟩, h7, h8⟩ := h
  obtain ⟨M', bk', g1, g2, g3, g4, g5, g6, g7, g8, g9, g10⟩ := c_X7_built (B := B) (D := D) (n := n) (w := w) (r := r) (f := f) (set := set) (stop := stop) h1 h2.1 h2.2 h4.2.2 hcap
  refine ⟨M', bk', g1, ⟨g2, ⟨g3, g4⟩, ?_, ⟨g5, g6, g7⟩, ?_, ?_⟩, g10, g5.2.2.1⟩
  · rw [g9.1 8 (by omega), g9.2.1 6 (by omega)]
    exact ⟨h3.1, fun e => ⟨(h3.2 e).1.ag g8 (fun _ _ => rfl), (h3.2 e).2⟩⟩
  · refine ⟨?_, h7.2.1, ?_⟩
    · rw [g9.1 10 (by omega)]; exact h7.1
    · rw [g9.2.1 8 (by omega)]; exact h7.2.2
  · intro i hi
    rw [g9.2.1 17 (by omega), g9.2.2]; exact h8 i hi
theorem m_build (h : RP bk M C) (hcap : ne bk + 16 ≤ 8900) (k : Int32) : RQ B D n w r f 50 mX7_build [.int k] bk M (.int (v_build C k).1) (v_build C k).2 := by
  by_cases hk : s_isTarget k = true
  · obtain ⟨t, ht, rfl⟩ := inT.mp hk
    obtain ⟨M', bk', g1, g2, g3, g4⟩ := h.built (B := B) (D := D) (n := n) (w := w) (r := r) (f := f) (set := s_bitOf (nI (8 + t))) (stop := false) hcap
    have h0 : v_build C (nI (8 + t)) = ((aAll (s_bitOf (nI (8 + t))) false C.1.1).1.st - C.1.1.st, (aAll (s_bitOf (nI (8 + t))) false C.1.1, C.2)) := by unfold v_build; rw [if_pos hk]
    rw [h0]
    have hbit : (1 : Int32) <<< ((nI (8 + t) - 8) &&& 31) = s_bitOf (nI (8 + t)) := by unfold s_bitOf; rw [if_pos hk]
    have h16 := h.2.2.2.1.1.2.2.1
    refine ⟨M', bk', ?_, g2, g3⟩
    refine CT.of [some (.ref r), some (.int (nI (8 + t))), none] rfl (Nat.le_of_ble_eq_true rfl) pl_X7 trivial ?_
    refine px_iload_n dX7_build_0 rfl ?_
    refine px_callS1 (ν := mX7_isTarget) lk_X7_101 st_X7_isTarget mok_X7_isTarget dX7_build_1 (cr_isTarget _) rfl rfl (by omega) (by simp) ?_
    refine px_ifb_ne (tgt := 9) dX7_build_4 (by decide) (fun hc4 => ?_) (fun hc4 => ?_)
    · refine px_aload_n dX7_build_9 rfl ?_
      refine mx_get fl_X7_178 dX7_build_10 rfl ?_
      refine px_istore2 rfl dX7_build_13 ?_
      refine px_aload_n dX7_build_14 rfl ?_
      refine px_iconst (v := 1) dX7_build_15 (by decide) ?_
      refine px_iload_n dX7_build_16 rfl ?_
      refine px_bipush (v := 8) dX7_build_17 (by decide) ?_
      refine px_isub dX7_build_19 ?_
      refine px_ishl dX7_build_20 ?_
      rw [hbit]
      refine px_iconst (v := 0) dX7_build_21 (by decide) ?_
      refine px_callV1 (ν := mX7_built) (ci := 7) rfl rfl lk_X7_197 in_X7_built se_X7_built mok_X7_built dX7_build_22 (g1) (by exact mH_0) rfl rfl (by omega) (by simp) ?_
      refine px_pop dX7_build_25 rfl ?_
      refine px_aload_n dX7_build_26 rfl ?_
      refine mx_get fl_X7_178 dX7_build_27 rfl ?_
      refine px_iload_n dX7_build_30 rfl ?_
      refine px_isub dX7_build_31 ?_
      exact px_reti dX7_build_32 (by rw [g4, h16]) (by rfl)
    · rw [hk] at hc4; cases hc4
  · have h0 : v_build C k = (-1, C) := by unfold v_build; rw [if_neg hk]
    rw [h0]
    refine RQ.same h ?_
    refine CT.of [some (.ref r), some (.int k), none] rfl (Nat.le_of_ble_eq_true rfl) pl_X7 trivial ?_
    refine px_iload_n dX7_build_0 rfl ?_
    refine px_callS1 (ν := mX7_isTarget) lk_X7_101 st_X7_isTarget mok_X7_isTarget dX7_build_1 (cr_isTarget _) rfl rfl (by omega) (by simp) ?_
    refine px_ifb_ne (tgt := 9) dX7_build_4 (by decide) (fun hc4 => ?_) (fun hc4 => ?_)
    · exact absurd hc4 hk
    · refine px_iconst (v := (-1)) dX7_build_7 (by decide) ?_
      exact px_reti dX7_build_8 (by rfl) (by rfl)
theorem m_all (h : RP bk M C) (hcap : ne bk + 16 ≤ 8900) (k : Int32) : RQ B D n w r f 50 mX7_all [.int k] bk M (.int (v_all C k).1) (v_all C k).2 := by
  have hs := sin_s k
  by_cases hk : s_isStops k = true
  · obtain ⟨M', bk', g1, g2, g3, g4⟩ := h.built (B := B) (D := D) (n := n) (w := w) (r := r) (f := f) (set := 65535) (stop := decide (k = 1)) hcap
    have h0 : v_all C k = (nI (aAll 65535 (decide (k = 1)) C.1.1).1.ord.length, (aAll 65535 (decide (k = 1)) C.1.1, C.2)) := by unfold v_all; rw [if_pos hk]
    rw [h0]
    rw [hk] at hs
    refine ⟨M', bk', ?_, g2, g3⟩
    refine CT.of [some (.ref r), some (.int k)] rfl (Nat.le_of_ble_eq_true rfl) pl_X7 trivial ?_
    have z1 : k = 1 → (1 : Int32) = bi (decide (k = 1)) := fun e => by rw [decide_eq_true e]; rfl
    have z0 : ¬ k = 1 → (0 : Int32) = bi (decide (k = 1)) := fun e => by rw [decide_eq_false e]; rfl
    refine px_iload_n dX7_all_0 rfl ?_
    refine px_i2l dX7_all_1 ?_
    refine px_lconst (v := 0) dX7_all_2 (by decide) ?_
    refine px_lconst (v := 1) dX7_all_3 (by decide) ?_
    refine px_callS1 (ν := mX7_isIn) lk_X7_7 st_X7_isIn mok_X7_isIn dX7_all_4 (c_X7_isIn _ _ _) rfl rfl (by omega) (by simp) ?_
    refine px_ifb_eq (tgt := 29) dX7_all_7 (by decide) (fun hc7 => ?_) (fun hc7 => ?_)
    · rw [hs] at hc7; cases hc7
    · refine px_aload_n dX7_all_10 rfl ?_
      refine px_ldc dX7_all_11 kc_X7_201 ?_
      refine px_iload_n dX7_all_13 rfl ?_
      refine px_iconst (v := 1) dX7_all_14 (by decide) ?_
      refine px_icmp_ne (tgt := 22) dX7_all_15 (by decide) (fun hc15 => ?_) (fun hc15 => ?_)
      · refine px_iconst (v := 0) dX7_all_22 (by decide) ?_
        refine px_z (p := decide (k = 1)) (by first | exact z1 hc15 | exact z0 hc15) ?_
        refine px_callV1 (ν := mX7_built) (ci := 7) rfl rfl lk_X7_197 in_X7_built se_X7_built mok_X7_built dX7_all_23 (g1) (by exact mH_0) rfl rfl (by omega) (by simp) ?_
        refine px_goto (tgt := 30) dX7_all_26 (by decide) ?_
        exact px_reti dX7_all_30 (by rfl) (by rfl)
      · refine px_iconst (v := 1) dX7_all_18 (by decide) ?_
        refine px_goto (tgt := 23) dX7_all_19 (by decide) ?_
        refine px_z (p := decide (k = 1)) (by first | exact z1 hc15 | exact z0 hc15) ?_
        refine px_callV1 (ν := mX7_built) (ci := 7) rfl rfl lk_X7_197 in_X7_built se_X7_built mok_X7_built dX7_all_23 (g1) (by exact mH_0) rfl rfl (by omega) (by simp) ?_
        refine px_goto (tgt := 30) dX7_all_26 (by decide) ?_
        exact px_reti dX7_all_30 (by rfl) (by rfl)
  · have h0 : v_all C k = (-1, C) := by unfold v_all; rw [if_neg hk]
    rw [h0]
    have hk' : s_isStops k = false := by simpa using hk
    rw [hk'] at hs
    refine RQ.same h ?_
    refine CT.of [some (.ref r), some (.int k)] rfl (Nat.le_of_ble_eq_true rfl) pl_X7 trivial ?_
    refine px_iload_n dX7_all_0 rfl ?_
    refine px_i2l dX7_all_1 ?_
    refine px_lconst (v := 0) dX7_all_2 (by decide) ?_
    refine px_lconst (v := 1) dX7_all_3 (by decide) ?_
    refine px_callS1 (ν := mX7_isIn) lk_X7_7 st_X7_isIn mok_X7_isIn dX7_all_4 (c_X7_isIn _ _ _) rfl rfl (by omega) (by simp) ?_
    refine px_ifb_eq (tgt := 29) dX7_all_7 (by decide) (fun hc7 => ?_) (fun hc7 => ?_)
    · refine px_iconst (v := (-1)) dX7_all_29 (by decide) ?_
      exact px_reti dX7_all_30 (by rfl) (by rfl)
    · rw [hs] at hc7; cases hc7
theorem m_some (h : RP bk M C) (hcap : ne bk + 16 ≤ 8900) (s k : Int32) : RQ B D n w r f 50 mX7_some [.int s, .int k] bk M (.int (v_some C s k).1) (v_some C s k).2 := by
  have hb := sin_b s
  have hs := sin_s k
  by_cases hsb : s < 0 ∨ 65535 < s
  · have h0 : v_some C s k = (-2, C) := by unfold v_some; rw [if_pos hsb]
    rw [h0]
    have hb' : s_isInL s.toInt64 0 65535 = false := by rw [hb, decide_eq_true hsb]; rfl
    refine RQ.same h ?_
    refine CT.of [some (.ref r), some (.int s), some (.int k)] rfl (Nat.le_of_ble_eq_true rfl) pl_X7 trivial ?_
    refine px_iload_n dX7_some_0 rfl ?_
    refine px_i2l dX7_some_1 ?_
    refine px_lconst (v := 0) dX7_some_2 (by decide) ?_
    refine px_ldc2 dX7_some_3 kc_X7_202 ?_
    refine px_callS1 (ν := mX7_isIn) lk_X7_7 st_X7_isIn mok_X7_isIn dX7_some_6 (c_X7_isIn _ _ _) rfl rfl (by omega) (by simp) ?_
    refine px_ifb_ne (tgt := 15) dX7_some_9 (by decide) (fun hc9 => ?_) (fun hc9 => ?_)
    · rw [hb'] at hc9; cases hc9
    · refine px_bipush (v := (-2)) dX7_some_12 (by decide) ?_
      exact px_reti dX7_some_14 (by rfl) (by rfl)
  · have hb' : s_isInL s.toInt64 0 65535 = true := by rw [hb, decide_eq_false hsb]; rfl
    by_cases hk : s_isStops k = true
    · obtain ⟨M', bk', g1, g2, g3, g4⟩ := h.built (B := B) (D := D) (n := n) (w := w) (r := r) (f := f) (set := s) (stop := decide (k = 1)) hcap
      have h0 : v_some C s k = (nI (aAll s (decide (k = 1)) C.1.1).1.ord.length, (aAll s (decide (k = 1)) C.1.1, C.2)) := by unfold v_some; rw [if_neg hsb, if_pos hk]
      rw [h0]
      rw [hk] at hs
      have z1 : k = 1 → (1 : Int32) = bi (decide (k = 1)) := fun e => by rw [decide_eq_true e]; rfl
      have z0 : ¬ k = 1 → (0 : Int32) = bi (decide (k = 1)) := fun e => by rw [decide_eq_false e]; rfl
      refine ⟨M', bk', ?_, g2, g3⟩
      refine CT.of [some (.ref r), some (.int s), some (.int k)] rfl (Nat.le_of_ble_eq_true rfl) pl_X7 trivial ?_
      refine px_iload_n dX7_some_0 rfl ?_
      refine px_i2l dX7_some_1 ?_
      refine px_lconst (v := 0) dX7_some_2 (by decide) ?_
      refine px_ldc2 dX7_some_3 kc_X7_202 ?_
      refine px_callS1 (ν := mX7_isIn) lk_X7_7 st_X7_isIn mok_X7_isIn dX7_some_6 (c_X7_isIn _ _ _) rfl rfl (by omega) (by simp) ?_
      refine px_ifb_ne (tgt := 15) dX7_some_9 (by decide) (fun hc9 => ?_) (fun hc9 => ?_)
      · refine px_iload_n dX7_some_15 rfl ?_
        refine px_i2l dX7_some_16 ?_
        refine px_lconst (v := 0) dX7_some_17 (by decide) ?_
        refine px_lconst (v := 1) dX7_some_18 (by decide) ?_
        refine px_callS1 (ν := mX7_isIn) lk_X7_7 st_X7_isIn mok_X7_isIn dX7_some_19 (c_X7_isIn _ _ _) rfl rfl (by omega) (by simp) ?_
        refine px_ifb_eq (tgt := 43) dX7_some_22 (by decide) (fun hc22 => ?_) (fun hc22 => ?_)
        · rw [hs] at hc22; cases hc22
        · refine px_aload_n dX7_some_25 rfl ?_
          refine px_iload_n dX7_some_26 rfl ?_
          refine px_iload_n dX7_some_27 rfl ?_
          refine px_iconst (v := 1) dX7_some_28 (by decide) ?_
          refine px_icmp_ne (tgt := 36) dX7_some_29 (by decide) (fun hc29 => ?_) (fun hc29 => ?_)
          · refine px_iconst (v := 0) dX7_some_36 (by decide) ?_
            refine px_z (p := decide (k = 1)) (by first | exact z1 hc29 | exact z0 hc29) ?_
            refine px_callV1 (ν := mX7_built) (ci := 7) rfl rfl lk_X7_197 in_X7_built se_X7_built mok_X7_built dX7_some_37 (g1) (by exact mH_0) rfl rfl (by omega) (by simp) ?_
            refine px_goto (tgt := 44) dX7_some_40 (by decide) ?_
            exact px_reti dX7_some_44 (by rfl) (by rfl)
          · refine px_iconst (v := 1) dX7_some_32 (by decide) ?_
            refine px_goto (tgt := 37) dX7_some_33 (by decide) ?_
            refine px_z (p := decide (k = 1)) (by first | exact z1 hc29 | exact z0 hc29) ?_
            refine px_callV1 (ν := mX7_built) (ci := 7) rfl rfl lk_X7_197 in_X7_built se_X7_built mok_X7_built dX7_some_37 (g1) (by exact mH_0) rfl rfl (by omega) (by simp) ?_
            refine px_goto (tgt := 44) dX7_some_40 (by decide) ?_
            exact px_reti dX7_some_44 (by rfl) (by rfl)
      · rw [hb'] at hc9; cases hc9
    · have h0 : v_some C s k = (-1, C) := by unfold v_some; rw [if_neg hsb, if_neg hk]
      rw [h0]
      have hk' : s_isStops k = false := by simpa using hk
      rw [hk'] at hs
      refine RQ.same h ?_
      refine CT.of [some (.ref r), some (.int s), some (.int k)] rfl (Nat.le_of_ble_eq_true rfl) pl_X7 trivial ?_
      refine px_iload_n dX7_some_0 rfl ?_
      refine px_i2l dX7_some_1 ?_
      refine px_lconst (v := 0) dX7_some_2 (by decide) ?_
      refine px_ldc2 dX7_some_3 kc_X7_202 ?_
      refine px_callS1 (ν := mX7_isIn) lk_X7_7 st_X7_isIn mok_X7_isIn dX7_some_6 (c_X7_isIn _ _ _) rfl rfl (by omega) (by simp) ?_
      refine px_ifb_ne (tgt := 15) dX7_some_9 (by decide) (fun hc9 => ?_) (fun hc9 => ?_)
      · refine px_iload_n dX7_some_15 rfl ?_
        refine px_i2l dX7_some_16 ?_
        refine px_lconst (v := 0) dX7_some_17 (by decide) ?_
        refine px_lconst (v := 1) dX7_some_18 (by decide) ?_
        refine px_callS1 (ν := mX7_isIn) lk_X7_7 st_X7_isIn mok_X7_isIn dX7_some_19 (c_X7_isIn _ _ _) rfl rfl (by omega) (by simp) ?_
        refine px_ifb_eq (tgt := 43) dX7_some_22 (by decide) (fun hc22 => ?_) (fun hc22 => ?_)
        · refine px_iconst (v := (-1)) dX7_some_43 (by decide) ?_
          exact px_reti dX7_some_44 (by rfl) (by rfl)
        · rw [hs] at hc22; cases hc22
      · rw [hb'] at hc9; cases hc9
end M65
