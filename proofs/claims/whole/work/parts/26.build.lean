/-! buildTarget -/
section M26
variable {B : Nat} {D : va_G} {b : Nat}
theorem c_X0_isStillSame {dd F d : Nat} (hdd : 4 ≤ dd) (hd : dd + 1 ≤ d) (hF : F ≤ 16) (hB : HB B D dd F b) {t n w : Nat} {f : Nat → Option va_E} {S : BS} (ht : t < 16) {sb : Int32} (h : IsB f b sb S) (hwf : wfH f n) (hv : vRu S.A) (hop : S.op (8 + t) = true) {T : aAcc} (hT : S.A.tr (8 + t) = some T) : ∃ (n' w' : Nat) (g : Nat → Option va_E), CT B D d mX0_isStillSame [.ref b, .ref (b + 1 + 5 + 5 * t), .int (nI (16 - F))] (n, w, f) (some (.int (bi (aLook (aBuild F) T S).2))) (n', w', g) ∧ Bd f g n n' w w' b sb S (aLook (aBuild F) T S).1 0 := by
  obtain ⟨n1, w1, g1, hE, hBd⟩ := l_X0_isStillSame_11 hdd hd hF hB ht T 0 n w f S none (Nat.zero_le _) rfl h hwf hv hT hop
  obtain ⟨dn, op, wt, dk, h1, h2, h3, h4, h5, h6, h7⟩ := id h
  have hta := h7.2.2.2.2.2 t ht
  have hh := hta.has (B := B) (D := D) (n := n) (w := w)
  rw [hT] at hh hta
  obtain ⟨h12, c, q, hcell⟩ := hta.tlen
  refine ⟨n1, w1, g1, ?_, hBd⟩
  refine CT.of [some (.ref b), some (.ref (b + 1 + 5 + 5 * t)), some (.int (nI (16 - F))), none, none] rfl (Nat.le_of_ble_eq_true rfl) pl_X0 (bi_01 _) ?_
  refine px_aload_n dX0_isStillSame_0 rfl ?_
  refine px_callV1 (ν := mX4_hasTrace) (ci := 4) rfl rfl lk_X0_88 in_X4_hasTrace se_X4_hasTrace mok_X4_hasTrace dX0_isStillSame_1 (hh) (by exact hcell) rfl rfl (by omega) (by simp) ?_
  refine px_ifb_ne (tgt := 9) dX0_isStillSame_4 (by decide) (fun hc4 => ?_) (fun hc4 => ?_)
  · refine px_iconst (v := 0) dX0_isStillSame_9 (by decide) ?_
    refine px_istore3 rfl dX0_isStillSame_10 ?_
    exact hE
  · cases hc4
theorem c_X0_isStillSame_none {d F : Nat} (hd : 1 ≤ d) {t n w : Nat} {f : Nat → Option va_E} {S : BS} (ht : t < 16) {sb : Int32} (h : IsB f b sb S) (hT : S.A.tr (8 + t) = none) : CT B D d mX0_isStillSame [.ref b, .ref (b + 1 + 5 + 5 * t), .int (nI (16 - F))] (n, w, f) (some (.int (bi false))) (n, w, f) := by
  obtain ⟨dn, op, wt, dk, h1, h2, h3, h4, h5, h6, h7⟩ := id h
  have hta := h7.2.2.2.2.2 t ht
  have hh := hta.has (B := B) (D := D) (n := n) (w := w)
  rw [hT] at hh
  obtain ⟨h12, q, l, hcell⟩ := hta.cell
  refine CT.of [some (.ref b), some (.ref (b + 1 + 5 + 5 * t)), some (.int (nI (16 - F))), none, none] rfl (Nat.le_of_ble_eq_true rfl) pl_X0 (bi_01 _) ?_
  refine px_aload_n dX0_isStillSame_0 rfl ?_
  refine px_callV1 (ν := mX4_hasTrace) (ci := 4) rfl rfl lk_X0_88 in_X4_hasTrace se_X4_hasTrace mok_X4_hasTrace dX0_isStillSame_1 (hh) (by exact hcell) rfl rfl (by omega) (by simp) ?_
  refine px_ifb_ne (tgt := 9) dX0_isStillSame_4 (by decide) (fun hc4 => ?_) (fun hc4 => ?_)
  · cases hc4
  · refine px_iconst (v := 0) dX0_isStillSame_7 (by decide) ?_
    exact px_reti dX0_isStillSame_8 (by rfl) (by rfl)
theorem t_close {d : Nat} (hd : 3 ≤ d) {t n w : Nat} {f : Nat → Option va_E} {S : BS} (ht : t < 16) {sb lev : Int32} (h : IsB f b sb S) (hwf : wfH f n) (hdn : S.dn (8 + t) = false) : ∃ g : Nat → Option va_E, EX B D d mX0_buildTarget 100 [some (.ref b), some (.int (nI (8 + t))), some (.int lev), some (.ref (b + 1 + 5 + 5 * t))] [] (n, w, f) none (n, w, g) ∧ IsB g b sb (aClose S (8 + t)) ∧ wfH g n ∧ Ag f g b (b + 111) n ∧ keeps f g ∧ cd (aClose S (8 + t)).dn = cd S.dn + 1 := by
  have hcd : cd (aClose S (8 + t)).dn = cd S.dn + 1 := cdN_up ht hdn
  obtain ⟨dn, op, wt, dk, h1, h2, h3, h4, h5, h6, h7⟩ := id h
  obtain ⟨p1, p2, p3, p4⟩ := h.cell (sb := sb) (T := (S.A, S.dn, va_up S.op (8 + t) false, S.2.2.2)) (cn := S.ord.length) (dn := dn) (op := op &&& (s_bitOf (nI (8 + t)) ^^^ -1)) (st := S.st) (po := S.po) (sp := S.sp) (cu := S.cu) (wt := wt) hwf rfl rfl rfl rfl rfl rfl rfl h4 (h5.andn ht)
  have hdk1 : va_up f b (some (bcell b S.ord.length dn (op &&& (s_bitOf (nI (8 + t)) ^^^ -1)) sb S.st S.po S.sp S.cu wt)) (b + 110) = some (.inl (0, 16, .inl dk)) := by rw [va_up_ne _ _ (by omega)]; exact h2
  have hbn := hwf.lt h1
  have hkn := hwf.lt h2
  by_cases hlen : S.ord.length < 16
  · have hcl : aClose S (8 + t) = (S.A, va_up S.dn (8 + t) true, va_up S.op (8 + t) false, S.ord ++ [8 + t], S.2.2.2.2) := by unfold aClose; rw [if_pos hlen]
    have k2 : keeps (va_up f b (some (bcell b S.ord.length dn (op &&& (s_bitOf (nI (8 + t)) ^^^ -1)) sb S.st S.po S.sp S.cu wt))) (va_up (va_up f b (some (bcell b S.ord.length dn (op &&& (s_bitOf (nI (8 + t)) ^^^ -1)) sb S.st S.po S.sp S.cu wt))) (b + 110) (some (.inl (0, 16, .inl (va_up dk S.ord.length (nI (8 + t))))))) := keeps_at hdk1 (fun fs e => by cases e)
    have A2 : ∀ N, Ag f (va_up (va_up (va_up f b (some (bcell b S.ord.length dn (op &&& (s_bitOf (nI (8 + t)) ^^^ -1)) sb S.st S.po S.sp S.cu wt))) (b + 110) (some (.inl (0, 16, .inl (va_up dk S.ord.length (nI (8 + t))))))) b (some (bcell b (S.ord.length + 1) (dn ||| s_bitOf (nI (8 + t))) (op &&& (s_bitOf (nI (8 + t)) ^^^ -1)) sb S.st S.po S.sp S.cu wt))) b (b + 111) N := fun N => ((((p3 N).wide (Nat.le_refl _) (by omega)).up (by omega) (by omega)).up (by omega) (by omega))
    have k3 := keeps_tr (keeps_tr p4 k2) (keeps_at (a := b) (e := some (bcell b (S.ord.length + 1) (dn ||| s_bitOf (nI (8 + t))) (op &&& (s_bitOf (nI (8 + t)) ^^^ -1)) sb S.st S.po S.sp S.cu wt)) (e0 := bcell b S.ord.length dn (op &&& (s_bitOf (nI (8 + t)) ^^^ -1)) sb S.st S.po S.sp S.cu wt) (by rw [va_up_ne _ _ (by omega), va_up_self]) (fun fs e => by cases e))
    have hW1 : IsW (va_up (va_up (va_up f b (some (bcell b S.ord.length dn (op &&& (s_bitOf (nI (8 + t)) ^^^ -1)) sb S.st S.po S.sp S.cu wt))) (b + 110) (some (.inl (0, 16, .inl (va_up dk S.ord.length (nI (8 + t))))))) b (some (bcell b (S.ord.length + 1) (dn ||| s_bitOf (nI (8 + t))) (op &&& (s_bitOf (nI (8 + t)) ^^^ -1)) sb S.st S.po S.sp S.cu wt))) (b + 1) S.A := by
      have hW0 := h7.ag (p3 n) (h7.top hwf) (Or.inr (Nat.le_refl _)) p4
      have hW2 := hW0.ag (lo := b + 110) (hi := b + 111) (n := n) ((Ag.rf _ _ _ _).up (Nat.le_refl _) (by omega)) (h7.top hwf) (Or.inl (by omega)) k2
      exact hW2.ag (lo := b) (hi := b + 1) (n := n) ((Ag.rf _ _ _ _).up (Nat.le_refl _) (by omega)) (h7.top hwf) (Or.inr (Nat.le_refl _)) (keeps_at (e0 := bcell b S.ord.length dn (op &&& (s_bitOf (nI (8 + t)) ^^^ -1)) sb S.st S.po S.sp S.cu wt) (by rw [va_up_ne _ _ (by omega), va_up_self]) (fun fs e => by cases e))
    refine ⟨_, ?_, ?_, ((hwf.up hbn).up hkn).up hbn, A2 n, k3, hcd⟩
    rotate_left
    · rw [hcl]
      refine ⟨dn ||| s_bitOf (nI (8 + t)), op &&& (s_bitOf (nI (8 + t)) ^^^ -1), wt, va_up dk S.ord.length (nI (8 + t)), ?_, ?_, ?_, h4.or ht, h5.andn ht, fun i x hx => ?_, hW1⟩
      · rw [va_up_self]; simp [BS.ord]
      · rw [va_up_ne _ _ (by omega), va_up_self]
      · show (S.ord ++ [8 + t]).length ≤ 16
        rw [List.length_append]; simp only [List.length_singleton]; omega
      · by_cases hil : i < S.ord.length
        · rw [va_up_ne _ _ (by omega)]
          exact h6 i x (by rw [← hx]; exact (List.getElem?_append_left hil).symm)
        · have hx' : (S.ord ++ [8 + t])[i]? = some x := hx
          rw [List.getElem?_append_right (by omega)] at hx'
          have hi0 : i - S.ord.length < 1 := (List.getElem?_eq_some_iff.mp hx').1
          have hi : i = S.ord.length := by omega
          subst hi
          rw [Nat.sub_self] at hx'
          cases hx'
          exact va_up_self _ _ _
    refine px_aload_n dX0_buildTarget_100 rfl ?_
    refine px_dup dX0_buildTarget_101 rfl ?_
    refine px_getfield fl_X0_32 dX0_buildTarget_102 (by first | exact h1 | exact va_up_self _ _ _) (by rfl) ?_
    refine px_iload_n dX0_buildTarget_105 rfl ?_
    refine px_callS1 (ν := mX0_bitOf) lk_X0_57 st_X0_bitOf mok_X0_bitOf dX0_buildTarget_106 (c_X0_bitOf _) rfl rfl (by omega) (by simp) ?_
    refine px_iconst (v := (-1)) dX0_buildTarget_109 (by decide) ?_
    refine px_ixor dX0_buildTarget_110 ?_
    refine px_iand dX0_buildTarget_111 ?_
    refine px_putfield fp_X0_32 dX0_buildTarget_112 (by first | exact h1 | exact va_up_self _ _ _) rfl rfl (by simp) ?_
    refine px_aload_n dX0_buildTarget_115 rfl ?_
    refine px_iload_n dX0_buildTarget_116 rfl ?_
    refine px_callV0 (ν := mX0_noteDone) (ci := 0) rfl rfl lk_X0_84 in_X0_noteDone se_X0_noteDone mok_X0_noteDone dX0_buildTarget_117 (c_X0_noteDone (va_up_self _ _ _) hdk1 hlen _) (by first | exact h1 | exact va_up_self _ _ _) rfl rfl (by omega) (by simp) ?_
    exact px_retv dX0_buildTarget_120 rfl (by rfl)
  · have hl16 : S.ord.length = 16 := by omega
    have hcl : aClose S (8 + t) = (S.A, va_up S.dn (8 + t) true, va_up S.op (8 + t) false, S.ord, S.2.2.2.2) := by unfold aClose; rw [if_neg hlen]
    obtain ⟨q1, q2, q3, q4⟩ := p1.cell (sb := sb) (T := (S.A, va_up S.dn (8 + t) true, va_up S.op (8 + t) false, S.ord, S.2.2.2.2)) (cn := S.ord.length) (dn := dn ||| s_bitOf (nI (8 + t))) (op := op &&& (s_bitOf (nI (8 + t)) ^^^ -1)) (st := S.st) (po := S.po) (sp := S.sp) (cu := S.cu) (wt := wt) p2 rfl rfl rfl rfl rfl rfl rfl (h4.or ht) (h5.andn ht)
    refine ⟨_, ?_, by rw [hcl]; exact q1, q2, ((p3 n).tra (q3 n) (Nat.le_refl _)).wide (Nat.le_refl _) (by omega), keeps_tr p4 q4, hcd⟩
    refine px_aload_n dX0_buildTarget_100 rfl ?_
    refine px_dup dX0_buildTarget_101 rfl ?_
    refine px_getfield fl_X0_32 dX0_buildTarget_102 (by first | exact h1 | exact va_up_self _ _ _) (by rfl) ?_
    refine px_iload_n dX0_buildTarget_105 rfl ?_
    refine px_callS1 (ν := mX0_bitOf) lk_X0_57 st_X0_bitOf mok_X0_bitOf dX0_buildTarget_106 (c_X0_bitOf _) rfl rfl (by omega) (by simp) ?_
    refine px_iconst (v := (-1)) dX0_buildTarget_109 (by decide) ?_
    refine px_ixor dX0_buildTarget_110 ?_
    refine px_iand dX0_buildTarget_111 ?_
    refine px_putfield fp_X0_32 dX0_buildTarget_112 (by first | exact h1 | exact va_up_self _ _ _) rfl rfl (by simp) ?_
    refine px_aload_n dX0_buildTarget_115 rfl ?_
    refine px_iload_n dX0_buildTarget_116 rfl ?_
    refine px_callV0 (ν := mX0_noteDone) (ci := 0) rfl rfl lk_X0_84 in_X0_noteDone se_X0_noteDone mok_X0_noteDone dX0_buildTarget_117 (c_X0_noteDone_full (va_up_self _ _ _) hl16 _) (by first | exact h1 | exact va_up_self _ _ _) rfl rfl (by omega) (by simp) ?_
    exact px_retv dX0_buildTarget_120 rfl (by rfl)
theorem t_open {d : Nat} (hd : 3 ≤ d) {t n w L : Nat} {f : Nat → Option va_E} {S : BS} (ht : t < 16) {sb : Int32} (h : IsB f b sb S) (hwf : wfH f n) (hdn : S.dn (8 + t) = false) (hop : S.op (8 + t) = false) (hL : L ≤ 16) : ∃ g : Nat → Option va_E, (∀ h1, EX B D d mX0_buildTarget 49 [some (.ref b), some (.int (nI (8 + t))), some (.int (nI L)), some (.ref (b + 1 + 5 + 5 * t))] [] (n, w, g) none h1 → CT B D d mX0_buildTarget [.ref b, .int (nI (8 + t)), .int (nI L)] (n, w, f) none h1) ∧ IsB g b sb (aOpen S (8 + t)) ∧ wfH g n ∧ Ag f g b (b + 111) n ∧ keeps f g := by
  obtain ⟨dn, op, wt, dk, h1, h2, h3, h4, h5, h6, h7⟩ := id h
  obtain ⟨p1, p2, p3, p4⟩ := h.cell (sb := sb) (T := aOpen S (8 + t)) (cn := S.ord.length) (dn := dn) (op := op ||| s_bitOf (nI (8 + t))) (st := S.st) (po := S.po) (sp := S.sp) (cu := S.cu) (wt := wt) hwf rfl rfl rfl rfl rfl rfl rfl h4 (h5.or ht)
  refine ⟨_, fun h1' hE => ?_, p1, p2, (p3 n).wide (Nat.le_refl _) (by omega), p4⟩
  refine CT.of [some (.ref b), some (.int (nI (8 + t))), some (.int (nI L)), none] rfl (Nat.le_of_ble_eq_true rfl) pl_X0 trivial ?_
  refine px_aload_n dX0_buildTarget_0 rfl ?_
  refine px_getfield fl_X0_12 dX0_buildTarget_1 (by first | exact h1 | exact h7.1) (by rfl) ?_
  refine px_iload_n dX0_buildTarget_4 rfl ?_
  refine px_callV1 (ν := mX5_targetOf) (ci := 5) rfl rfl lk_X0_53 in_X5_targetOf se_X5_targetOf mok_X5_targetOf dX0_buildTarget_5 (c_X5_targetOf h7 ht) (by first | exact h1 | exact h7.1) rfl rfl (by omega) (by simp) ?_
  refine px_astore3 rfl dX0_buildTarget_8 ?_
  refine px_aload_n dX0_buildTarget_9 rfl ?_
  refine px_ifnull_f dX0_buildTarget_10 ?_
  refine px_aload_n dX0_buildTarget_13 rfl ?_
  refine px_getfield fl_X0_29 dX0_buildTarget_14 (by first | exact h1 | exact h7.1) (by rfl) ?_
  refine px_aload_n dX0_buildTarget_17 rfl ?_
  refine px_getfield fl_X0_32 dX0_buildTarget_18 (by first | exact h1 | exact h7.1) (by rfl) ?_
  refine px_ior dX0_buildTarget_21 ?_
  refine px_iload_n dX0_buildTarget_22 rfl ?_
  refine px_callS1 (ν := mX0_isIn) lk_X0_45 st_X0_isIn mok_X0_isIn dX0_buildTarget_23 (c_X0_isIn _ _) rfl rfl (by omega) (by simp) ?_
  refine px_ifb_ne (tgt := 35) dX0_buildTarget_26 (by decide) (fun hc26 => ?_) (fun hc26 => ?_)
  · rw [h4.union h5 ht, hdn, hop] at hc26; cases hc26
  · refine px_iload_n dX0_buildTarget_29 rfl ?_
    refine px_bipush (v := 16) dX0_buildTarget_30 (by decide) ?_
    refine px_icmp_le (tgt := 36) dX0_buildTarget_32 (by decide) (fun hc32 => ?_) (fun hc32 => ?_)
    · refine px_aload_n dX0_buildTarget_36 rfl ?_
      refine px_dup dX0_buildTarget_37 rfl ?_
      refine px_getfield fl_X0_32 dX0_buildTarget_38 (by first | exact h1 | exact h7.1) (by rfl) ?_
      refine px_iload_n dX0_buildTarget_41 rfl ?_
      refine px_callS1 (ν := mX0_bitOf) lk_X0_57 st_X0_bitOf mok_X0_bitOf dX0_buildTarget_42 (c_X0_bitOf _) rfl rfl (by omega) (by simp) ?_
      refine px_ior dX0_buildTarget_45 ?_
      refine px_putfield fp_X0_32 dX0_buildTarget_46 (by first | exact h1 | exact h7.1) rfl rfl (by simp) ?_
      exact hE
    · exact absurd (nI_le (a := L) (b := 16) hL (by omega)) hc32
theorem Kq_in (F k : Nat) (S : BS) : Kq k (aOpen S k) (aIn F k S) := by
  unfold aIn
  split
  · exact ⟨rfl, rfl, rfl, fun j hjk _ => ⟨va_up_ne _ _ hjk, va_up_ne _ _ hjk⟩, fun _ _ => rfl⟩
  · split
    · next T hT =>
      split
      · exact ((Kp_look (Kp_build F) T (aOpen S k)).q k).tra ⟨rfl, rfl, rfl, fun j _ _ => ⟨rfl, rfl⟩, fun _ _ => rfl⟩
      · exact ((Kp_look (Kp_build F) T (aOpen S k)).q k).tra (Kq_run (Kp_build F) k 16 _)
    · exact Kq_run (Kp_build F) k 16 _
/-- from the open state to the close -/
theorem t_body {dd F d : Nat} (hdd : 8 ≤ dd) (hd : dd + 2 ≤ d) (hF : F ≤ 16) (hB : HB B D dd F b) {t n w : Nat} {f : Nat → Option va_E} {S : BS} (ht : t < 16) {sb : Int32} (h : IsB f b sb (aOpen S (8 + t))) (hwf : wfH f n) (hv : vRu S.A) : ∃ (n' w' : Nat) (g : Nat → Option va_E), (∀ h1, EX B D d mX0_buildTarget 100 [some (.ref b), some (.int (nI (8 + t))), some (.int (nI (16 - F))), some (.ref (b + 1 + 5 + 5 * t))] [] (n', w', g) none h1 → EX B D d mX0_buildTarget 49 [some (.ref b), some (.int (nI (8 + t))), some (.int (nI (16 - F))), some (.ref (b + 1 + 5 + 5 * t))] [] (n, w, f) none h1) ∧ Bd f g n n' w w' b sb (aOpen S (8 + t)) (aIn F (8 + t) S) 1 := by
  obtain ⟨dn, op, wt, dk, h1, h2, h3, h4, h5, h6, h7⟩ := id h
  have hopn : (aOpen S (8 + t)).op (8 + t) = true := va_up_self _ _ _
  have hvo : vRu (aOpen S (8 + t)).A := hv.of rfl
  have hta : IsTA f (b + 1 + 5 + 5 * t) (S.A.ru (8 + t)) (S.A.rs (8 + t)) (S.A.tr (8 + t)) := h7.2.2.2.2.2 t ht
  obtain ⟨hl12, q0, l0, hcell⟩ := hta.cell
  have hbn := hwf.lt h1
  have htop := h7.top hwf
  have hz : (nI (S.A.ru (8 + t)).length = 0) = ((S.A.ru (8 + t)).isEmpty = true) := propext ((nI_eq (a := (S.A.ru (8 + t)).length) (b := 0) (by omega) (by omega)).trans (by rw [List.isEmpty_iff_length_eq_zero]))
  by_cases he : (S.A.ru (8 + t)).isEmpty = true
  · have hin : aIn F (8 + t) S = aEmpty (aOpen S (8 + t)) (8 + t) := by unfold aIn; rw [if_pos he]
    rw [hin]
    obtain ⟨p, hp, hch⟩ := c_X5_emptyOf (B := B) (D := D) (n := n) (w := w) h7 (k := 8 + t) (by omega)
    obtain ⟨c, q, l, sg, fg, tk, tp, t1, t2, t3, t4, t5, t6⟩ := id hta
    subst t3
    have k1 : keeps f (va_up f (b + 1 + 5 + 5 * t) (some (tcell (b + 1 + 5 + 5 * t) (nI (S.A.ru (8 + t)).length) (some p) l))) := keeps_at t1.1 (fun fs e => by cases e)
    have A1 : ∀ N, Ag f (va_up f (b + 1 + 5 + 5 * t) (some (tcell (b + 1 + 5 + 5 * t) (nI (S.A.ru (8 + t)).length) (some p) l))) (b + 1 + 5 + 5 * t) (b + 1 + 5 + 5 * t + 5) N := fun N => (Ag.rf _ _ _ _).up (by omega) (by omega)
    have T1 : IsT (va_up f (b + 1 + 5 + 5 * t) (some (tcell (b + 1 + 5 + 5 * t) (nI (S.A.ru (8 + t)).length) (some p) l))) (b + 1 + 5 + 5 * t) (nI (S.A.ru (8 + t)).length) (some p) l sg fg tk tp := ⟨va_up_self _ _ _, by rw [va_up_ne _ _ (by omega)]; exact t1.2.1, by rw [va_up_ne _ _ (by omega)]; exact t1.2.2.1, by rw [va_up_ne _ _ (by omega)]; exact t1.2.2.2.1, by rw [va_up_ne _ _ (by omega)]; exact t1.2.2.2.2⟩
    refine ⟨n, w, _, fun h1' hE => ?_, h.target ht hwf A1 k1 (rs := some (emR (8 + t))) (tr := S.A.tr (8 + t)) ⟨nI (S.A.ru (8 + t)).length, some p, l, sg, fg, tk, tp, T1, t2, rfl, t4, ⟨⟨p, rfl, ch_keep k1 _ _ hch⟩, t5.2.keep k1⟩, ?_⟩, hwf.up (by omega), (A1 n).wide (by omega) (by omega), k1, Nat.le_refl _, rfl, Nat.le_succ_of_le (Nat.le_refl _)⟩
    · refine px_aload_n dX0_buildTarget_49 rfl ?_
      refine px_getfield fl_X0_61 dX0_buildTarget_50 (by first | exact t1.1 | exact h1 | exact h7.1) (by rfl) ?_
      refine px_if_ne (tgt := 71) dX0_buildTarget_53 (by decide) (fun hc53 => ?_) (fun hc53 => ?_)
      · exact absurd (hz.mpr he) hc53
      · refine px_aload_n dX0_buildTarget_56 rfl ?_
        refine px_aload_n dX0_buildTarget_57 rfl ?_
        refine px_getfield fl_X0_12 dX0_buildTarget_58 (by first | exact t1.1 | exact h1 | exact h7.1) (by rfl) ?_
        refine px_iload_n dX0_buildTarget_61 rfl ?_
        refine px_callV1 (ν := mX5_emptyOf) (ci := 5) rfl rfl lk_X0_66 in_X5_emptyOf se_X5_emptyOf mok_X5_emptyOf dX0_buildTarget_62 (hp) (by first | exact t1.1 | exact h1 | exact h7.1) rfl rfl (by omega) (by simp) ?_
        refine px_putfield fp_X0_69 dX0_buildTarget_65 (by first | exact t1.1 | exact h1 | exact h7.1) rfl rfl (by simp) ?_
        refine px_goto (tgt := 100) dX0_buildTarget_68 (by decide) ?_
        exact hE
    · cases htr : S.A.tr (8 + t) with
      | none => rw [htr] at t6; exact t6
      | some T =>
        rw [htr] at t6
        refine ⟨t6.1, t6.2.1, fun i x hx => ?_⟩
        obtain ⟨e1, e2, p2, e3, e4⟩ := t6.2.2 i x hx
        exact ⟨e1, e2, p2, e3, ch_keep k1 _ _ e4⟩
  · cases htr : S.A.tr (8 + t) with
    | none =>
      have hin : aIn F (8 + t) S = aRun (aNeed (aBuild F)) (8 + t) 16 (aOpen S (8 + t)) := by unfold aIn; rw [if_neg he, htr]
      rw [hin]
      have hss := c_X0_isStillSame_none (B := B) (D := D) (n := n) (w := w) (d := 1) (F := F) (by omega) ht h htr
      obtain ⟨n1, w1, g1, hC, hBd⟩ := c_X0_runToEnd (B := B) (D := D) (n := n) (w := w) (d := dd + 1) (by omega) (Nat.le_refl _) (by omega) hF hB ht h hwf hvo hopn
      refine ⟨n1, w1, g1, fun h1' hE => ?_, hBd⟩
      refine px_aload_n dX0_buildTarget_49 rfl ?_
      refine px_getfield fl_X0_61 dX0_buildTarget_50 (by first | exact hcell | exact h1 | exact h7.1) (by rfl) ?_
      refine px_if_ne (tgt := 71) dX0_buildTarget_53 (by decide) (fun hc53 => ?_) (fun hc53 => ?_)
      · refine px_aload_n dX0_buildTarget_71 rfl ?_
        refine px_aload_n dX0_buildTarget_72 rfl ?_
        refine px_iload_n dX0_buildTarget_73 rfl ?_
        refine px_callV1 (ν := mX0_isStillSame) (ci := 0) rfl rfl lk_X0_73 in_X0_isStillSame se_X0_isStillSame mok_X0_isStillSame dX0_buildTarget_74 (hss) (by first | exact hcell | exact h1 | exact h7.1) rfl rfl (by omega) (by simp) ?_
        refine px_ifb_eq (tgt := 93) dX0_buildTarget_77 (by decide) (fun hc77 => ?_) (fun hc77 => ?_)
        · refine px_aload_n dX0_buildTarget_93 rfl ?_
          refine px_iload_n dX0_buildTarget_94 rfl ?_
          refine px_aload_n dX0_buildTarget_95 rfl ?_
          refine px_iload_n dX0_buildTarget_96 rfl ?_
          refine px_callV0 (ν := mX0_runToEnd) (ci := 0) rfl rfl lk_X0_80 in_X0_runToEnd se_X0_runToEnd mok_X0_runToEnd dX0_buildTarget_97 (hC) (by first | exact hcell | exact h1 | exact h7.1) rfl rfl (by omega) (by simp) ?_
          exact hE
        · cases hc77
      · exact absurd (hz.mp hc53) he
    | some T =>
      obtain ⟨n1, w1, g1, hC, hBd⟩ := c_X0_isStillSame (B := B) (D := D) (n := n) (w := w) (d := dd + 1) (by omega) (Nat.le_refl _) hF hB ht h hwf hvo hopn (T := T) htr
      have hkp := Kp_look (Kp_build F) T (aOpen S (8 + t))
      by_cases hs : (aLook (aBuild F) T (aOpen S (8 + t))).2 = true
      · have hin : aIn F (8 + t) S = aSpare (aLook (aBuild F) T (aOpen S (8 + t))).1 := by unfold aIn; rw [if_neg he, htr]; dsimp only; rw [if_pos hs]
        rw [hin]
        obtain ⟨dn1, op1, wt1, dk1, i1, i2, i3, i4, i5, i6, i7⟩ := id hBd.1
        obtain ⟨p1, p2, p3, p4⟩ := hBd.1.cell (sb := sb) (T := aSpare (aLook (aBuild F) T (aOpen S (8 + t))).1) (cn := (aLook (aBuild F) T (aOpen S (8 + t))).1.ord.length) (dn := dn1) (op := op1) (st := (aLook (aBuild F) T (aOpen S (8 + t))).1.st) (po := (aLook (aBuild F) T (aOpen S (8 + t))).1.po) (sp := (aLook (aBuild F) T (aOpen S (8 + t))).1.sp + 1) (cu := (aLook (aBuild F) T (aOpen S (8 + t))).1.cu) (wt := wt1) hBd.2.1 rfl rfl rfl rfl rfl rfl rfl i4 i5
        refine ⟨n1, w1, _, fun h1' hE => ?_, hBd.tra (e2 := 0) ⟨p1, p2, (p3 n1).wide (Nat.le_refl _) (by omega), p4, Nat.le_refl _, rfl, Nat.le_refl _⟩ (Nat.zero_le _)⟩
        refine px_aload_n dX0_buildTarget_49 rfl ?_
        refine px_getfield fl_X0_61 dX0_buildTarget_50 (by first | exact hcell | exact h1 | exact h7.1 | exact i1) (by rfl) ?_
        refine px_if_ne (tgt := 71) dX0_buildTarget_53 (by decide) (fun hc53 => ?_) (fun hc53 => ?_)
        · refine px_aload_n dX0_buildTarget_71 rfl ?_
          refine px_aload_n dX0_buildTarget_72 rfl ?_
          refine px_iload_n dX0_buildTarget_73 rfl ?_
          refine px_callV1 (ν := mX0_isStillSame) (ci := 0) rfl rfl lk_X0_73 in_X0_isStillSame se_X0_isStillSame mok_X0_isStillSame dX0_buildTarget_74 (hC) (by first | exact hcell | exact h1 | exact h7.1 | exact i1) rfl rfl (by omega) (by simp) ?_
          refine px_ifb_eq (tgt := 93) dX0_buildTarget_77 (by decide) (fun hc77 => ?_) (fun hc77 => ?_)
          · rw [hs] at hc77; cases hc77
          · refine px_aload_n dX0_buildTarget_80 rfl ?_
            refine px_dup dX0_buildTarget_81 rfl ?_
            refine px_getfield fl_X0_77 dX0_buildTarget_82 (by first | exact hcell | exact h1 | exact h7.1 | exact i1) (by rfl) ?_
            refine px_iconst (v := 1) dX0_buildTarget_85 (by decide) ?_
            refine px_iadd dX0_buildTarget_86 ?_
            refine px_putfield fp_X0_77 dX0_buildTarget_87 (by first | exact hcell | exact h1 | exact h7.1 | exact i1) rfl rfl (by simp) ?_
            refine px_goto (tgt := 100) dX0_buildTarget_90 (by decide) ?_
            exact hE
        · exact absurd (hz.mp hc53) he
      · have hsf : (aLook (aBuild F) T (aOpen S (8 + t))).2 = false := by simpa using hs
        have hin : aIn F (8 + t) S = aRun (aNeed (aBuild F)) (8 + t) 16 (aLook (aBuild F) T (aOpen S (8 + t))).1 := by unfold aIn; rw [if_neg he, htr]; dsimp only; rw [if_neg hs]
        rw [hin]
        obtain ⟨n2, w2, g2, hC2, hBd2⟩ := c_X0_runToEnd (B := B) (D := D) (n := n1) (w := w1) (d := dd + 1) (by omega) (Nat.le_refl _) (by omega) hF hB ht hBd.1 hBd.2.1 (hvo.of hkp.2.2.1) (by rw [hkp.1]; exact hopn)
        obtain ⟨dn1, op1, wt1, dk1, i1, i2, i3, i4, i5, i6, i7⟩ := id hBd.1
        refine ⟨n2, w2, g2, fun h1' hE => ?_, hBd.tra hBd2 (Nat.le_refl _)⟩
        refine px_aload_n dX0_buildTarget_49 rfl ?_
        refine px_getfield fl_X0_61 dX0_buildTarget_50 (by first | exact hcell | exact h1 | exact h7.1 | exact i1) (by rfl) ?_
        refine px_if_ne (tgt := 71) dX0_buildTarget_53 (by decide) (fun hc53 => ?_) (fun hc53 => ?_)
        · refine px_aload_n dX0_buildTarget_71 rfl ?_
          refine px_aload_n dX0_buildTarget_72 rfl ?_
          refine px_iload_n dX0_buildTarget_73 rfl ?_
          refine px_callV1 (ν := mX0_isStillSame) (ci := 0) rfl rfl lk_X0_73 in_X0_isStillSame se_X0_isStillSame mok_X0_isStillSame dX0_buildTarget_74 (hC) (by first | exact hcell | exact h1 | exact h7.1 | exact i1) rfl rfl (by omega) (by simp) ?_
          refine px_ifb_eq (tgt := 93) dX0_buildTarget_77 (by decide) (fun hc77 => ?_) (fun hc77 => ?_)
          · refine px_aload_n dX0_buildTarget_93 rfl ?_
            refine px_iload_n dX0_buildTarget_94 rfl ?_
            refine px_aload_n dX0_buildTarget_95 rfl ?_
            refine px_iload_n dX0_buildTarget_96 rfl ?_
            refine px_callV0 (ν := mX0_runToEnd) (ci := 0) rfl rfl lk_X0_80 in_X0_runToEnd se_X0_runToEnd mok_X0_runToEnd dX0_buildTarget_97 (hC2) (by first | exact hcell | exact h1 | exact h7.1 | exact i1) rfl rfl (by omega) (by simp) ?_
            exact hE
          · rw [hsf] at hc77; cases hc77
        · exact absurd (hz.mp hc53) he
theorem hb_step {dd F : Nat} (hdd : 8 ≤ dd) (hF : F ≤ 15) (hB : HB B D dd F b) : HB B D (dd + 2) (F + 1) b := by
  intro S t n w f sb ht h hwf hv hdn hop
  obtain ⟨g1, hE1, o1, o2, o3, o4⟩ := t_open (B := B) (D := D) (n := n) (w := w) (d := dd + 2) (L := 16 - F) (by omega) ht h hwf hdn hop (by omega)
  obtain ⟨n2, w2, g2, hE2, b1, b2, b3, b4, b5, b6, b7⟩ := t_body (B := B) (D := D) (n := n) (w := w) (d := dd + 2) hdd (Nat.le_refl _) (by omega) hB ht o1 o2 hv
  have hdn2 : (aIn F (8 + t) S).dn (8 + t) = false := by rw [(Kq_in F (8 + t) S).2.2.2.2 _ (va_up_self _ _ _)]; exact hdn
  obtain ⟨g3, hE3, c1, c2, c3, c4, c5⟩ := t_close (B := B) (D := D) (n := n2) (w := w2) (d := dd + 2) (lev := nI (16 - F)) (by omega) ht b1 b2 hdn2
  rw [aBuild_in, show 17 - (F + 1) = 16 - F by omega]
  have e1 : cd (aOpen S (8 + t)).dn = cd S.dn := rfl
  rw [e1] at b7
  exact ⟨n2, w2, g3, hE1 _ (hE2 _ hE3), c1, c2, (o3.tra b3 (Nat.le_refl _)).tra c3 b5, keeps_tr (keeps_tr o4 b4) c4, by omega, by omega, by omega⟩
theorem hb_zero : HB B D 8 0 b := by
  intro S t n w f sb ht h hwf hv hdn hop
  obtain ⟨dn, op, wt, dk, h1, h2, h3, h4, h5, h6, h7⟩ := id h
  refine ⟨n, w, f, ?_, Bd.rf h hwf⟩
  refine CT.of [some (.ref b), some (.int (nI (8 + t))), some (.int (nI (17 - 0))), none] rfl (Nat.le_of_ble_eq_true rfl) pl_X0 trivial ?_
  refine px_aload_n dX0_buildTarget_0 rfl ?_
  refine px_getfield fl_X0_12 dX0_buildTarget_1 (by first | exact h1 | exact h7.1) (by rfl) ?_
  refine px_iload_n dX0_buildTarget_4 rfl ?_
  refine px_callV1 (ν := mX5_targetOf) (ci := 5) rfl rfl lk_X0_53 in_X5_targetOf se_X5_targetOf mok_X5_targetOf dX0_buildTarget_5 (c_X5_targetOf h7 ht) (by first | exact h1 | exact h7.1) rfl rfl (by omega) (by simp) ?_
  refine px_astore3 rfl dX0_buildTarget_8 ?_
  refine px_aload_n dX0_buildTarget_9 rfl ?_
  refine px_ifnull_f dX0_buildTarget_10 ?_
  refine px_aload_n dX0_buildTarget_13 rfl ?_
  refine px_getfield fl_X0_29 dX0_buildTarget_14 (by first | exact h1 | exact h7.1) (by rfl) ?_
  refine px_aload_n dX0_buildTarget_17 rfl ?_
  refine px_getfield fl_X0_32 dX0_buildTarget_18 (by first | exact h1 | exact h7.1) (by rfl) ?_
  refine px_ior dX0_buildTarget_21 ?_
  refine px_iload_n dX0_buildTarget_22 rfl ?_
  refine px_callS1 (ν := mX0_isIn) lk_X0_45 st_X0_isIn mok_X0_isIn dX0_buildTarget_23 (c_X0_isIn _ _) rfl rfl (by omega) (by simp) ?_
  refine px_ifb_ne (tgt := 35) dX0_buildTarget_26 (by decide) (fun hc26 => ?_) (fun hc26 => ?_)
  · rw [h4.union h5 ht, hdn, hop] at hc26; cases hc26
  · refine px_iload_n dX0_buildTarget_29 rfl ?_
    refine px_bipush (v := 16) dX0_buildTarget_30 (by decide) ?_
    refine px_icmp_le (tgt := 36) dX0_buildTarget_32 (by decide) (fun hc32 => ?_) (fun hc32 => ?_)
    · exact absurd hc32 (by decide)
    · exact px_retv dX0_buildTarget_35 rfl (by rfl)
theorem hb_all : ∀ F, F ≤ 16 → HB B D (2 * F + 8) F b
  | 0, _ => hb_zero
  | F + 1, h => by
    have := hb_step (B := B) (D := D) (b := b) (dd := 2 * F + 8) (F := F) (by omega) (by omega) (hb_all F (by omega))
    rw [show 2 * (F + 1) + 8 = 2 * F + 8 + 2 by omega]
    exact this
end M26
