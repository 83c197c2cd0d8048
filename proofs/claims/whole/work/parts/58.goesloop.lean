/-! a RUN of the reference: its loop -/
section M58
variable {B : Nat} {D : va_G} {n w r : Nat} {f : Nat → Option va_E} {S : BS}
theorem l_X7_goes_13 {d t : Nat} (hd : 3 ≤ d) (ht : t < 16) : ∀ (k : Nat) (U : List (Int32 × Nat)) (i : Nat) (v : Int64) (acc : aAcc) (M : MS) (bk : BK) (z6 z7 z8 z9 z10 : Option Value), U.length ≤ k → (S.A.ru (8 + t)).drop i = U → i ≤ 200 → s_isContent v = true → GE bk M S → ne bk ≤ 8900 → As bk M S.dn acc → acc.length ≤ i →
    GoP B D n w r f S d 13 [some (.ref r), some (.int (nI (8 + t))), some (.long v), none, some (.int (nI (S.A.ru (8 + t)).length)), some (.int (nI i)), z6, z7, z8, z9, z10] M bk (aGo S.A S.dn S.op (8 + t) U i v 0 acc) := by
  intro k
  induction k with
  | zero =>
    intro U i v acc M bk z6 z7 z8 z9 z10 hk hU hi hv hG hcap hA hacc
    have hU0 : U = [] := List.eq_nil_of_length_eq_zero (by omega)
    subst hU0
    have hle : nI (S.A.ru (8 + t)).length ≤ nI i := nI_le (List.drop_eq_nil_iff.mp hU) (by omega)
    have hc : s_isContent v.toInt32.toInt64 = true := by rw [l2i_c hv]; exact hv
    refine ⟨M, bk, (v.toInt32 + 1000000) * 2, ?_, hG.1, List.prefix_rfl, Bg.rf M, hA, Cd.num hc, by simp [numR], by omega⟩
    refine px_iload dX7_goes_13 rfl ?_
    refine px_iload dX7_goes_15 rfl ?_
    refine px_icmp_ge (tgt := 358) dX7_goes_17 (by decide) (fun hc17 => ?_) (fun hc17 => ?_)
    · refine px_lload_n dX7_goes_358 rfl ?_
      refine px_l2i dX7_goes_359 ?_
      refine px_callS1 (ν := mX7_numberResult) lk_X7_115 st_X7_numberResult mok_X7_numberResult dX7_goes_360 (c_X7_numberResult _) rfl rfl (by omega) (by simp) ?_
      exact px_reti dX7_goes_363 (by rfl) (by rfl)
    · exact absurd hle hc17
  | succ k ih =>
    intro U i v acc M bk z6 z7 z8 z9 z10 hk hU hi hv hG hcap hA hacc
    match U, hk, hU with
    | [], hk, hU =>
      have hle : nI (S.A.ru (8 + t)).length ≤ nI i := nI_le (List.drop_eq_nil_iff.mp hU) (by omega)
      have hc : s_isContent v.toInt32.toInt64 = true := by rw [l2i_c hv]; exact hv
      refine ⟨M, bk, (v.toInt32 + 1000000) * 2, ?_, hG.1, List.prefix_rfl, Bg.rf M, hA, Cd.num hc, by simp [numR], by omega⟩
      refine px_iload dX7_goes_13 rfl ?_
      refine px_iload dX7_goes_15 rfl ?_
      refine px_icmp_ge (tgt := 358) dX7_goes_17 (by decide) (fun hc17 => ?_) (fun hc17 => ?_)
      · refine px_lload_n dX7_goes_358 rfl ?_
        refine px_l2i dX7_goes_359 ?_
        refine px_callS1 (ν := mX7_numberResult) lk_X7_115 st_X7_numberResult mok_X7_numberResult dX7_goes_360 (c_X7_numberResult _) rfl rfl (by omega) (by simp) ?_
        exact px_reti dX7_goes_363 (by rfl) (by rfl)
      · exact absurd hle hc17
    | (s, m) :: U, hk, hU =>
      have hx : (S.A.ru (8 + t))[i]? = some (s, m) := by have := congrArg List.head? hU; rwa [List.head?_drop] at this
      have hi2 : i < (S.A.ru (8 + t)).length := (List.getElem?_eq_some_iff.mp hx).1
      obtain ⟨r1, r2, r3⟩ := hG.2.2.1 t ht
      obtain ⟨hs1, hm1⟩ := r3 i _ hx
      have hs1 : M.2.1 5 (8 + 25 * t + (1 + 2 * i)) = s := hs1
      have hm1 : M.2.1 5 (8 + 25 * t + (2 + 2 * i)) = nI m := hm1
      have hge : ¬ nI (S.A.ru (8 + t)).length ≤ nI i := nI_ge hi2 (by omega)
      obtain ⟨hm100, hm24⟩ := hG.2.2.2.2.2.2 (8 + t) _ (List.mem_of_getElem? hx)
      have hm100 : m < 100 := hm100
      have hU2 : (S.A.ru (8 + t)).drop (i + 1) = U := by rw [← List.drop_drop, hU]; rfl
      have hkU : U.length ≤ k := by simp at hk; omega
      have hpass : ∀ x : Int64, aPass s x m ≤ 100 := fun x => by unfold aPass; split <;> omega
      -- the next step
      have hnx : ∀ (b : Int64) (acc' : aAcc) (M' : MS) (bk' : BK) (zz : Option Value), s_isContent (s_worked s v b) = true → GE bk' M' S → ne bk' ≤ 8900 → As bk' M' S.dn acc' → acc'.length ≤ i + 1 → GoP B D n w r f S d 13 [some (.ref r), some (.int (nI (8 + t))), some (.long (s_worked s v b)), none, some (.int (nI (S.A.ru (8 + t)).length)), some (.int (nI (i + aPass s v m + 1))), some (.int s), some (.int (nI m)), some (.long b), none, zz] M' bk' (aGo S.A S.dn S.op (8 + t) U (i + 1) (s_worked s v b) (aPass s (s_worked s v b) m) acc') := fun b acc' M' bk' zz h1 h2 h3 h4 h5 => by
        rw [aGo_pass, pass_w, show i + 1 + aPass s v m = i + aPass s v m + 1 by omega]
        have hp := hpass v
        refine ih _ _ _ _ _ _ _ _ _ _ _ (by rw [List.length_drop]; omega) ?_ (by omega) h1 h2 h3 h4 (by omega)
        rw [← hU2, List.drop_drop]
        congr 1
        omega
      cases hask : s_asks s with
      | false =>
        have hgo : aGo S.A S.dn S.op (8 + t) ((s, m) :: U) i v 0 acc = (if s_fsort s v (nI m).toInt64 (s_worked s v (nI m).toInt64) = 0 then aGo S.A S.dn S.op (8 + t) U (i + 1) (s_worked s v (nI m).toInt64) (aPass s (s_worked s v (nI m).toInt64) m) acc else (acc, .inl [(0, nI (8 + t), s_fsort s v (nI m).toInt64 (s_worked s v (nI m).toInt64), nI i)])) := by
          rw [aGo, show aOpd S.A S.dn S.op (8 + t) s m i acc = .inr (acc, (nI m).toInt64) by unfold aOpd; rw [if_neg (by rw [hask]; decide)]]
        rw [hgo]
        refine (g_tail (z10 := z10) (by omega) hG hcap hA hv (fun _ => rfl) (fun _ h2 => hnx _ acc M bk z10 h2 hG hcap hA (by omega))).step List.prefix_rfl (Bg.rf M) (Nat.le_refl _) (fun rr h1 hk => ?_)
        refine px_iload dX7_goes_13 rfl ?_
        refine px_iload dX7_goes_15 rfl ?_
        refine px_icmp_ge (tgt := 358) dX7_goes_17 (by decide) (fun hc17 => ?_) (fun hc17 => ?_)
        · exact absurd hc17 hge
        · refine px_aload_n dX7_goes_20 rfl ?_
          refine px_iload_n dX7_goes_21 rfl ?_
          refine px_iconst (v := 1) dX7_goes_22 (by decide) ?_
          refine px_iconst (v := 2) dX7_goes_23 (by decide) ?_
          refine px_iload dX7_goes_24 rfl ?_
          refine px_imul dX7_goes_26 ?_
          refine px_iadd dX7_goes_27 ?_
          refine px_callV1 (ν := mX7_ruled) (ci := 7) rfl rfl lk_X7_140 in_X7_ruled se_X7_ruled mok_X7_ruled dX7_goes_28 (c_X7_ruled ht (q := 1 + 2 * i) (by first | rfl | (simp (disch := omega) only [li0, li1, li2, li3, li5, li6, li8, li9, li10, li12, li13, li16, li20, li24, li25, li100, li408, li424, li824, nI_add, nI_mul, nI_sub]; first | done | rfl | (congr 1; omega))) (by omega)) (by exact mH_0) rfl rfl (by omega) (by simp) ?_
          rw [hs1]
          refine px_istore6 rfl dX7_goes_31 ?_
          refine px_aload_n dX7_goes_33 rfl ?_
          refine px_iload_n dX7_goes_34 rfl ?_
          refine px_iconst (v := 2) dX7_goes_35 (by decide) ?_
          refine px_iconst (v := 2) dX7_goes_36 (by decide) ?_
          refine px_iload dX7_goes_37 rfl ?_
          refine px_imul dX7_goes_39 ?_
          refine px_iadd dX7_goes_40 ?_
          refine px_callV1 (ν := mX7_ruled) (ci := 7) rfl rfl lk_X7_140 in_X7_ruled se_X7_ruled mok_X7_ruled dX7_goes_41 (c_X7_ruled ht (q := 2 + 2 * i) (by first | rfl | (simp (disch := omega) only [li0, li1, li2, li3, li5, li6, li8, li9, li10, li12, li13, li16, li20, li24, li25, li100, li408, li424, li824, nI_add, nI_mul, nI_sub]; first | done | rfl | (congr 1; omega))) (by omega)) (by exact mH_0) rfl rfl (by omega) (by simp) ?_
          rw [hm1]
          refine px_istore7 rfl dX7_goes_44 ?_
          refine px_iload dX7_goes_46 rfl ?_
          refine px_i2l dX7_goes_48 ?_
          refine px_lstore8 rfl dX7_goes_49 ?_
          refine px_iload dX7_goes_51 rfl ?_
          refine px_callS1 (ν := mX7_isAsking) lk_X7_123 st_X7_isAsking mok_X7_isAsking dX7_goes_53 (c_X7_isAsking _) rfl rfl (by omega) (by simp) ?_
          refine px_ifb_eq (tgt := 145) dX7_goes_56 (by decide) (fun hc56 => ?_) (fun hc56 => ?_)
          · exact hk
          · rw [hask] at hc56; cases hc56
      | true =>
        have hm24 : m < 24 := hm24 hask
        by_cases hop : 8 ≤ m ∧ S.op m = true
        · have hgo : aGo S.A S.dn S.op (8 + t) ((s, m) :: U) i v 0 acc = (acc, .inl [(0, nI (8 + t), 1, nI i)]) := by
            rw [aGo, show aOpd S.A S.dn S.op (8 + t) s m i acc = .inl (acc, .inl [(0, nI (8 + t), 1, nI i)]) by unfold aOpd; rw [if_pos hask, if_pos hop]]
          rw [hgo]
          obtain ⟨u, hu, rfl⟩ : ∃ u, u < 16 ∧ m = 8 + u := ⟨m - 8, by omega, by omega⟩
          have h10 : ¬ M.2.1 10 (8 + u) = 0 := by rw [(hG.2.2.2.2.1 u hu).2, hop.2]; decide
          refine GoP.fail (y := -1) hG.1 hcap hA (by decide) (by decide) (Or.inl rfl) rfl (fun M' i' hC => ?_)
          refine px_iload dX7_goes_13 rfl ?_
          refine px_iload dX7_goes_15 rfl ?_
          refine px_icmp_ge (tgt := 358) dX7_goes_17 (by decide) (fun hc17 => ?_) (fun hc17 => ?_)
          · exact absurd hc17 hge
          · refine px_aload_n dX7_goes_20 rfl ?_
            refine px_iload_n dX7_goes_21 rfl ?_
            refine px_iconst (v := 1) dX7_goes_22 (by decide) ?_
            refine px_iconst (v := 2) dX7_goes_23 (by decide) ?_
            refine px_iload dX7_goes_24 rfl ?_
            refine px_imul dX7_goes_26 ?_
            refine px_iadd dX7_goes_27 ?_
            refine px_callV1 (ν := mX7_ruled) (ci := 7) rfl rfl lk_X7_140 in_X7_ruled se_X7_ruled mok_X7_ruled dX7_goes_28 (c_X7_ruled ht (q := 1 + 2 * i) (by first | rfl | (simp (disch := omega) only [li0, li1, li2, li3, li5, li6, li8, li9, li10, li12, li13, li16, li20, li24, li25, li100, li408, li424, li824, nI_add, nI_mul, nI_sub]; first | done | rfl | (congr 1; omega))) (by omega)) (by exact mH_0) rfl rfl (by omega) (by simp) ?_
            rw [hs1]
            refine px_istore6 rfl dX7_goes_31 ?_
            refine px_aload_n dX7_goes_33 rfl ?_
            refine px_iload_n dX7_goes_34 rfl ?_
            refine px_iconst (v := 2) dX7_goes_35 (by decide) ?_
            refine px_iconst (v := 2) dX7_goes_36 (by decide) ?_
            refine px_iload dX7_goes_37 rfl ?_
            refine px_imul dX7_goes_39 ?_
            refine px_iadd dX7_goes_40 ?_
            refine px_callV1 (ν := mX7_ruled) (ci := 7) rfl rfl lk_X7_140 in_X7_ruled se_X7_ruled mok_X7_ruled dX7_goes_41 (c_X7_ruled ht (q := 2 + 2 * i) (by first | rfl | (simp (disch := omega) only [li0, li1, li2, li3, li5, li6, li8, li9, li10, li12, li13, li16, li20, li24, li25, li100, li408, li424, li824, nI_add, nI_mul, nI_sub]; first | done | rfl | (congr 1; omega))) (by omega)) (by exact mH_0) rfl rfl (by omega) (by simp) ?_
            rw [hm1]
            refine px_istore7 rfl dX7_goes_44 ?_
            refine px_iload dX7_goes_46 rfl ?_
            refine px_i2l dX7_goes_48 ?_
            refine px_lstore8 rfl dX7_goes_49 ?_
            refine px_iload dX7_goes_51 rfl ?_
            refine px_callS1 (ν := mX7_isAsking) lk_X7_123 st_X7_isAsking mok_X7_isAsking dX7_goes_53 (c_X7_isAsking _) rfl rfl (by omega) (by simp) ?_
            refine px_ifb_eq (tgt := 145) dX7_goes_56 (by decide) (fun hc56 => ?_) (fun hc56 => ?_)
            · rw [hask] at hc56; cases hc56
            · refine px_iload dX7_goes_59 rfl ?_
              refine px_callS1 (ν := mX7_isInput) lk_X7_108 st_X7_isInput mok_X7_isInput dX7_goes_61 (cr_isInput _) rfl rfl (by omega) (by simp) ?_
              refine px_ifb_ne (tgt := 87) dX7_goes_64 (by decide) (fun hc64 => ?_) (fun hc64 => ?_)
              · rw [inI_t hu] at hc64; cases hc64
              · refine px_aload_n dX7_goes_67 rfl ?_
                refine mx_get fl_X7_64 dX7_goes_68 rfl ?_
                refine px_iload dX7_goes_71 rfl ?_
                refine mx_baload (j := 10) (m := 24) (q := 8 + u) dX7_goes_73 (by decide) (by first | rfl | (simp (disch := omega) only [li0, li1, li2, li3, li5, li6, li8, li9, li10, li12, li13, li16, li20, li24, li25, li100, li408, li424, li824, nI_add, nI_mul, nI_sub]; first | done | rfl | (congr 1; omega))) (by omega) ?_
                refine px_if_eq (tgt := 87) dX7_goes_74 (by decide) (fun hc74 => ?_) (fun hc74 => ?_)
                · exact absurd hc74 h10
                · refine px_aload_n dX7_goes_77 rfl ?_
                  refine px_iload_n dX7_goes_78 rfl ?_
                  refine px_iconst (v := 1) dX7_goes_79 (by decide) ?_
                  refine px_iload dX7_goes_80 rfl ?_
                  refine px_iconst (v := (-1)) dX7_goes_82 (by decide) ?_
                  refine px_callV1 (ν := mX7_fails) (ci := 7) rfl rfl lk_X7_104 in_X7_fails se_X7_fails mok_X7_fails dX7_goes_83 (hC) (by exact mH_0) rfl rfl (by omega) (by simp) ?_
                  exact px_reti dX7_goes_86 (by rfl) (by rfl)
        · by_cases hdn : 8 ≤ m ∧ S.dn m = false
          · have hopf : S.op m = false := by cases h : S.op m with
              | false => rfl
              | true => exact absurd ⟨hdn.1, h⟩ hop
            have hgo : aGo S.A S.dn S.op (8 + t) ((s, m) :: U) i v 0 acc = (acc, .inr m) := by
              rw [aGo, show aOpd S.A S.dn S.op (8 + t) s m i acc = .inl (acc, .inr m) by unfold aOpd; rw [if_pos hask, if_neg hop, if_pos hdn]]
            rw [hgo]
            obtain ⟨u, hu, rfl⟩ : ∃ u, u < 16 ∧ m = 8 + u := ⟨m - 8, by omega, by omega⟩
            have h10 : M.2.1 10 (8 + u) = 0 := by rw [(hG.2.2.2.2.1 u hu).2, hopf]; rfl
            have h9 : M.2.1 9 (8 + u) = 0 := by rw [(hG.2.2.2.2.1 u hu).1, hdn.2]; rfl
            refine ⟨M, bk, -10 - nI (8 + u), ?_, hG.1, List.prefix_rfl, Bg.rf M, rfl, Nat.le_refl _, hdn.1, hm24, hdn.2, hopf⟩
            refine px_iload dX7_goes_13 rfl ?_
            refine px_iload dX7_goes_15 rfl ?_
            refine px_icmp_ge (tgt := 358) dX7_goes_17 (by decide) (fun hc17 => ?_) (fun hc17 => ?_)
            · exact absurd hc17 hge
            · refine px_aload_n dX7_goes_20 rfl ?_
              refine px_iload_n dX7_goes_21 rfl ?_
              refine px_iconst (v := 1) dX7_goes_22 (by decide) ?_
              refine px_iconst (v := 2) dX7_goes_23 (by decide) ?_
              refine px_iload dX7_goes_24 rfl ?_
              refine px_imul dX7_goes_26 ?_
              refine px_iadd dX7_goes_27 ?_
              refine px_callV1 (ν := mX7_ruled) (ci := 7) rfl rfl lk_X7_140 in_X7_ruled se_X7_ruled mok_X7_ruled dX7_goes_28 (c_X7_ruled ht (q := 1 + 2 * i) (by first | rfl | (simp (disch := omega) only [li0, li1, li2, li3, li5, li6, li8, li9, li10, li12, li13, li16, li20, li24, li25, li100, li408, li424, li824, nI_add, nI_mul, nI_sub]; first | done | rfl | (congr 1; omega))) (by omega)) (by exact mH_0) rfl rfl (by omega) (by simp) ?_
              rw [hs1]
              refine px_istore6 rfl dX7_goes_31 ?_
              refine px_aload_n dX7_goes_33 rfl ?_
              refine px_iload_n dX7_goes_34 rfl ?_
              refine px_iconst (v := 2) dX7_goes_35 (by decide) ?_
              refine px_iconst (v := 2) dX7_goes_36 (by decide) ?_
              refine px_iload dX7_goes_37 rfl ?_
              refine px_imul dX7_goes_39 ?_
              refine px_iadd dX7_goes_40 ?_
              refine px_callV1 (ν := mX7_ruled) (ci := 7) rfl rfl lk_X7_140 in_X7_ruled se_X7_ruled mok_X7_ruled dX7_goes_41 (c_X7_ruled ht (q := 2 + 2 * i) (by first | rfl | (simp (disch := omega) only [li0, li1, li2, li3, li5, li6, li8, li9, li10, li12, li13, li16, li20, li24, li25, li100, li408, li424, li824, nI_add, nI_mul, nI_sub]; first | done | rfl | (congr 1; omega))) (by omega)) (by exact mH_0) rfl rfl (by omega) (by simp) ?_
              rw [hm1]
              refine px_istore7 rfl dX7_goes_44 ?_
              refine px_iload dX7_goes_46 rfl ?_
              refine px_i2l dX7_goes_48 ?_
              refine px_lstore8 rfl dX7_goes_49 ?_
              refine px_iload dX7_goes_51 rfl ?_
              refine px_callS1 (ν := mX7_isAsking) lk_X7_123 st_X7_isAsking mok_X7_isAsking dX7_goes_53 (c_X7_isAsking _) rfl rfl (by omega) (by simp) ?_
              refine px_ifb_eq (tgt := 145) dX7_goes_56 (by decide) (fun hc56 => ?_) (fun hc56 => ?_)
              · rw [hask] at hc56; cases hc56
              · refine px_iload dX7_goes_59 rfl ?_
                refine px_callS1 (ν := mX7_isInput) lk_X7_108 st_X7_isInput mok_X7_isInput dX7_goes_61 (cr_isInput _) rfl rfl (by omega) (by simp) ?_
                refine px_ifb_ne (tgt := 87) dX7_goes_64 (by decide) (fun hc64 => ?_) (fun hc64 => ?_)
                · rw [inI_t hu] at hc64; cases hc64
                · refine px_aload_n dX7_goes_67 rfl ?_
                  refine mx_get fl_X7_64 dX7_goes_68 rfl ?_
                  refine px_iload dX7_goes_71 rfl ?_
                  refine mx_baload (j := 10) (m := 24) (q := 8 + u) dX7_goes_73 (by decide) (by first | rfl | (simp (disch := omega) only [li0, li1, li2, li3, li5, li6, li8, li9, li10, li12, li13, li16, li20, li24, li25, li100, li408, li424, li824, nI_add, nI_mul, nI_sub]; first | done | rfl | (congr 1; omega))) (by omega) ?_
                  refine px_if_eq (tgt := 87) dX7_goes_74 (by decide) (fun hc74 => ?_) (fun hc74 => ?_)
                  · refine px_aload_n dX7_goes_87 rfl ?_
                    refine px_iload dX7_goes_88 rfl ?_
                    refine px_callV1 (ν := mX7_isDone) (ci := 7) rfl rfl lk_X7_169 in_X7_isDone se_X7_isDone mok_X7_isDone dX7_goes_90 (c_X7_isDone hm24) (by exact mH_0) rfl rfl (by omega) (by simp) ?_
                    refine px_ifb_ne (tgt := 102) dX7_goes_93 (by decide) (fun hc93 => ?_) (fun hc93 => ?_)
                    · rw [inI_t hu, h9] at hc93; cases hc93
                    · refine px_bipush (v := (-10)) dX7_goes_96 (by decide) ?_
                      refine px_iload dX7_goes_98 rfl ?_
                      refine px_isub dX7_goes_100 ?_
                      exact px_reti dX7_goes_101 (by rfl) (by rfl)
                  · exact absurd h10 hc74
          · have hdone : (s_isInput (nI m) || !decide (M.2.1 9 m = 0)) = true := by
              by_cases h8 : m < 8
              · rw [inI_i h8]; rfl
              · obtain ⟨u, hu, rfl⟩ : ∃ u, u < 16 ∧ m = 8 + u := ⟨m - 8, by omega, by omega⟩
                rw [(hG.2.2.2.2.1 u hu).1]
                cases h : S.dn (8 + u) with
                | true => simp [bi]
                | false => exact absurd ⟨by omega, h⟩ hdn
            have h10 : 8 ≤ m → M.2.1 10 m = 0 := fun h8 => by
              obtain ⟨u, hu, rfl⟩ : ∃ u, u < 16 ∧ m = 8 + u := ⟨m - 8, by omega, by omega⟩
              rw [(hG.2.2.2.2.1 u hu).2]
              cases h : S.op (8 + u) with
              | true => exact absurd ⟨by omega, h⟩ hop
              | false => rfl
            have hdm : 8 ≤ m → S.dn m = true := fun h8 => by
              cases h : S.dn m with
              | true => rfl
              | false => exact absurd ⟨h8, h⟩ hdn
            obtain ⟨res, hres⟩ : ∃ res, aHas S.A m = some res := by
              by_cases h8 : m < 8
              · exact ⟨_, if_pos h8⟩
              · obtain ⟨u, hu, rfl⟩ : ∃ u, u < 16 ∧ m = 8 + u := ⟨m - 8, by omega, by omega⟩
                have := hG.2.2.2.2.2.1 u hu (hdm (by omega))
                rw [show aHas S.A (8 + u) = S.A.rs (8 + u) from if_neg h8]
                exact Option.ne_none_iff_exists'.mp this
            obtain ⟨M1, bk1, x, c1, c2, c3⟩ := c_X7_has (B := B) (D := D) (n := n) (w := w) (r := r) (f := f) hG.1 hcap hG.2.1 hG.2.2.2.1 hm24
            rw [hres] at c3
            have hA1 : As bk1 M1 S.dn acc := hA.of c2.2.2.1 (c2.2.1.1 22 (by omega)) (c2.2.1.2.1 12 (by omega)) (c2.2.1.2.1 13 (by omega))
            obtain ⟨M2, n1, n2, n3⟩ := c_X7_notes (B := B) (D := D) (n := n) (w := w) (r := r) (f := f) hA1 (by omega) hm24 c3.1 c3.2 hdm
            have hg2 : Bg M M2 := c2.2.1.g.tra n3.g
            have hb2 : Bk M2 bk1 := n3.bk c2.1
            have hG2 : GE bk1 M2 S := hG.of hb2 c2.2.2.1 hg2
            have hcap2 : ne bk1 ≤ 8900 := by have := c2.2.2.2; omega
            have hal : (accNote acc m res).length ≤ i + 1 := by have := accNote_len (acc := acc) (k := m) (r := res); omega
            refine GoP.step (pc' := 118) (M1 := M2) (bk1 := bk1) (ls' := [some (.ref r), some (.int (nI (8 + t))), some (.long v), none, some (.int (nI (S.A.ru (8 + t)).length)), some (.int (nI i)), some (.int s), some (.int (nI m)), some (.long (nI m).toInt64), none, some (.int x)]) ?_ c2.2.2.1 hg2 c2.2.2.2 (fun rr h1 hk => ?_)
            · cases hF : isF res with
              | true =>
                have hgo : aGo S.A S.dn S.op (8 + t) ((s, m) :: U) i v 0 acc = (accNote acc m res, .inl ((0, nI (8 + t), 5, nI i) :: res)) := by
                  rw [aGo, show aOpd S.A S.dn S.op (8 + t) s m i acc = .inl (accNote acc m res, .inl ((0, nI (8 + t), 5, nI i) :: res)) by unfold aOpd; rw [if_pos hask, if_neg hop, if_neg hdn, hres]; simp only [hF, if_true]]
                rw [hgo]
                have hfx : t_isFail x = true := by rw [c3.2.fail, hF]
                refine GoP.fail (y := x) hb2 hcap2 n2 (by decide) (by decide) (Or.inr hF) c3.2 (fun M' i' hC => ?_)
                refine px_iload dX7_goes_118 rfl ?_
                refine px_callS1 (ν := mX7_isFailure) lk_X7_34 st_X7_isFailure mok_X7_isFailure dX7_goes_120 (c_X7_isFailure _) rfl rfl (by omega) (by simp) ?_
                refine px_ifb_eq (tgt := 137) dX7_goes_123 (by decide) (fun hc123 => ?_) (fun hc123 => ?_)
                · rw [hfx] at hc123; cases hc123
                · refine px_aload_n dX7_goes_126 rfl ?_
                  refine px_iload_n dX7_goes_127 rfl ?_
                  refine px_iconst (v := 5) dX7_goes_128 (by decide) ?_
                  refine px_iload dX7_goes_129 rfl ?_
                  refine px_iload dX7_goes_131 rfl ?_
                  refine px_callV1 (ν := mX7_fails) (ci := 7) rfl rfl lk_X7_104 in_X7_fails se_X7_fails mok_X7_fails dX7_goes_133 (hC) (by exact mH_0) rfl rfl (by omega) (by simp) ?_
                  exact px_reti dX7_goes_136 (by rfl) (by rfl)
              | false =>
                have hval := c3.2.val c3.1 hF
                have hgo : aGo S.A S.dn S.op (8 + t) ((s, m) :: U) i v 0 acc = (if s_fsort s v (toldL res).toInt64 (s_worked s v (toldL res).toInt64) = 0 then aGo S.A S.dn S.op (8 + t) U (i + 1) (s_worked s v (toldL res).toInt64) (aPass s (s_worked s v (toldL res).toInt64) m) (accNote acc m res) else (accNote acc m res, .inl [(0, nI (8 + t), s_fsort s v (toldL res).toInt64 (s_worked s v (toldL res).toInt64), nI i)])) := by
                  rw [aGo, show aOpd S.A S.dn S.op (8 + t) s m i acc = .inr (accNote acc m res, (toldL res).toInt64) by unfold aOpd; rw [if_pos hask, if_neg hop, if_neg hdn, hres]; simp only [hF]; rfl]
                rw [hgo]
                have hfx : t_isFail x = false := by rw [c3.2.fail, hF]
                refine (g_tail (z10 := some (.int x)) (by omega) hG2 hcap2 n2 hv (fun e => by subst e; exact absurd hask (by decide)) (fun _ h2 => hnx _ _ M2 bk1 _ h2 hG2 hcap2 n2 hal)).step List.prefix_rfl (Bg.rf M2) (Nat.le_refl _) (fun rr h1 hk => ?_)
                refine px_iload dX7_goes_118 rfl ?_
                refine px_callS1 (ν := mX7_isFailure) lk_X7_34 st_X7_isFailure mok_X7_isFailure dX7_goes_120 (c_X7_isFailure _) rfl rfl (by omega) (by simp) ?_
                refine px_ifb_eq (tgt := 137) dX7_goes_123 (by decide) (fun hc123 => ?_) (fun hc123 => ?_)
                · refine px_iload dX7_goes_137 rfl ?_
                  refine px_callS1 (ν := mX7_numberOf) lk_X7_38 st_X7_numberOf mok_X7_numberOf dX7_goes_139 (c_X7_numberOf _) rfl rfl (by omega) (by simp) ?_
                  rw [hval.1]
                  refine px_i2l dX7_goes_142 ?_
                  refine px_lstore8 rfl dX7_goes_143 ?_
                  exact hk
                · rw [hfx] at hc123; cases hc123
            · have key : ∀ (hk : EX B D d mX7_goes 118 [some (.ref r), some (.int (nI (8 + t))), some (.long v), none, some (.int (nI (S.A.ru (8 + t)).length)), some (.int (nI i)), some (.int s), some (.int (nI m)), some (.long (nI m).toInt64), none, some (.int x)] [] (n, w, mH r f M2) rr h1), EX B D d mX7_goes 87 [some (.ref r), some (.int (nI (8 + t))), some (.long v), none, some (.int (nI (S.A.ru (8 + t)).length)), some (.int (nI i)), some (.int s), some (.int (nI m)), some (.long (nI m).toInt64), none, z10] [] (n, w, mH r f M) rr h1 := fun hk => by
                refine px_aload_n dX7_goes_87 rfl ?_
                refine px_iload dX7_goes_88 rfl ?_
                refine px_callV1 (ν := mX7_isDone) (ci := 7) rfl rfl lk_X7_169 in_X7_isDone se_X7_isDone mok_X7_isDone dX7_goes_90 (c_X7_isDone hm24) (by exact mH_0) rfl rfl (by omega) (by simp) ?_
                refine px_ifb_ne (tgt := 102) dX7_goes_93 (by decide) (fun hc93 => ?_) (fun hc93 => ?_)
                · refine px_aload_n dX7_goes_102 rfl ?_
                  refine px_iload dX7_goes_103 rfl ?_
                  refine px_callV1 (ν := mX7_has) (ci := 7) rfl rfl lk_X7_156 in_X7_has se_X7_has mok_X7_has dX7_goes_105 (c1) (by exact mH_0) rfl rfl (by omega) (by simp) ?_
                  refine px_istore10 rfl dX7_goes_108 ?_
                  refine px_aload_n dX7_goes_110 rfl ?_
                  refine px_iload dX7_goes_111 rfl ?_
                  refine px_iload dX7_goes_113 rfl ?_
                  refine px_callV0 (ν := mX7_notes) (ci := 7) rfl rfl lk_X7_190 in_X7_notes se_X7_notes mok_X7_notes dX7_goes_115 (n1) (by exact mH_0) rfl rfl (by omega) (by simp) ?_
                  exact hk
                · rw [hdone] at hc93; cases hc93
              refine px_iload dX7_goes_13 rfl ?_
              refine px_iload dX7_goes_15 rfl ?_
              refine px_icmp_ge (tgt := 358) dX7_goes_17 (by decide) (fun hc17 => ?_) (fun hc17 => ?_)
              · exact absurd hc17 hge
              · refine px_aload_n dX7_goes_20 rfl ?_
                refine px_iload_n dX7_goes_21 rfl ?_
                refine px_iconst (v := 1) dX7_goes_22 (by decide) ?_
                refine px_iconst (v := 2) dX7_goes_23 (by decide) ?_
                refine px_iload dX7_goes_24 rfl ?_
                refine px_imul dX7_goes_26 ?_
                refine px_iadd dX7_goes_27 ?_
                refine px_callV1 (ν := mX7_ruled) (ci := 7) rfl rfl lk_X7_140 in_X7_ruled se_X7_ruled mok_X7_ruled dX7_goes_28 (c_X7_ruled ht (q := 1 + 2 * i) (by first | rfl | (simp (disch := omega) only [li0, li1, li2, li3, li5, li6, li8, li9, li10, li12, li13, li16, li20, li24, li25, li100, li408, li424, li824, nI_add, nI_mul, nI_sub]; first | done | rfl | (congr 1; omega))) (by omega)) (by exact mH_0) rfl rfl (by omega) (by simp) ?_
                rw [hs1]
                refine px_istore6 rfl dX7_goes_31 ?_
                refine px_aload_n dX7_goes_33 rfl ?_
                refine px_iload_n dX7_goes_34 rfl ?_
                refine px_iconst (v := 2) dX7_goes_35 (by decide) ?_
                refine px_iconst (v := 2) dX7_goes_36 (by decide) ?_
                refine px_iload dX7_goes_37 rfl ?_
                refine px_imul dX7_goes_39 ?_
                refine px_iadd dX7_goes_40 ?_
                refine px_callV1 (ν := mX7_ruled) (ci := 7) rfl rfl lk_X7_140 in_X7_ruled se_X7_ruled mok_X7_ruled dX7_goes_41 (c_X7_ruled ht (q := 2 + 2 * i) (by first | rfl | (simp (disch := omega) only [li0, li1, li2, li3, li5, li6, li8, li9, li10, li12, li13, li16, li20, li24, li25, li100, li408, li424, li824, nI_add, nI_mul, nI_sub]; first | done | rfl | (congr 1; omega))) (by omega)) (by exact mH_0) rfl rfl (by omega) (by simp) ?_
                rw [hm1]
                refine px_istore7 rfl dX7_goes_44 ?_
                refine px_iload dX7_goes_46 rfl ?_
                refine px_i2l dX7_goes_48 ?_
                refine px_lstore8 rfl dX7_goes_49 ?_
                refine px_iload dX7_goes_51 rfl ?_
                refine px_callS1 (ν := mX7_isAsking) lk_X7_123 st_X7_isAsking mok_X7_isAsking dX7_goes_53 (c_X7_isAsking _) rfl rfl (by omega) (by simp) ?_
                refine px_ifb_eq (tgt := 145) dX7_goes_56 (by decide) (fun hc56 => ?_) (fun hc56 => ?_)
                · rw [hask] at hc56; cases hc56
                · refine px_iload dX7_goes_59 rfl ?_
                  refine px_callS1 (ν := mX7_isInput) lk_X7_108 st_X7_isInput mok_X7_isInput dX7_goes_61 (cr_isInput _) rfl rfl (by omega) (by simp) ?_
                  refine px_ifb_ne (tgt := 87) dX7_goes_64 (by decide) (fun hc64 => ?_) (fun hc64 => ?_)
                  · exact key hk
                  · refine px_aload_n dX7_goes_67 rfl ?_
                    refine mx_get fl_X7_64 dX7_goes_68 rfl ?_
                    refine px_iload dX7_goes_71 rfl ?_
                    refine mx_baload (j := 10) (m := 24) (q := m) dX7_goes_73 (by decide) (by first | rfl | (simp (disch := omega) only [li0, li1, li2, li3, li5, li6, li8, li9, li10, li12, li13, li16, li20, li24, li25, li100, li408, li424, li824, nI_add, nI_mul, nI_sub]; first | done | rfl | (congr 1; omega))) (by exact hm24) ?_
                    refine px_if_eq (tgt := 87) dX7_goes_74 (by decide) (fun hc74 => ?_) (fun hc74 => ?_)
                    · exact key hk
                    · exact absurd (h10 (by rcases Nat.lt_or_ge m 8 with h | h; exact absurd (inI_i h) (by rw [hc64]; decide); exact h)) hc74
theorem c_X7_goes {t : Nat} {M : MS} {bk : BK} (ht : t < 16) (hG : GE bk M S) (hcap : ne bk ≤ 8900) (h22 : M.1 22 = 0) : ∃ (M' : MS) (bk' : BK) (x : Int32), CT B D 3 mX7_goes [.ref r, .int (nI (8 + t))] (n, w, mH r f M) (some (.int x)) (n, w, mH r f M') ∧ Bk M' bk' ∧ bk <+: bk' ∧ Bg M M' ∧ GoZ bk bk' M' S x (aTry S (8 + t)) := by
  obtain ⟨M', bk', x, h1, h2⟩ := l_X7_goes_13 (B := B) (D := D) (n := n) (w := w) (r := r) (f := f) (S := S) (d := 3) (Nat.le_refl _) ht _ _ 0 0 [] M bk none none none none none (Nat.le_refl _) rfl (by omega) (by decide) hG hcap ⟨h22, by simp, fun i x hx => by simp at hx⟩ (by simp)
  refine ⟨M', bk', x, ?_, h2⟩
  have hlen : M.2.1 5 (8 + 25 * t + 0) = nI (S.A.ru (8 + t)).length := (hG.2.2.1 t ht).2.1
  refine CT.of [some (.ref r), some (.int (nI (8 + t))), none, none, none, none, none, none, none, none, none] rfl (Nat.le_of_ble_eq_true rfl) pl_X7 trivial ?_
  refine px_lconst (v := 0) dX7_goes_0 (by decide) ?_
  refine px_lstore2 rfl dX7_goes_1 ?_
  refine px_aload_n dX7_goes_2 rfl ?_
  refine px_iload_n dX7_goes_3 rfl ?_
  refine px_iconst (v := 0) dX7_goes_4 (by decide) ?_
  refine px_callV1 (ν := mX7_ruled) (ci := 7) rfl rfl lk_X7_140 in_X7_ruled se_X7_ruled mok_X7_ruled dX7_goes_5 (c_X7_ruled ht (q := 0) rfl (by omega)) (by exact mH_0) rfl rfl (by omega) (by simp) ?_
  rw [hlen]
  refine px_istore4 rfl dX7_goes_8 ?_
  refine px_iconst (v := 0) dX7_goes_10 (by decide) ?_
  refine px_istore5 rfl dX7_goes_11 ?_
  exact h1
end M58
