/-! calls that change the world or THE TAPE -/
def v_give (A : AW) (k v : Int32) : Int32 × AW := if s_isInput k = true then (if s_isContent v.toInt64 = true then (if A.inn k.toNatClampNeg = some v then (0, A) else (1, A.give k.toNatClampNeg (some v))) else (-2, A)) else (-1, A)
def v_take (A : AW) (k : Int32) : Int32 × AW := if s_isInput k = true then (match A.inn k.toNatClampNeg with | none => (-3, A) | some c => (c, A.give k.toNatClampNeg none)) else (-1, A)
def v_drop (A : AW) (k : Int32) : Int32 × AW := if s_isTarget k = true then (if (A.ru k.toNatClampNeg).isEmpty = true then (-3, A) else (nI (A.ru k.toNatClampNeg).length, A.put k.toNatClampNeg [] (A.rs k.toNatClampNeg) none)) else (-1, A)
def v_forget (A : AW) (k : Int32) : Int32 × AW := if s_isTarget k = true then (bi ((A.rs k.toNatClampNeg).isSome || (A.tr k.toNatClampNeg).isSome), A.put k.toNatClampNeg (A.ru k.toNatClampNeg) none none) else (-1, A)
def v_feed (T : Nat × (Nat → Int32)) (x : Int32) : Int32 × (Nat × (Nat → Int32)) := if x < 1 ∨ 127 < x then (-2, T) else if T.1 < 50 then (nI (T.1 + 1), (T.1 + 1, va_up T.2 T.1 x)) else (-4, T)
/-- what a call may do to the heap: the places from lo up to hi, and new ones -/
def Ch (f g : Nat → Option va_E) (n n' w w' lo hi : Nat) : Prop := Ag f g lo hi n ∧ keeps f g ∧ (wfH f n → wfH g n') ∧ n ≤ n' ∧ n' ≤ n + 17 ∧ w' + 5 * n = w + 5 * n'
theorem Ch.rf (f : Nat → Option va_E) (n w lo hi : Nat) : Ch f f n n w w lo hi := ⟨Ag.rf _ _ _ _, keeps_rf _, id, Nat.le_refl _, by omega, rfl⟩
section M35
variable {B : Nat} {D : va_G} {n w : Nat} {f : Nat → Option va_E} {e : Nat} {im : Bool} {A : AW}
theorem c_X6_give (he : f e = some (ecell e im)) (hW : IsW f (e + 1 + 1) A) (hwf : wfH f n) (k v : Int32) : ∃ (n' w' : Nat) (g : Nat → Option va_E), CT B D 5 mX6_give [.ref e, .int k, .int v] (n, w, f) (some (.int (v_give A k v).1)) (n', w', g) ∧ IsW g (e + 1 + 1) (v_give A k v).2 ∧ Ch f g n n' w w' (e + 1 + 1 + 1) (e + 1 + 1 + 2) := by
  by_cases hk : s_isInput k = true
  · obtain ⟨j, hj, rfl⟩ := inI.mp hk
    by_cases hv : s_isContent v.toInt64 = true
    · by_cases hs : A.inn j = some v
      · have h0 : v_give A (nI j) v = (0, A) := by unfold v_give; rw [if_pos hk, if_pos hv, nI_clamp (by omega), if_pos hs]
        rw [h0]
        refine ⟨n, w, f, ?_, hW, Ch.rf _ _ _ _ _⟩
        refine CT.of [some (.ref e), some (.int (nI j)), some (.int v)] rfl (Nat.le_of_ble_eq_true rfl) pl_X6 trivial ?_
        refine px_iload_n dX6_give_0 rfl ?_
        refine px_callS1 (ν := mX6_isInput) lk_X6_46 st_X6_isInput mok_X6_isInput dX6_give_1 (c_X6_isInput _) rfl rfl (by omega) (by simp) ?_
        refine px_ifb_ne (tgt := 9) dX6_give_4 (by decide) (fun hc4 => ?_) (fun hc4 => ?_)
        · refine px_iload_n dX6_give_9 rfl ?_
          refine px_i2l dX6_give_10 ?_
          refine px_callS1 (ν := mX6_isContent) lk_X6_50 st_X6_isContent mok_X6_isContent dX6_give_11 (c_X6_isContent _) rfl rfl (by omega) (by simp) ?_
          refine px_ifb_ne (tgt := 20) dX6_give_14 (by decide) (fun hc14 => ?_) (fun hc14 => ?_)
          · refine px_aload_n dX6_give_20 rfl ?_
            refine px_getfield fl_X6_25 dX6_give_21 (by first | exact he | exact hW.1) (by rfl) ?_
            refine px_iload_n dX6_give_24 rfl ?_
            refine px_iload_n dX6_give_25 rfl ?_
            refine px_callV1 (ν := mX5_giveContent) (ci := 5) rfl rfl lk_X6_54 in_X5_giveContent se_X5_giveContent mok_X5_giveContent dX6_give_26 (c_X5_giveContent_same hW hj hs) (by first | exact he | exact hW.1) rfl rfl (by omega) (by simp) ?_
            refine px_ifb_eq (tgt := 36) dX6_give_29 (by decide) (fun hc29 => ?_) (fun hc29 => ?_)
            · refine px_iconst (v := 0) dX6_give_36 (by decide) ?_
              exact px_reti dX6_give_37 (by rfl) (by rfl)
            · cases hc29
          · rw [hv] at hc14; cases hc14
        · rw [hk] at hc4; cases hc4
      · have h0 : v_give A (nI j) v = (1, A.give j (some v)) := by unfold v_give; rw [if_pos hk, if_pos hv, nI_clamp (by omega), if_neg hs]
        rw [h0]
        obtain ⟨g, hC, g1, g2, g3, g4⟩ := c_X5_giveContent_new (B := B) (D := D) (w := w) hW hj hs hwf
        refine ⟨n + 1, w + 5, g, ?_, g1, g2, g3, fun _ => g4, by omega, by omega, by omega⟩
        refine CT.of [some (.ref e), some (.int (nI j)), some (.int v)] rfl (Nat.le_of_ble_eq_true rfl) pl_X6 trivial ?_
        refine px_iload_n dX6_give_0 rfl ?_
        refine px_callS1 (ν := mX6_isInput) lk_X6_46 st_X6_isInput mok_X6_isInput dX6_give_1 (c_X6_isInput _) rfl rfl (by omega) (by simp) ?_
        refine px_ifb_ne (tgt := 9) dX6_give_4 (by decide) (fun hc4 => ?_) (fun hc4 => ?_)
        · refine px_iload_n dX6_give_9 rfl ?_
          refine px_i2l dX6_give_10 ?_
          refine px_callS1 (ν := mX6_isContent) lk_X6_50 st_X6_isContent mok_X6_isContent dX6_give_11 (c_X6_isContent _) rfl rfl (by omega) (by simp) ?_
          refine px_ifb_ne (tgt := 20) dX6_give_14 (by decide) (fun hc14 => ?_) (fun hc14 => ?_)
          · refine px_aload_n dX6_give_20 rfl ?_
            refine px_getfield fl_X6_25 dX6_give_21 (by first | exact he | exact hW.1) (by rfl) ?_
            refine px_iload_n dX6_give_24 rfl ?_
            refine px_iload_n dX6_give_25 rfl ?_
            refine px_callV1 (ν := mX5_giveContent) (ci := 5) rfl rfl lk_X6_54 in_X5_giveContent se_X5_giveContent mok_X5_giveContent dX6_give_26 (hC) (by first | exact he | exact hW.1) rfl rfl (by omega) (by simp) ?_
            refine px_ifb_eq (tgt := 36) dX6_give_29 (by decide) (fun hc29 => ?_) (fun hc29 => ?_)
            · cases hc29
            · refine px_iconst (v := 1) dX6_give_32 (by decide) ?_
              refine px_goto (tgt := 37) dX6_give_33 (by decide) ?_
              exact px_reti dX6_give_37 (by rfl) (by rfl)
          · rw [hv] at hc14; cases hc14
        · rw [hk] at hc4; cases hc4
    · have h0 : v_give A (nI j) v = (-2, A) := by unfold v_give; rw [if_pos hk, if_neg hv]
      rw [h0]
      refine ⟨n, w, f, ?_, hW, Ch.rf _ _ _ _ _⟩
      refine CT.of [some (.ref e), some (.int (nI j)), some (.int v)] rfl (Nat.le_of_ble_eq_true rfl) pl_X6 trivial ?_
      refine px_iload_n dX6_give_0 rfl ?_
      refine px_callS1 (ν := mX6_isInput) lk_X6_46 st_X6_isInput mok_X6_isInput dX6_give_1 (c_X6_isInput _) rfl rfl (by omega) (by simp) ?_
      refine px_ifb_ne (tgt := 9) dX6_give_4 (by decide) (fun hc4 => ?_) (fun hc4 => ?_)
      · refine px_iload_n dX6_give_9 rfl ?_
        refine px_i2l dX6_give_10 ?_
        refine px_callS1 (ν := mX6_isContent) lk_X6_50 st_X6_isContent mok_X6_isContent dX6_give_11 (c_X6_isContent _) rfl rfl (by omega) (by simp) ?_
        refine px_ifb_ne (tgt := 20) dX6_give_14 (by decide) (fun hc14 => ?_) (fun hc14 => ?_)
        · exact absurd hc14 hv
        · refine px_bipush (v := (-2)) dX6_give_17 (by decide) ?_
          exact px_reti dX6_give_19 (by rfl) (by rfl)
      · rw [hk] at hc4; cases hc4
  · have h0 : v_give A k v = (-1, A) := by unfold v_give; rw [if_neg hk]
    rw [h0]
    refine ⟨n, w, f, ?_, hW, Ch.rf _ _ _ _ _⟩
    refine CT.of [some (.ref e), some (.int k), some (.int v)] rfl (Nat.le_of_ble_eq_true rfl) pl_X6 trivial ?_
    refine px_iload_n dX6_give_0 rfl ?_
    refine px_callS1 (ν := mX6_isInput) lk_X6_46 st_X6_isInput mok_X6_isInput dX6_give_1 (c_X6_isInput _) rfl rfl (by omega) (by simp) ?_
    refine px_ifb_ne (tgt := 9) dX6_give_4 (by decide) (fun hc4 => ?_) (fun hc4 => ?_)
    · exact absurd hc4 hk
    · refine px_iconst (v := (-1)) dX6_give_7 (by decide) ?_
      exact px_reti dX6_give_8 (by rfl) (by rfl)
theorem c_X6_take (he : f e = some (ecell e im)) (hW : IsW f (e + 1 + 1) A) (hwf : wfH f n) (k : Int32) : ∃ g : Nat → Option va_E, CT B D 5 mX6_take [.ref e, .int k] (n, w, f) (some (.int (v_take A k).1)) (n, w, g) ∧ IsW g (e + 1 + 1) (v_take A k).2 ∧ Ch f g n n w w (e + 1 + 1 + 1) (e + 1 + 1 + 2) := by
  by_cases hk : s_isInput k = true
  · obtain ⟨j, hj, rfl⟩ := inI.mp hk
    obtain ⟨q, hq, hc⟩ := c_X5_contentOf (B := B) (D := D) (n := n) (w := w) hW hj
    cases hi : A.inn j with
    | none =>
      rw [hi] at hc
      cases hc
      have h0 : v_take A (nI j) = (-3, A) := by unfold v_take; rw [if_pos hk, nI_clamp (by omega), hi]
      rw [h0]
      refine ⟨f, ?_, hW, Ch.rf _ _ _ _ _⟩
      refine CT.of [some (.ref e), some (.int (nI j)), none] rfl (Nat.le_of_ble_eq_true rfl) pl_X6 trivial ?_
      refine px_aload_n dX6_take_0 rfl ?_
      refine px_getfield fl_X6_25 dX6_take_1 (by first | exact he | exact hW.1) (by rfl) ?_
      refine px_iload_n dX6_take_4 rfl ?_
      refine px_callV1 (ν := mX5_contentOf) (ci := 5) rfl rfl lk_X6_58 in_X5_contentOf se_X5_contentOf mok_X5_contentOf dX6_take_5 (hq) (by first | exact he | exact hW.1) rfl rfl (by omega) (by simp) ?_
      refine px_astoreN2 rfl dX6_take_8 ?_
      refine px_aload_nN dX6_take_9 rfl ?_
      refine px_ifnonnull_f dX6_take_10 ?_
      refine px_iload_n dX6_take_13 rfl ?_
      refine px_callS1 (ν := mX6_isInput) lk_X6_46 st_X6_isInput mok_X6_isInput dX6_take_14 (c_X6_isInput _) rfl rfl (by omega) (by simp) ?_
      refine px_ifb_eq (tgt := 25) dX6_take_17 (by decide) (fun hc17 => ?_) (fun hc17 => ?_)
      · rw [hk] at hc17; cases hc17
      · refine px_bipush (v := (-3)) dX6_take_20 (by decide) ?_
        refine px_goto (tgt := 26) dX6_take_22 (by decide) ?_
        exact px_reti dX6_take_26 (by rfl) (by rfl)
    | some c =>
      rw [hi] at hc
      obtain ⟨p, rfl, p0, q0, hp0, hpc, htl⟩ := hc
      cases hp0
      have h0 : v_take A (nI j) = (c, A.give j none) := by unfold v_take; rw [if_pos hk, nI_clamp (by omega), hi]
      rw [h0]
      obtain ⟨g, hC, g1, g2, g3, g4⟩ := c_X5_takeContent (B := B) (D := D) (n := n) (w := w) hW hj (hW.top hwf)
      have hpg := g3 _ _ hpc
      refine ⟨g, ?_, g1, g2, g3, g4, Nat.le_refl _, by omega, rfl⟩
      refine CT.of [some (.ref e), some (.int (nI j)), none] rfl (Nat.le_of_ble_eq_true rfl) pl_X6 trivial ?_
      refine px_aload_n dX6_take_0 rfl ?_
      refine px_getfield fl_X6_25 dX6_take_1 (by first | exact he | exact hW.1 | exact hpg) (by rfl) ?_
      refine px_iload_n dX6_take_4 rfl ?_
      refine px_callV1 (ν := mX5_contentOf) (ci := 5) rfl rfl lk_X6_58 in_X5_contentOf se_X5_contentOf mok_X5_contentOf dX6_take_5 (hq) (by first | exact he | exact hW.1 | exact hpg) rfl rfl (by omega) (by simp) ?_
      refine px_astore2 rfl dX6_take_8 ?_
      refine px_aload_n dX6_take_9 rfl ?_
      refine px_ifnonnull_t (tgt := 27) dX6_take_10 (by decide) ?_
      refine px_aload_n dX6_take_27 rfl ?_
      refine px_getfield fl_X6_25 dX6_take_28 (by first | exact he | exact hW.1 | exact hpg) (by rfl) ?_
      refine px_iload_n dX6_take_31 rfl ?_
      refine px_callV0 (ν := mX5_takeContent) (ci := 5) rfl rfl lk_X6_62 in_X5_takeContent se_X5_takeContent mok_X5_takeContent dX6_take_32 (hC) (by first | exact he | exact hW.1 | exact hpg) rfl rfl (by omega) (by simp) ?_
      refine px_aload_n dX6_take_35 rfl ?_
      refine px_getfield fl_X6_66 dX6_take_36 (by first | exact he | exact hW.1 | exact hpg) (by rfl) ?_
      exact px_reti dX6_take_39 (by rfl) (by rfl)
  · have hk' : s_isInput k = false := by simpa using hk
    have h0 : v_take A k = (-1, A) := by unfold v_take; rw [if_neg hk]
    rw [h0]
    refine ⟨f, ?_, hW, Ch.rf _ _ _ _ _⟩
    refine CT.of [some (.ref e), some (.int k), none] rfl (Nat.le_of_ble_eq_true rfl) pl_X6 trivial ?_
    refine px_aload_n dX6_take_0 rfl ?_
    refine px_getfield fl_X6_25 dX6_take_1 (by first | exact he | exact hW.1) (by rfl) ?_
    refine px_iload_n dX6_take_4 rfl ?_
    refine px_callV1 (ν := mX5_contentOf) (ci := 5) rfl rfl lk_X6_58 in_X5_contentOf se_X5_contentOf mok_X5_contentOf dX6_take_5 (c_X5_contentOf_n hk') (by first | exact he | exact hW.1) rfl rfl (by omega) (by simp) ?_
    refine px_astoreN2 rfl dX6_take_8 ?_
    refine px_aload_nN dX6_take_9 rfl ?_
    refine px_ifnonnull_f dX6_take_10 ?_
    refine px_iload_n dX6_take_13 rfl ?_
    refine px_callS1 (ν := mX6_isInput) lk_X6_46 st_X6_isInput mok_X6_isInput dX6_take_14 (c_X6_isInput _) rfl rfl (by omega) (by simp) ?_
    refine px_ifb_eq (tgt := 25) dX6_take_17 (by decide) (fun hc17 => ?_) (fun hc17 => ?_)
    · refine px_iconst (v := (-1)) dX6_take_25 (by decide) ?_
      exact px_reti dX6_take_26 (by rfl) (by rfl)
    · exact absurd hc17 hk
theorem c_X6_drop (he : f e = some (ecell e im)) (hW : IsW f (e + 1 + 1) A) (hwf : wfH f n) (k : Int32) : ∃ g : Nat → Option va_E, CT B D 5 mX6_drop [.ref e, .int k] (n, w, f) (some (.int (v_drop A k).1)) (n, w, g) ∧ IsW g (e + 1 + 1) (v_drop A k).2 ∧ Ch f g n n w w (e + 1 + 1) (e + 1 + 1 + 85) := by
  by_cases hk : s_isTarget k = true
  · obtain ⟨t, ht, rfl⟩ := inT.mp hk
    obtain ⟨c, q, l, sg, fg, tk, tp, h1, h2, h3, h4, h5, h6⟩ := hW.2.2.2.2.2 t ht
    subst h3
    have hz : (nI (A.ru (8 + t)).length = 0) = ((A.ru (8 + t)).isEmpty = true) := propext ((nI_eq (a := (A.ru (8 + t)).length) (b := 0) (by omega) (by omega)).trans (by rw [List.isEmpty_iff_length_eq_zero]))
    by_cases hem : (A.ru (8 + t)).isEmpty = true
    · have h0 : v_drop A (nI (8 + t)) = (-3, A) := by unfold v_drop; rw [if_pos hk, clamp_lt _ (by omega), if_pos hem]
      rw [h0]
      refine ⟨f, ?_, hW, Ch.rf _ _ _ _ _⟩
      refine CT.of [some (.ref e), some (.int (nI (8 + t))), none, none] rfl (Nat.le_of_ble_eq_true rfl) pl_X6 trivial ?_
      refine px_aload_n dX6_drop_0 rfl ?_
      refine px_getfield fl_X6_25 dX6_drop_1 (by first | exact he | exact hW.1 | exact h1.1) (by rfl) ?_
      refine px_iload_n dX6_drop_4 rfl ?_
      refine px_callV1 (ν := mX5_targetOf) (ci := 5) rfl rfl lk_X6_82 in_X5_targetOf se_X5_targetOf mok_X5_targetOf dX6_drop_5 (c_X5_targetOf hW ht) (by first | exact he | exact hW.1 | exact h1.1) rfl rfl (by omega) (by simp) ?_
      refine px_astore2 rfl dX6_drop_8 ?_
      refine px_aload_n dX6_drop_9 rfl ?_
      refine px_ifnonnull_t (tgt := 15) dX6_drop_10 (by decide) ?_
      refine px_aload_n dX6_drop_15 rfl ?_
      refine px_getfield fl_X6_95 dX6_drop_16 (by first | exact he | exact hW.1 | exact h1.1) (by rfl) ?_
      refine px_istore3 rfl dX6_drop_19 ?_
      refine px_iload_n dX6_drop_20 rfl ?_
      refine px_if_ne (tgt := 27) dX6_drop_21 (by decide) (fun hc21 => ?_) (fun hc21 => ?_)
      · exact absurd (hz.mpr hem) hc21
      · refine px_bipush (v := (-3)) dX6_drop_24 (by decide) ?_
        exact px_reti dX6_drop_26 (by rfl) (by rfl)
    · have h0 : v_drop A (nI (8 + t)) = (nI (A.ru (8 + t)).length, A.put (8 + t) [] (A.rs (8 + t)) none) := by unfold v_drop; rw [if_pos hk, clamp_lt _ (by omega), if_neg hem]
      rw [h0]
      have hA : ∀ N, Ag f (va_up f (e + 1 + 1 + 5 + 5 * t) (some (tcell (e + 1 + 1 + 5 + 5 * t) 0 q (-1)))) (e + 1 + 1 + 5 + 5 * t) (e + 1 + 1 + 5 + 5 * t + 5) N := fun N => (Ag.rf _ _ _ _).up (by omega) (by omega)
      have hK := ag_keeps hA h1
      refine ⟨_, ?_, hW.put ht (hW.top hwf) (hA n) hK ⟨0, q, -1, sg, fg, tk, tp, h1.obj 0 (-1) q, Nat.zero_le _, rfl, fun i x hx => by simp at hx, ⟨chO_keep hK h5.1, h5.2.keep hK⟩, rfl⟩, (hA n).wide (by omega) (by omega), hK, fun h => h.up (h.lt h1.1), Nat.le_refl _, by omega, rfl⟩
      refine CT.of [some (.ref e), some (.int (nI (8 + t))), none, none] rfl (Nat.le_of_ble_eq_true rfl) pl_X6 trivial ?_
      refine px_aload_n dX6_drop_0 rfl ?_
      refine px_getfield fl_X6_25 dX6_drop_1 (by first | exact he | exact hW.1 | exact h1.1) (by rfl) ?_
      refine px_iload_n dX6_drop_4 rfl ?_
      refine px_callV1 (ν := mX5_targetOf) (ci := 5) rfl rfl lk_X6_82 in_X5_targetOf se_X5_targetOf mok_X5_targetOf dX6_drop_5 (c_X5_targetOf hW ht) (by first | exact he | exact hW.1 | exact h1.1) rfl rfl (by omega) (by simp) ?_
      refine px_astore2 rfl dX6_drop_8 ?_
      refine px_aload_n dX6_drop_9 rfl ?_
      refine px_ifnonnull_t (tgt := 15) dX6_drop_10 (by decide) ?_
      refine px_aload_n dX6_drop_15 rfl ?_
      refine px_getfield fl_X6_95 dX6_drop_16 (by first | exact he | exact hW.1 | exact h1.1) (by rfl) ?_
      refine px_istore3 rfl dX6_drop_19 ?_
      refine px_iload_n dX6_drop_20 rfl ?_
      refine px_if_ne (tgt := 27) dX6_drop_21 (by decide) (fun hc21 => ?_) (fun hc21 => ?_)
      · refine px_aload_n dX6_drop_27 rfl ?_
        refine px_callV0 (ν := mX4_dropRule) (ci := 4) rfl rfl lk_X6_98 in_X4_dropRule se_X4_dropRule mok_X4_dropRule dX6_drop_28 (c_X4_dropRule h1) (by first | exact he | exact hW.1 | exact h1.1) rfl rfl (by omega) (by simp) ?_
        refine px_iload_n dX6_drop_31 rfl ?_
        exact px_reti dX6_drop_32 (by rfl) (by rfl)
      · exact absurd (hz.mp hc21) hem
  · have hk' : s_isTarget k = false := by simpa using hk
    have h0 : v_drop A k = (-1, A) := by unfold v_drop; rw [if_neg hk]
    rw [h0]
    refine ⟨f, ?_, hW, Ch.rf _ _ _ _ _⟩
    refine CT.of [some (.ref e), some (.int k), none, none] rfl (Nat.le_of_ble_eq_true rfl) pl_X6 trivial ?_
    refine px_aload_n dX6_drop_0 rfl ?_
    refine px_getfield fl_X6_25 dX6_drop_1 (by first | exact he | exact hW.1) (by rfl) ?_
    refine px_iload_n dX6_drop_4 rfl ?_
    refine px_callV1 (ν := mX5_targetOf) (ci := 5) rfl rfl lk_X6_82 in_X5_targetOf se_X5_targetOf mok_X5_targetOf dX6_drop_5 (c_X5_targetOf_n hk') (by first | exact he | exact hW.1) rfl rfl (by omega) (by simp) ?_
    refine px_astoreN2 rfl dX6_drop_8 ?_
    refine px_aload_nN dX6_drop_9 rfl ?_
    refine px_ifnonnull_f dX6_drop_10 ?_
    refine px_iconst (v := (-1)) dX6_drop_13 (by decide) ?_
    exact px_reti dX6_drop_14 (by rfl) (by rfl)
end M35
