/-! rules in the forms in which the walks use them -/
def bi (p : Bool) : Int32 := if p then 1 else 0
theorem bi_t : bi true = 1 := rfl
theorem bi_f : bi false = 0 := rfl
theorem bi_eq0 {p : Bool} : bi p = 0 ↔ p = false := by cases p <;> simp [bi]
theorem bi_01 (p : Bool) : bi p = 0 ∨ bi p = 1 := by cases p <;> simp [bi]
theorem bi_dec {p : Bool} {x : Int32} (h : x = 0 ∨ x = 1) (hp : p = decide (x = 1)) : x = bi p := by subst hp; rcases h with rfl | rfl <;> rfl
theorem lgc_lt {x y : Int64} : lg_cmp x y < 0 ↔ x < y := by
  unfold lg_cmp
  split
  · next h => constructor
              · intro h2; exact absurd h2 (by decide)
              · intro h2; exact absurd h2 (lg_lt_not h)
  · next h => split
              · next h3 => subst h3; simp
              · next h3 => constructor
                           · intro _
                             have : x.toInt ≠ y.toInt := fun e => h3 (Int64.toInt_inj.mp e)
                             simp only [gt_iff_lt, Int64.lt_iff_toInt_lt] at h ⊢
                             omega
                           · intro _; decide
theorem lgc_gt {x y : Int64} : 0 < lg_cmp x y ↔ y < x := by
  unfold lg_cmp
  split
  · next h => exact ⟨fun _ => h, fun _ => by decide⟩
  · next h => split
              · exact ⟨fun h2 => absurd h2 (by decide), fun h2 => absurd h2 h⟩
              · exact ⟨fun h2 => absurd h2 (by decide), fun h2 => absurd h2 h⟩
theorem lgc_eq {x y : Int64} : lg_cmp x y = 0 ↔ x = y := by
  unfold lg_cmp
  split
  · next h => exact ⟨fun h2 => absurd h2 (by decide), fun h2 => absurd h2.symm (lg_lt_ne h)⟩
  · next h => split
              · next h3 => exact ⟨fun _ => h3, fun _ => rfl⟩
              · next h3 => exact ⟨fun h2 => absurd h2 (by decide), fun h2 => absurd h2 h3⟩
theorem lgc_ge {x y : Int64} : 0 ≤ lg_cmp x y ↔ ¬ x < y := by rw [← lgc_lt, Int32.not_lt]
theorem lgc_le {x y : Int64} : lg_cmp x y ≤ 0 ↔ ¬ y < x := by rw [← lgc_gt, Int32.not_lt]
section PW
variable {B : Nat} {D : va_G} {d : Nat} {μ : pm_M} {pc : Nat} {ls : pm_Ls} {st : List Value} {h : pm_H} {n w : Nat} {f : Nat → Option va_E} {r : Option Value} {h1 : pm_H}
theorem px_ifb_eq {p : Bool} {off : Int} {tgt : Nat} (hd : decode μ.2.1 pc = .ok (.ifCond .eq off, 3)) (ht : (pc : Int) + off = (tgt : Int)) (kt : p = false → EX B D d μ tgt ls st h r h1) (kf : p = true → EX B D d μ (pc + 3) ls st h r h1) : EX B D d μ pc ls (.int (bi p) :: st) h r h1 :=
  px_if_eq hd ht (fun hc => kt (bi_eq0.mp hc)) (fun hc => kf (by cases p with | false => exact absurd rfl hc | true => rfl))
theorem px_ifb_ne {p : Bool} {off : Int} {tgt : Nat} (hd : decode μ.2.1 pc = .ok (.ifCond .ne off, 3)) (ht : (pc : Int) + off = (tgt : Int)) (kt : p = true → EX B D d μ tgt ls st h r h1) (kf : p = false → EX B D d μ (pc + 3) ls st h r h1) : EX B D d μ pc ls (.int (bi p) :: st) h r h1 :=
  px_if_ne hd ht (fun hc => kt (by cases p with | false => exact absurd rfl hc | true => rfl)) (fun hc => kf (bi_eq0.mp hc))
theorem px_l_eq {x y : Int64} {off : Int} {tgt : Nat} (hd0 : decode μ.2.1 pc = .ok (.lcmp, 1)) (hd : decode μ.2.1 (pc + 1) = .ok (.ifCond .eq off, 3)) (ht : ((pc + 1 : Nat) : Int) + off = (tgt : Int)) (kt : x = y → EX B D d μ tgt ls st h r h1) (kf : ¬ x = y → EX B D d μ (pc + 1 + 3) ls st h r h1) : EX B D d μ pc ls (.long y :: .long x :: st) h r h1 :=
  px_lcmp hd0 (px_if_eq hd ht (fun hc => kt (lgc_eq.mp hc)) (fun hc => (kf (fun h => hc (lgc_eq.mpr h)))))
theorem px_l_lt {x y : Int64} {off : Int} {tgt : Nat} (hd0 : decode μ.2.1 pc = .ok (.lcmp, 1)) (hd : decode μ.2.1 (pc + 1) = .ok (.ifCond .lt off, 3)) (ht : ((pc + 1 : Nat) : Int) + off = (tgt : Int)) (kt : x < y → EX B D d μ tgt ls st h r h1) (kf : ¬ x < y → EX B D d μ (pc + 1 + 3) ls st h r h1) : EX B D d μ pc ls (.long y :: .long x :: st) h r h1 :=
  px_lcmp hd0 (px_if_lt hd ht (fun hc => kt (lgc_lt.mp hc)) (fun hc => (kf (fun h => hc (lgc_lt.mpr h)))))
theorem px_l_gt {x y : Int64} {off : Int} {tgt : Nat} (hd0 : decode μ.2.1 pc = .ok (.lcmp, 1)) (hd : decode μ.2.1 (pc + 1) = .ok (.ifCond .gt off, 3)) (ht : ((pc + 1 : Nat) : Int) + off = (tgt : Int)) (kt : y < x → EX B D d μ tgt ls st h r h1) (kf : ¬ y < x → EX B D d μ (pc + 1 + 3) ls st h r h1) : EX B D d μ pc ls (.long y :: .long x :: st) h r h1 :=
  px_lcmp hd0 (px_if_gt hd ht (fun hc => kt (lgc_gt.mp hc)) (fun hc => (kf (fun h => hc (lgc_gt.mpr h)))))
theorem px_l_ge {x y : Int64} {off : Int} {tgt : Nat} (hd0 : decode μ.2.1 pc = .ok (.lcmp, 1)) (hd : decode μ.2.1 (pc + 1) = .ok (.ifCond .ge off, 3)) (ht : ((pc + 1 : Nat) : Int) + off = (tgt : Int)) (kt : ¬ x < y → EX B D d μ tgt ls st h r h1) (kf : x < y → EX B D d μ (pc + 1 + 3) ls st h r h1) : EX B D d μ pc ls (.long y :: .long x :: st) h r h1 :=
  px_lcmp hd0 (px_if_ge hd ht (fun hc => kt (lgc_ge.mp hc)) (fun hc => (kf (Decidable.not_not.mp (fun h => hc (lgc_ge.mpr h))))))
theorem px_l_le {x y : Int64} {off : Int} {tgt : Nat} (hd0 : decode μ.2.1 pc = .ok (.lcmp, 1)) (hd : decode μ.2.1 (pc + 1) = .ok (.ifCond .le off, 3)) (ht : ((pc + 1 : Nat) : Int) + off = (tgt : Int)) (kt : ¬ y < x → EX B D d μ tgt ls st h r h1) (kf : y < x → EX B D d μ (pc + 1 + 3) ls st h r h1) : EX B D d μ pc ls (.long y :: .long x :: st) h r h1 :=
  px_lcmp hd0 (px_if_le hd ht (fun hc => kt (lgc_le.mp hc)) (fun hc => (kf (Decidable.not_not.mp (fun h => hc (lgc_le.mpr h))))))
theorem px_l_ne {x y : Int64} {off : Int} {tgt : Nat} (hd0 : decode μ.2.1 pc = .ok (.lcmp, 1)) (hd : decode μ.2.1 (pc + 1) = .ok (.ifCond .ne off, 3)) (ht : ((pc + 1 : Nat) : Int) + off = (tgt : Int)) (kt : ¬ x = y → EX B D d μ tgt ls st h r h1) (kf : x = y → EX B D d μ (pc + 1 + 3) ls st h r h1) : EX B D d μ pc ls (.long y :: .long x :: st) h r h1 :=
  px_lcmp hd0 (px_if_ne hd ht (fun hc => kt (fun h => hc (lgc_eq.mpr h))) (fun hc => kf (lgc_eq.mp hc)))
theorem px_reti {v : Int32} (hd : decode μ.2.1 pc = .ok (pm_ret μ.2.2.2, 1)) (hr : r = some (.int v)) (hh : h1 = h) : EX B D d μ pc ls [.int v] h r h1 := by
  subst hr; subst hh; obtain ⟨n, w, f⟩ := h1; exact px_ret rfl hd
theorem px_retl {v : Int64} (hd : decode μ.2.1 pc = .ok (pm_ret μ.2.2.2, 1)) (hr : r = some (.long v)) (hh : h1 = h) : EX B D d μ pc ls [.long v] h r h1 := by
  subst hr; subst hh; obtain ⟨n, w, f⟩ := h1; exact px_ret rfl hd
theorem px_reta {v : Value} (hd : decode μ.2.1 pc = .ok (pm_ret μ.2.2.2, 1)) (hr : r = some v) (hh : h1 = h) : EX B D d μ pc ls [v] h r h1 := by
  subst hr; subst hh; obtain ⟨n, w, f⟩ := h1; exact px_ret rfl hd
theorem px_retv (hd : decode μ.2.1 pc = .ok (pm_ret μ.2.2.2, 1)) (hr : r = none) (hh : h1 = h) : EX B D d μ pc ls [] h r h1 := by
  subst hr; subst hh; obtain ⟨n, w, f⟩ := h1; exact px_ret rfl hd
/-- the joined road: a condition's two roads that come to one place -/
theorem px_eqst {st' : List Value} (he : st = st') (kk : EX B D d μ pc ls st' h r h1) : EX B D d μ pc ls st h r h1 := he ▸ kk
end PW
section PC
variable {B : Nat} {D : va_G} {d : Nat} {μ : pm_M} {pc : Nat} {ls : pm_Ls} {st : List Value} {n w : Nat} {f : Nat → Option va_E} {r : Option Value} {h1 : pm_H}
theorem px_callV1 {ν : pm_M} {i ci b k d1 : Nat} {q : vw_C} {fs : List Value} {As sk : List Value} {v : Value} {h2 : pm_H} (hq0 : pm_cl[ci]? = some q) (hqc : q.1 = ν.1.cls) (hl : Cond.methodLink μ.1.cls i ν.1 ∈ pm_gw) (hin : Cond.instanceMethod ν.1 ∈ pm_gw) (hse : Cond.selects ν.1.cls ν.1 ν.1 ∈ pm_gw) (hν : pm_mok ν k) (hd : decode μ.2.1 pc = .ok (.invokevirtual i, 3)) (hC : CT B D d1 ν (.ref b :: As) (n, w, f) (some v) h2) (hb : f b = some (.inr (ci, fs))) (hk : As.length = k) (hsk : sk = As.reverse ++ .ref b :: st) (hdd : d1 + 1 ≤ d) (hst : st.length ≤ 4) (kk : EX B D d μ (pc + 3) ls (v :: st) h2 r h1) : EX B D d μ pc ls sk (n, w, f) r h1 :=
  px_callV hq0 hqc hl hin hse hν hd hC hb hk hsk hdd hst kk
theorem px_callV0 {ν : pm_M} {i ci b k d1 : Nat} {q : vw_C} {fs : List Value} {As sk : List Value} {h2 : pm_H} (hq0 : pm_cl[ci]? = some q) (hqc : q.1 = ν.1.cls) (hl : Cond.methodLink μ.1.cls i ν.1 ∈ pm_gw) (hin : Cond.instanceMethod ν.1 ∈ pm_gw) (hse : Cond.selects ν.1.cls ν.1 ν.1 ∈ pm_gw) (hν : pm_mok ν k) (hd : decode μ.2.1 pc = .ok (.invokevirtual i, 3)) (hC : CT B D d1 ν (.ref b :: As) (n, w, f) none h2) (hb : f b = some (.inr (ci, fs))) (hk : As.length = k) (hsk : sk = As.reverse ++ .ref b :: st) (hdd : d1 + 1 ≤ d) (hst : st.length ≤ 4) (kk : EX B D d μ (pc + 3) ls st h2 r h1) : EX B D d μ pc ls sk (n, w, f) r h1 :=
  px_callV hq0 hqc hl hin hse hν hd hC hb hk hsk hdd hst kk
theorem px_callS1 {ν : pm_M} {i k d1 : Nat} {As sk : List Value} {v : Value} {h2 : pm_H} (hl : Cond.methodLink μ.1.cls i ν.1 ∈ pm_gw) (hstt : Cond.static ν.1 ∈ pm_gw) (hν : pm_mok ν k) (hd : decode μ.2.1 pc = .ok (.invokestatic i, 3)) (hC : CT B D d1 ν As (n, w, f) (some v) h2) (hk : As.length = k) (hsk : sk = As.reverse ++ st) (hdd : d1 + 1 ≤ d) (hst : st.length ≤ 4) (kk : EX B D d μ (pc + 3) ls (v :: st) h2 r h1) : EX B D d μ pc ls sk (n, w, f) r h1 :=
  px_callS hl hstt hν hd hC hk hsk hdd hst kk
theorem px_callS0 {ν : pm_M} {i k d1 : Nat} {As sk : List Value} {h2 : pm_H} (hl : Cond.methodLink μ.1.cls i ν.1 ∈ pm_gw) (hstt : Cond.static ν.1 ∈ pm_gw) (hν : pm_mok ν k) (hd : decode μ.2.1 pc = .ok (.invokestatic i, 3)) (hC : CT B D d1 ν As (n, w, f) none h2) (hk : As.length = k) (hsk : sk = As.reverse ++ st) (hdd : d1 + 1 ≤ d) (hst : st.length ≤ 4) (kk : EX B D d μ (pc + 3) ls st h2 r h1) : EX B D d μ pc ls sk (n, w, f) r h1 :=
  px_callS hl hstt hν hd hC hk hsk hdd hst kk
theorem px_callSN1 {ν : pm_M} {i k d1 : Nat} {As sk : List Value} {v : Value} {h2 : pm_H} (hl : pm_lkN μ.1.cls i ν.1) (hstt : Cond.static ν.1 ∈ pm_gw) (hν : pm_mok ν k) (hd : decode μ.2.1 pc = .ok (.invokestatic i, 3)) (hC : CT B D d1 ν As (n, w, f) (some v) h2) (hk : As.length = k) (hsk : sk = As.reverse ++ st) (hdd : d1 + 1 ≤ d) (hst : st.length ≤ 4) (kk : EX B D d μ (pc + 3) ls (v :: st) h2 r h1) : EX B D d μ pc ls sk (n, w, f) r h1 :=
  px_callSN hl hstt hν hd hC hk hsk hdd hst kk
theorem px_callSN0 {ν : pm_M} {i k d1 : Nat} {As sk : List Value} {h2 : pm_H} (hl : pm_lkN μ.1.cls i ν.1) (hstt : Cond.static ν.1 ∈ pm_gw) (hν : pm_mok ν k) (hd : decode μ.2.1 pc = .ok (.invokestatic i, 3)) (hC : CT B D d1 ν As (n, w, f) none h2) (hk : As.length = k) (hsk : sk = As.reverse ++ st) (hdd : d1 + 1 ≤ d) (hst : st.length ≤ 4) (kk : EX B D d μ (pc + 3) ls st h2 r h1) : EX B D d μ pc ls sk (n, w, f) r h1 :=
  px_callSN hl hstt hν hd hC hk hsk hdd hst kk
theorem px_copyi {i a0 a1 m0 m1 : Nat} {g0 g1 : Nat → Int32} {sp dp k : Int32} (hl : Cond.methodLink μ.1.cls i arraycopyName ∈ pm_gw) (hd : decode μ.2.1 pc = .ok (.invokestatic i, 3)) (ha0 : f a0 = some (.inl (0, m0, .inl g0))) (ha1 : f a1 = some (.inl (0, m1, .inl g1))) (hs1 : ¬ sp < 0) (hs2 : ¬ dp < 0) (hs3 : ¬ k < 0) (hs4 : sp.toNatClampNeg + k.toNatClampNeg ≤ m0) (hs5 : dp.toNatClampNeg + k.toNatClampNeg ≤ m1) (hd0 : 1 ≤ d) (hst : st.length ≤ 4)
    (kk : EX B D d μ (pc + 3) ls st (n, w, va_up f a1 (some (.inl (0, m1, .inl (va_cpy g0 g1 sp.toNatClampNeg dp.toNatClampNeg k.toNatClampNeg))))) r h1) : EX B D d μ pc ls (.int k :: .int dp :: .ref a1 :: .int sp :: .ref a0 :: st) (n, w, f) r h1 := by
  refine ⟨kk.1, fun p l e R s m args below meth c H locs lsA n0 w0 Q cx hl' hR hlo e1 e2 e3 e4 hq => ?_⟩
  have hts := cx.2.2.2.2.2.1
  have h8 := pm_rest4 hst
  have hR1 := cx.2.2.2.2.2.2.2.2.2.1
  have hR2 := cx.2.2.2.2.2.2.2.2.2.2
  obtain ⟨hBa0, c0, hA0, hRA0, hc0⟩ := pm_arr (hR.2.2 a0 _ ha0) (by decide)
  obtain ⟨hBa1, c1, hA1, hRA1, hc1⟩ := pm_arr (hR.2.2 a1 _ ha1) (by decide)
  obtain ⟨-, k0, hk0, cm0, hkk0⟩ := hA0 m0 (fun j => .int (g0 j))
  obtain ⟨-, k1, hk1, cm1, hkk1⟩ := hA1 m1 (fun j => .int (g1 j))
  have nn : ∀ z : Int32, ¬ z < 0 → z.toInt = (z.toNatClampNeg : Int) := by
    intro z hz
    have hz0 : (0 : Int) ≤ z.toInt := by
      have := Int32.not_lt.mp hz
      simpa using Int32.le_iff_toInt_le.mp this
    show z.toInt = ((z.toInt.toNat : Nat) : Int)
    omega
  intro T hT X
  obtain ⟨vm', X', step⟩ := X.arraycopy cx.1 cx.2.2.2.2.1 (hts _ hl) (hts _ nat_copy) (hts _ st_copy) (hts _ ini_RJ10) (src := a0) (dst := a1) (cs := vp_cell c0 (m0, .inl g0)) (cd := vp_cell c1 (m1, .inl g1)) (srcPos := sp) (destPos := dp) (n := k) (by rw [hT]; exact hc0) (by rw [hT]; exact hc1)
    (fun _ h => by cases h) (fun _ h => by cases h) (fun h => by cases h) (fun h => by cases h) hk0 hk1 hkk0 hkk1 (by rfl) hs1 hs2 hs3
    (by rw [nn sp hs1, nn k hs3]; show ¬ _ > ((arrV c0 m0 (fun j => .int (g0 j))).slots.size : Int); rw [arrV_size]; omega)
    (by rw [nn dp hs2, nn k hs3]; show ¬ _ > ((arrV c1 m1 (fun j => .int (g1 j))).slots.size : Int); rw [arrV_size]; omega)
    (fun vm₁ _ i hi => by
      have e : (vp_cell c0 (m0, .inl g0)).slots.getD (sp.toNatClampNeg + i) .null = .int (g0 (sp.toNatClampNeg + i)) := by
        show (arrV c0 m0 (fun j => .int (g0 j))).slots.getD _ _ = _
        rw [Array.getD_eq_getD_getElem?, arrV_read _ _ (by omega)]
        rfl
      refine ⟨?_, ?_⟩
      · rw [e]
        rfl
      · rw [e]
        exact trivial)
    (g := F0 m pc lsA (.int k :: .int dp :: .ref a1 :: .int sp :: .ref a0 :: st)) rfl (by rw [cx.2.2.2.1]; exact hl'.1) (rest := st) rfl (by rw [cx.2.1]; exact hd) (by omega) (by show 2 * 0 + _ + (7 + 11) ≤ _; omega)
  have e5 : copied (vp_cell c0 (m0, .inl g0)) (vp_cell c1 (m1, .inl g1)) sp dp k = vp_cell c1 (m1, .inl (va_cpy g0 g1 sp.toNatClampNeg dp.toNatClampNeg k.toNatClampNeg)) := va_copied (fun z => .int z) c0 c1 g0 g1 hs4
  rw [e5] at X' step
  have hl2 : a1 < H.size := (Array.getElem?_eq_some_iff.mp hc1).1
  have hheap : ((T.setVm vm').setCell a1 (vp_cell c1 (m1, .inl (va_cpy g0 g1 sp.toNatClampNeg dp.toNatClampNeg k.toNatClampNeg)))).heap = H.setIfInBounds a1 (vp_cell c1 (m1, .inl (va_cpy g0 g1 sp.toNatClampNeg dp.toNatClampNeg k.toNatClampNeg))) := by rw [← hT]; rfl
  have oq : ∀ q : Nat, q ≠ a1 → (H.setIfInBounds a1 (vp_cell c1 (m1, .inl (va_cpy g0 g1 sp.toNatClampNeg dp.toNatClampNeg k.toNatClampNeg))))[q]? = H[q]? := fun q hq => by simp [Array.getElem?_setIfInBounds, Ne.symm hq]
  obtain ⟨t, b1, b2⟩ := kk.2 p l e R s m args below meth c _ _ lsA n0 w0 Q cx hl' (hR.set (pm_arr' (by decide) ⟨hBa1, c1, hA1, hRA1, (show (H.setIfInBounds a1 _)[a1]? = some _ by simp [Array.getElem?_setIfInBounds, hl2])⟩) (by simp) oq) (fun q hq => by
      rcases List.mem_append.mp hq with h | h
      · exact hlo q h
      · obtain ⟨z, -, hz⟩ := List.mem_map.mp h
        rw [← hz]
        exact hBa1) e1 e2 e3 e4 hq _ hheap X'
  exact ⟨t, step t b1, b2⟩
theorem px_copyl {i a0 a1 m0 m1 : Nat} {g0 g1 : Nat → Int64} {sp dp k : Int32} (hl : Cond.methodLink μ.1.cls i arraycopyName ∈ pm_gw) (hd : decode μ.2.1 pc = .ok (.invokestatic i, 3)) (ha0 : f a0 = some (.inl (1, m0, .inr (.inl g0)))) (ha1 : f a1 = some (.inl (1, m1, .inr (.inl g1)))) (hs1 : ¬ sp < 0) (hs2 : ¬ dp < 0) (hs3 : ¬ k < 0) (hs4 : sp.toNatClampNeg + k.toNatClampNeg ≤ m0) (hs5 : dp.toNatClampNeg + k.toNatClampNeg ≤ m1) (hd0 : 1 ≤ d) (hst : st.length ≤ 4)
    (kk : EX B D d μ (pc + 3) ls st (n, w, va_up f a1 (some (.inl (1, m1, .inr (.inl (va_cpy g0 g1 sp.toNatClampNeg dp.toNatClampNeg k.toNatClampNeg)))))) r h1) : EX B D d μ pc ls (.int k :: .int dp :: .ref a1 :: .int sp :: .ref a0 :: st) (n, w, f) r h1 := by
  refine ⟨kk.1, fun p l e R s m args below meth c H locs lsA n0 w0 Q cx hl' hR hlo e1 e2 e3 e4 hq => ?_⟩
  have hts := cx.2.2.2.2.2.1
  have h8 := pm_rest4 hst
  have hR1 := cx.2.2.2.2.2.2.2.2.2.1
  have hR2 := cx.2.2.2.2.2.2.2.2.2.2
  obtain ⟨hBa0, c0, hA0, hRA0, hc0⟩ := pm_arr (hR.2.2 a0 _ ha0) (by decide)
  obtain ⟨hBa1, c1, hA1, hRA1, hc1⟩ := pm_arr (hR.2.2 a1 _ ha1) (by decide)
  obtain ⟨-, k0, hk0, cm0, hkk0⟩ := hA0 m0 (fun j => .long (g0 j))
  obtain ⟨-, k1, hk1, cm1, hkk1⟩ := hA1 m1 (fun j => .long (g1 j))
  have nn : ∀ z : Int32, ¬ z < 0 → z.toInt = (z.toNatClampNeg : Int) := by
    intro z hz
    have hz0 : (0 : Int) ≤ z.toInt := by
      have := Int32.not_lt.mp hz
      simpa using Int32.le_iff_toInt_le.mp this
    show z.toInt = ((z.toInt.toNat : Nat) : Int)
    omega
  intro T hT X
  obtain ⟨vm', X', step⟩ := X.arraycopy cx.1 cx.2.2.2.2.1 (hts _ hl) (hts _ nat_copy) (hts _ st_copy) (hts _ ini_RJ10) (src := a0) (dst := a1) (cs := vp_cell c0 (m0, .inr (.inl g0))) (cd := vp_cell c1 (m1, .inr (.inl g1))) (srcPos := sp) (destPos := dp) (n := k) (by rw [hT]; exact hc0) (by rw [hT]; exact hc1)
    (fun _ h => by cases h) (fun _ h => by cases h) (fun h => by cases h) (fun h => by cases h) hk0 hk1 hkk0 hkk1 (by rfl) hs1 hs2 hs3
    (by rw [nn sp hs1, nn k hs3]; show ¬ _ > ((arrV c0 m0 (fun j => .long (g0 j))).slots.size : Int); rw [arrV_size]; omega)
    (by rw [nn dp hs2, nn k hs3]; show ¬ _ > ((arrV c1 m1 (fun j => .long (g1 j))).slots.size : Int); rw [arrV_size]; omega)
    (fun vm₁ _ i hi => by
      have e : (vp_cell c0 (m0, .inr (.inl g0))).slots.getD (sp.toNatClampNeg + i) .null = .long (g0 (sp.toNatClampNeg + i)) := by
        show (arrV c0 m0 (fun j => .long (g0 j))).slots.getD _ _ = _
        rw [Array.getD_eq_getD_getElem?, arrV_read _ _ (by omega)]
        rfl
      refine ⟨?_, ?_⟩
      · rw [e]
        rfl
      · rw [e]
        exact trivial)
    (g := F0 m pc lsA (.int k :: .int dp :: .ref a1 :: .int sp :: .ref a0 :: st)) rfl (by rw [cx.2.2.2.1]; exact hl'.1) (rest := st) rfl (by rw [cx.2.1]; exact hd) (by omega) (by show 2 * 0 + _ + (7 + 11) ≤ _; omega)
  have e5 : copied (vp_cell c0 (m0, .inr (.inl g0))) (vp_cell c1 (m1, .inr (.inl g1))) sp dp k = vp_cell c1 (m1, .inr (.inl (va_cpy g0 g1 sp.toNatClampNeg dp.toNatClampNeg k.toNatClampNeg))) := va_copied (fun z => .long z) c0 c1 g0 g1 hs4
  rw [e5] at X' step
  have hl2 : a1 < H.size := (Array.getElem?_eq_some_iff.mp hc1).1
  have hheap : ((T.setVm vm').setCell a1 (vp_cell c1 (m1, .inr (.inl (va_cpy g0 g1 sp.toNatClampNeg dp.toNatClampNeg k.toNatClampNeg))))).heap = H.setIfInBounds a1 (vp_cell c1 (m1, .inr (.inl (va_cpy g0 g1 sp.toNatClampNeg dp.toNatClampNeg k.toNatClampNeg)))) := by rw [← hT]; rfl
  have oq : ∀ q : Nat, q ≠ a1 → (H.setIfInBounds a1 (vp_cell c1 (m1, .inr (.inl (va_cpy g0 g1 sp.toNatClampNeg dp.toNatClampNeg k.toNatClampNeg)))))[q]? = H[q]? := fun q hq => by simp [Array.getElem?_setIfInBounds, Ne.symm hq]
  obtain ⟨t, b1, b2⟩ := kk.2 p l e R s m args below meth c _ _ lsA n0 w0 Q cx hl' (hR.set (pm_arr' (by decide) ⟨hBa1, c1, hA1, hRA1, (show (H.setIfInBounds a1 _)[a1]? = some _ by simp [Array.getElem?_setIfInBounds, hl2])⟩) (by simp) oq) (fun q hq => by
      rcases List.mem_append.mp hq with h | h
      · exact hlo q h
      · obtain ⟨z, -, hz⟩ := List.mem_map.mp h
        rw [← hz]
        exact hBa1) e1 e2 e3 e4 hq _ hheap X'
  exact ⟨t, step t b1, b2⟩
end PC
