/-! a RUN of the reference -/
def GE (bk : BK) (M : MS) (S : BS) : Prop := Bk M bk ∧ NI (M.2.1 5) S.A.inn ∧ NR (M.2.1 5) S.A.ru ∧ NS bk (M.2.1 5) S.A.rs ∧ (∀ t, t < 16 → M.2.1 9 (8 + t) = bi (S.dn (8 + t)) ∧ M.2.1 10 (8 + t) = bi (S.op (8 + t))) ∧ (∀ t, t < 16 → S.dn (8 + t) = true → S.A.rs (8 + t) ≠ none) ∧ vRu S.A
theorem GE.of {bk bk' : BK} {M M' : MS} {S : BS} (h : GE bk M S) (hb : Bk M' bk') (hp : bk <+: bk') (hg : Bg M M') : GE bk' M' S := by
  have e5 := hg.2.1 5 (by omega) (by omega) (by omega)
  have e9 := hg.2.1 9 (by omega) (by omega) (by omega)
  have e10 := hg.2.1 10 (by omega) (by omega) (by omega)
  refine ⟨hb, by rw [e5]; exact h.2.1, by rw [e5]; exact h.2.2.1, ?_, by rw [e9, e10]; exact h.2.2.2.2.1, h.2.2.2.2.2⟩
  rw [e5]
  exact h.2.2.2.1.ag hp (fun _ _ _ => rfl)
theorem aGo_pass (A : AW) (dn op : Nat → Bool) (key : Nat) : ∀ (p : Nat) (l : List (Int32 × Nat)) (i : Nat) (v : Int64) (acc : aAcc), aGo A dn op key l i v p acc = aGo A dn op key (l.drop p) (i + p) v 0 acc
  | 0, l, i, v, acc => rfl
  | p + 1, [], i, v, acc => rfl
  | p + 1, (s, m) :: l, i, v, acc => by
    rw [aGo, aGo_pass A dn op key p l (i + 1) v acc]
    show _ = aGo A dn op key (l.drop p) (i + (p + 1)) v 0 acc
    rw [show i + 1 + p = i + (p + 1) by omega]
theorem fsort6 (s : Int32) (v b x : Int64) : ¬ s_fsort s v b x = 6 := by
  unfold s_fsort
  split
  · decide
  · split
    · decide
    · split <;> decide
theorem l2i_c {v : Int64} (h : s_isContent v = true) : v.toInt32.toInt64 = v := by
  unfold s_isContent at h
  simp only [Bool.and_eq_true, Bool.not_eq_true', decide_eq_false_iff_not, Int64.lt_iff_toInt_lt] at h
  have e1 : (-1000000 : Int64).toInt = -1000000 := by decide
  have e2 : (1000000 : Int64).toInt = 1000000 := by decide
  rw [e1, e2] at h
  apply Int64.toInt_inj.mp
  rw [Int32.toInt_toInt64, Int64.toInt_toInt32, Int.bmod_eq_of_le (by omega) (by omega)]
theorem worked_v {s : Int32} {v b : Int64} (h : s = 63 ∨ s = 94) : s_worked s v b = v := by
  rcases h with rfl | rfl <;> simp [s_worked]
theorem pass_w (s : Int32) (v b : Int64) (m : Nat) : aPass s (s_worked s v b) m = aPass s v m := by
  by_cases h : s = 63 ∨ s = 94
  · rw [worked_v h]
  · have h1 : ¬ s = 63 := fun e => h (Or.inl e)
    have h2 : ¬ s = 94 := fun e => h (Or.inr e)
    simp [aPass, h1, h2]
def GoZ (bk bk' : BK) (M' : MS) (S : BS) (x : Int32) (z : aAcc × (List Q4 ⊕ Nat)) : Prop := match z.2 with
  | .inl res => As bk' M' S.dn z.1 ∧ Cd bk' res x ∧ res ≠ [] ∧ ne bk' ≤ ne bk + 1
  | .inr m => x = -10 - nI m ∧ ne bk' ≤ ne bk ∧ 8 ≤ m ∧ m < 24 ∧ S.dn m = false ∧ S.op m = false
section M57
variable {B : Nat} {D : va_G} {n w r : Nat} {f : Nat → Option va_E} {bk : BK} {S : BS}
def GoP (B : Nat) (D : va_G) (n w r : Nat) (f : Nat → Option va_E) (S : BS) (d pc : Nat) (ls : pm_Ls) (M : MS) (bk : BK) (z : aAcc × (List Q4 ⊕ Nat)) : Prop := ∃ (M' : MS) (bk' : BK) (x : Int32), EX B D d mX7_goes pc ls [] (n, w, mH r f M) (some (.int x)) (n, w, mH r f M') ∧ Bk M' bk' ∧ bk <+: bk' ∧ Bg M M' ∧ GoZ bk bk' M' S x z
theorem GoP.step {d pc pc' : Nat} {ls ls' : pm_Ls} {M M1 : MS} {bk bk1 : BK} {z : aAcc × (List Q4 ⊕ Nat)} (h : GoP B D n w r f S d pc' ls' M1 bk1 z) (hp : bk <+: bk1) (hg : Bg M M1) (hn : ne bk1 ≤ ne bk) (hE : ∀ rr h1, EX B D d mX7_goes pc' ls' [] (n, w, mH r f M1) rr h1 → EX B D d mX7_goes pc ls [] (n, w, mH r f M) rr h1) : GoP B D n w r f S d pc ls M bk z := by
  obtain ⟨M', bk', x, h1, h2, h3, h4, h5⟩ := h
  refine ⟨M', bk', x, hE _ _ h1, h2, hp.trans h3, hg.tra h4, ?_⟩
  unfold GoZ at h5 ⊢
  rcases z with ⟨acc, res | m⟩
  · exact ⟨h5.1, h5.2.1, h5.2.2.1, by have := h5.2.2.2; omega⟩
  · exact ⟨h5.1, by have := h5.2.1; omega, h5.2.2⟩
theorem GoP.fail {d pc : Nat} {ls : pm_Ls} {M : MS} {acc : aAcc} {key i : Nat} {s y : Int32} {l : List Q4} (hb : Bk M bk) (hcap : ne bk ≤ 8900) (hA : As bk M S.dn acc) (hs : ¬ s = 0) (h6 : ¬ s = 6) (hl : l = [] ∨ isF l = true) (hy : Cd bk l y)
    (hE : ∀ (M' : MS) (i' : Nat), CT B D 0 mX7_fails [.ref r, .int (nI key), .int s, .int (nI i), .int y] (n, w, mH r f M) (some (.int (nI (2 * i' + 1)))) (n, w, mH r f M') → EX B D d mX7_goes pc ls [] (n, w, mH r f M) (some (.int (nI (2 * i' + 1)))) (n, w, mH r f M')) : GoP B D n w r f S d pc ls M bk (acc, .inl ((0, nI key, s, nI i) :: l)) := by
  have hlen := hb.len
  obtain ⟨M', bk', i', f1, f2, f3, f4, f5, f6, f7⟩ := c_X7_fails (B := B) (D := D) (n := n) (w := w) (r := r) (f := f) (k := nI key) (s := s) (t := nI i) (y := y) hb (by omega) (fun e => absurd e h6)
  rw [if_neg h6] at f7
  exact ⟨M', bk', _, hE M' i' f1, f2, f4, f3.g, hA.of f4 (f3.1 22 (by omega)) (f3.2.1 12 (by omega)) (f3.2.1 13 (by omega)), Or.inr ⟨hs, rfl, hl, i', y, f6, f5, rfl, hy.mono f4⟩, List.cons_ne_nil _ _, f7⟩
variable {M : MS} {d key i m : Nat} {s len : Int32} {v b : Int64} {z10 : Option Value} {rr : Option Value} {h1 : pm_H}
theorem g_145 (hy : (s = 47 ∨ s = 37) ∧ b = 0 → EX B D d mX7_goes 166 [some (.ref r), some (.int (nI key)), some (.long v), none, some (.int len), some (.int (nI i)), some (.int s), some (.int (nI m)), some (.long b), none, z10] [] (n, w, mH r f M) rr h1) (hn : ¬ ((s = 47 ∨ s = 37) ∧ b = 0) → EX B D d mX7_goes 176 [some (.ref r), some (.int (nI key)), some (.long v), none, some (.int len), some (.int (nI i)), some (.int s), some (.int (nI m)), some (.long b), none, z10] [] (n, w, mH r f M) rr h1) : EX B D d mX7_goes 145 [some (.ref r), some (.int (nI key)), some (.long v), none, some (.int len), some (.int (nI i)), some (.int s), some (.int (nI m)), some (.long b), none, z10] [] (n, w, mH r f M) rr h1 := by
  refine px_lload dX7_goes_145 rfl ?_
  refine px_lconst (v := 0) dX7_goes_147 (by decide) ?_
  refine px_l_ne (tgt := 176) dX7_goes_148 dX7_goes_149 (by decide) (fun hc149 => ?_) (fun hc149 => ?_)
  · exact hn (by first | exact (fun h => hc149 h.2) | exact (fun h => h.1.elim hc156 hc163))
  · refine px_iload dX7_goes_152 rfl ?_
    refine px_bipush (v := 47) dX7_goes_154 (by decide) ?_
    refine px_icmp_eq (tgt := 166) dX7_goes_156 (by decide) (fun hc156 => ?_) (fun hc156 => ?_)
    · exact hy (by first | exact ⟨Or.inl hc156, hc149⟩ | exact ⟨Or.inr hc163, hc149⟩)
    · refine px_iload dX7_goes_159 rfl ?_
      refine px_bipush (v := 37) dX7_goes_161 (by decide) ?_
      refine px_icmp_ne (tgt := 176) dX7_goes_163 (by decide) (fun hc163 => ?_) (fun hc163 => ?_)
      · exact hn (by first | exact (fun h => hc149 h.2) | exact (fun h => h.1.elim hc156 hc163))
      · exact hy (by first | exact ⟨Or.inl hc156, hc149⟩ | exact ⟨Or.inr hc163, hc149⟩)
theorem g_176 (hy : s = 33 ∧ (nI m).toInt64 < v → EX B D d mX7_goes 191 [some (.ref r), some (.int (nI key)), some (.long v), none, some (.int len), some (.int (nI i)), some (.int s), some (.int (nI m)), some (.long b), none, z10] [] (n, w, mH r f M) rr h1) (hn : ¬ (s = 33 ∧ (nI m).toInt64 < v) → EX B D d mX7_goes 201 [some (.ref r), some (.int (nI key)), some (.long v), none, some (.int len), some (.int (nI i)), some (.int s), some (.int (nI m)), some (.long b), none, z10] [] (n, w, mH r f M) rr h1) : EX B D d mX7_goes 176 [some (.ref r), some (.int (nI key)), some (.long v), none, some (.int len), some (.int (nI i)), some (.int s), some (.int (nI m)), some (.long b), none, z10] [] (n, w, mH r f M) rr h1 := by
  refine px_iload dX7_goes_176 rfl ?_
  refine px_bipush (v := 33) dX7_goes_178 (by decide) ?_
  refine px_icmp_ne (tgt := 201) dX7_goes_180 (by decide) (fun hc180 => ?_) (fun hc180 => ?_)
  · exact hn (by first | exact (fun h => hc180 h.1) | exact (fun h => hc188 h.2))
  · refine px_lload_n dX7_goes_183 rfl ?_
    refine px_iload dX7_goes_184 rfl ?_
    refine px_i2l dX7_goes_186 ?_
    refine px_l_le (tgt := 201) dX7_goes_187 dX7_goes_188 (by decide) (fun hc188 => ?_) (fun hc188 => ?_)
    · exact hn (by first | exact (fun h => hc180 h.1) | exact (fun h => hc188 h.2))
    · exact hy ⟨hc180, hc188⟩
theorem g_201 (hk : ∀ y : Int32, y = nI (i + aPass s v m) → EX B D d mX7_goes 238 [some (.ref r), some (.int (nI key)), some (.long v), none, some (.int len), some (.int (y)), some (.int s), some (.int (nI m)), some (.long b), none, z10] [] (n, w, mH r f M) rr h1) : EX B D d mX7_goes 201 [some (.ref r), some (.int (nI key)), some (.long v), none, some (.int len), some (.int (nI i)), some (.int s), some (.int (nI m)), some (.long b), none, z10] [] (n, w, mH r f M) rr h1 := by
  have p1 : (s = 63 ∧ v = 0) ∨ (s = 94 ∧ v < 0) → nI i + nI m = nI (i + aPass s v m) := fun h => by rw [aPass, if_pos h, nI_add]
  have p0 : ¬ ((s = 63 ∧ v = 0) ∨ (s = 94 ∧ v < 0)) → nI i + 0 = nI (i + aPass s v m) := fun h => by rw [aPass, if_neg h]; exact Int32.add_zero _
  refine px_iload dX7_goes_201 rfl ?_
  refine px_iload dX7_goes_203 rfl ?_
  refine px_bipush (v := 63) dX7_goes_205 (by decide) ?_
  refine px_icmp_ne (tgt := 216) dX7_goes_207 (by decide) (fun hc207 => ?_) (fun hc207 => ?_)
  · refine px_iload dX7_goes_216 rfl ?_
    refine px_bipush (v := 94) dX7_goes_218 (by decide) ?_
    refine px_icmp_ne (tgt := 234) dX7_goes_220 (by decide) (fun hc220 => ?_) (fun hc220 => ?_)
    · refine px_iconst (v := 0) dX7_goes_234 (by decide) ?_
      refine px_iadd dX7_goes_235 ?_
      refine px_istore5 rfl dX7_goes_236 ?_
      exact hk _ (by first | exact p1 (Or.inl ⟨hc207, hc213⟩) | exact p1 (Or.inr ⟨hc220, hc226⟩) | exact p0 (fun h => h.elim (fun e => hc213 e.2) (fun e => hc226 e.2)) | exact p0 (fun h => h.elim (fun e => hc207 e.1) (fun e => hc226 e.2)) | exact p0 (fun h => h.elim (fun e => hc207 e.1) (fun e => hc220 e.1)) | exact p0 (fun h => h.elim (fun e => hc213 e.2) (fun e => hc220 e.1)))
    · refine px_lload_n dX7_goes_223 rfl ?_
      refine px_lconst (v := 0) dX7_goes_224 (by decide) ?_
      refine px_l_ge (tgt := 234) dX7_goes_225 dX7_goes_226 (by decide) (fun hc226 => ?_) (fun hc226 => ?_)
      · refine px_iconst (v := 0) dX7_goes_234 (by decide) ?_
        refine px_iadd dX7_goes_235 ?_
        refine px_istore5 rfl dX7_goes_236 ?_
        exact hk _ (by first | exact p1 (Or.inl ⟨hc207, hc213⟩) | exact p1 (Or.inr ⟨hc220, hc226⟩) | exact p0 (fun h => h.elim (fun e => hc213 e.2) (fun e => hc226 e.2)) | exact p0 (fun h => h.elim (fun e => hc207 e.1) (fun e => hc226 e.2)) | exact p0 (fun h => h.elim (fun e => hc207 e.1) (fun e => hc220 e.1)) | exact p0 (fun h => h.elim (fun e => hc213 e.2) (fun e => hc220 e.1)))
      · refine px_iload dX7_goes_229 rfl ?_
        refine px_goto (tgt := 235) dX7_goes_231 (by decide) ?_
        refine px_iadd dX7_goes_235 ?_
        refine px_istore5 rfl dX7_goes_236 ?_
        exact hk _ (by first | exact p1 (Or.inl ⟨hc207, hc213⟩) | exact p1 (Or.inr ⟨hc220, hc226⟩) | exact p0 (fun h => h.elim (fun e => hc213 e.2) (fun e => hc226 e.2)) | exact p0 (fun h => h.elim (fun e => hc207 e.1) (fun e => hc226 e.2)) | exact p0 (fun h => h.elim (fun e => hc207 e.1) (fun e => hc220 e.1)) | exact p0 (fun h => h.elim (fun e => hc213 e.2) (fun e => hc220 e.1)))
  · refine px_lload_n dX7_goes_210 rfl ?_
    refine px_lconst (v := 0) dX7_goes_211 (by decide) ?_
    refine px_l_eq (tgt := 229) dX7_goes_212 dX7_goes_213 (by decide) (fun hc213 => ?_) (fun hc213 => ?_)
    · refine px_iload dX7_goes_229 rfl ?_
      refine px_goto (tgt := 235) dX7_goes_231 (by decide) ?_
      refine px_iadd dX7_goes_235 ?_
      refine px_istore5 rfl dX7_goes_236 ?_
      exact hk _ (by first | exact p1 (Or.inl ⟨hc207, hc213⟩) | exact p1 (Or.inr ⟨hc220, hc226⟩) | exact p0 (fun h => h.elim (fun e => hc213 e.2) (fun e => hc226 e.2)) | exact p0 (fun h => h.elim (fun e => hc207 e.1) (fun e => hc226 e.2)) | exact p0 (fun h => h.elim (fun e => hc207 e.1) (fun e => hc220 e.1)) | exact p0 (fun h => h.elim (fun e => hc213 e.2) (fun e => hc220 e.1)))
    · refine px_iload dX7_goes_216 rfl ?_
      refine px_bipush (v := 94) dX7_goes_218 (by decide) ?_
      refine px_icmp_ne (tgt := 234) dX7_goes_220 (by decide) (fun hc220 => ?_) (fun hc220 => ?_)
      · refine px_iconst (v := 0) dX7_goes_234 (by decide) ?_
        refine px_iadd dX7_goes_235 ?_
        refine px_istore5 rfl dX7_goes_236 ?_
        exact hk _ (by first | exact p1 (Or.inl ⟨hc207, hc213⟩) | exact p1 (Or.inr ⟨hc220, hc226⟩) | exact p0 (fun h => h.elim (fun e => hc213 e.2) (fun e => hc226 e.2)) | exact p0 (fun h => h.elim (fun e => hc207 e.1) (fun e => hc226 e.2)) | exact p0 (fun h => h.elim (fun e => hc207 e.1) (fun e => hc220 e.1)) | exact p0 (fun h => h.elim (fun e => hc213 e.2) (fun e => hc220 e.1)))
      · refine px_lload_n dX7_goes_223 rfl ?_
        refine px_lconst (v := 0) dX7_goes_224 (by decide) ?_
        refine px_l_ge (tgt := 234) dX7_goes_225 dX7_goes_226 (by decide) (fun hc226 => ?_) (fun hc226 => ?_)
        · refine px_iconst (v := 0) dX7_goes_234 (by decide) ?_
          refine px_iadd dX7_goes_235 ?_
          refine px_istore5 rfl dX7_goes_236 ?_
          exact hk _ (by first | exact p1 (Or.inl ⟨hc207, hc213⟩) | exact p1 (Or.inr ⟨hc220, hc226⟩) | exact p0 (fun h => h.elim (fun e => hc213 e.2) (fun e => hc226 e.2)) | exact p0 (fun h => h.elim (fun e => hc207 e.1) (fun e => hc226 e.2)) | exact p0 (fun h => h.elim (fun e => hc207 e.1) (fun e => hc220 e.1)) | exact p0 (fun h => h.elim (fun e => hc213 e.2) (fun e => hc220 e.1)))
        · refine px_iload dX7_goes_229 rfl ?_
          refine px_goto (tgt := 235) dX7_goes_231 (by decide) ?_
          refine px_iadd dX7_goes_235 ?_
          refine px_istore5 rfl dX7_goes_236 ?_
          exact hk _ (by first | exact p1 (Or.inl ⟨hc207, hc213⟩) | exact p1 (Or.inr ⟨hc220, hc226⟩) | exact p0 (fun h => h.elim (fun e => hc213 e.2) (fun e => hc226 e.2)) | exact p0 (fun h => h.elim (fun e => hc207 e.1) (fun e => hc226 e.2)) | exact p0 (fun h => h.elim (fun e => hc207 e.1) (fun e => hc220 e.1)) | exact p0 (fun h => h.elim (fun e => hc213 e.2) (fun e => hc220 e.1)))
theorem g_238 (hz : s = 47 ∨ s = 37 → ¬ b = 0) (hk : ∀ x : Int64, x = s_worked s v b → EX B D d mX7_goes 328 [some (.ref r), some (.int (nI key)), some (.long v), none, some (.int len), some (.int (nI i)), some (.int s), some (.int (nI m)), some (.long b), none, z10] [.long x] (n, w, mH r f M) rr h1) : EX B D d mX7_goes 238 [some (.ref r), some (.int (nI key)), some (.long v), none, some (.int len), some (.int (nI i)), some (.int s), some (.int (nI m)), some (.long b), none, z10] [] (n, w, mH r f M) rr h1 := by
  have w1 : s = 43 → v + b = s_worked s v b := fun e => by subst e; rfl
  have w2 : s = 45 → v - b = s_worked s v b := fun e => by subst e; rfl
  have w3 : s = 42 → v * b = s_worked s v b := fun e => by subst e; rfl
  have w4 : s = 47 → v / b = s_worked s v b := fun e => by have h0 := hz (Or.inl e); subst e; simp [s_worked, h0]
  have w5 : s = 38 → b = s_worked s v b := fun e => by subst e; rfl
  have w6 : s = 61 → b = s_worked s v b := fun e => by subst e; rfl
  have w7 : s = 37 → v - v / b * b = s_worked s v b := fun e => by have h0 := hz (Or.inr e); subst e; simp [s_worked, h0]
  have w8 : ¬ s = 43 → ¬ s = 45 → ¬ s = 42 → ¬ s = 47 → ¬ s = 38 → ¬ s = 61 → ¬ s = 37 → v = s_worked s v b := fun e1 e2 e3 e4 e5 e6 e7 => by simp [s_worked, e1, e2, e3, e4, e5, e6, e7]
  refine px_iload dX7_goes_238 rfl ?_
  refine px_bipush (v := 43) dX7_goes_240 (by decide) ?_
  refine px_icmp_ne (tgt := 252) dX7_goes_242 (by decide) (fun hc242 => ?_) (fun hc242 => ?_)
  · refine px_iload dX7_goes_252 rfl ?_
    refine px_bipush (v := 45) dX7_goes_254 (by decide) ?_
    refine px_icmp_ne (tgt := 266) dX7_goes_256 (by decide) (fun hc256 => ?_) (fun hc256 => ?_)
    · refine px_iload dX7_goes_266 rfl ?_
      refine px_bipush (v := 42) dX7_goes_268 (by decide) ?_
      refine px_icmp_ne (tgt := 280) dX7_goes_270 (by decide) (fun hc270 => ?_) (fun hc270 => ?_)
      · refine px_iload dX7_goes_280 rfl ?_
        refine px_bipush (v := 47) dX7_goes_282 (by decide) ?_
        refine px_icmp_ne (tgt := 294) dX7_goes_284 (by decide) (fun hc284 => ?_) (fun hc284 => ?_)
        · refine px_iload dX7_goes_294 rfl ?_
          refine px_bipush (v := 38) dX7_goes_296 (by decide) ?_
          refine px_icmp_eq (tgt := 308) dX7_goes_298 (by decide) (fun hc298 => ?_) (fun hc298 => ?_)
          · refine px_lload dX7_goes_308 rfl ?_
            refine px_goto (tgt := 328) dX7_goes_310 (by decide) ?_
            exact hk _ (by first | exact w1 hc242 | exact w2 hc256 | exact w3 hc270 | exact w4 hc284 | exact w5 hc298 | exact w6 hc305 | exact w7 hc317 | exact w8 hc242 hc256 hc270 hc284 hc298 hc305 hc317)
          · refine px_iload dX7_goes_301 rfl ?_
            refine px_bipush (v := 61) dX7_goes_303 (by decide) ?_
            refine px_icmp_ne (tgt := 313) dX7_goes_305 (by decide) (fun hc305 => ?_) (fun hc305 => ?_)
            · refine px_iload dX7_goes_313 rfl ?_
              refine px_bipush (v := 37) dX7_goes_315 (by decide) ?_
              refine px_icmp_ne (tgt := 327) dX7_goes_317 (by decide) (fun hc317 => ?_) (fun hc317 => ?_)
              · refine px_lload_n dX7_goes_327 rfl ?_
                exact hk _ (by first | exact w1 hc242 | exact w2 hc256 | exact w3 hc270 | exact w4 hc284 | exact w5 hc298 | exact w6 hc305 | exact w7 hc317 | exact w8 hc242 hc256 hc270 hc284 hc298 hc305 hc317)
              · refine px_lload_n dX7_goes_320 rfl ?_
                refine px_lload dX7_goes_321 rfl ?_
                refine px_lrem dX7_goes_323 (hz (Or.inr hc317)) ?_
                refine px_goto (tgt := 328) dX7_goes_324 (by decide) ?_
                exact hk _ (by first | exact w1 hc242 | exact w2 hc256 | exact w3 hc270 | exact w4 hc284 | exact w5 hc298 | exact w6 hc305 | exact w7 hc317 | exact w8 hc242 hc256 hc270 hc284 hc298 hc305 hc317)
            · refine px_lload dX7_goes_308 rfl ?_
              refine px_goto (tgt := 328) dX7_goes_310 (by decide) ?_
              exact hk _ (by first | exact w1 hc242 | exact w2 hc256 | exact w3 hc270 | exact w4 hc284 | exact w5 hc298 | exact w6 hc305 | exact w7 hc317 | exact w8 hc242 hc256 hc270 hc284 hc298 hc305 hc317)
        · refine px_lload_n dX7_goes_287 rfl ?_
          refine px_lload dX7_goes_288 rfl ?_
          refine px_ldiv dX7_goes_290 (hz (Or.inl hc284)) ?_
          refine px_goto (tgt := 328) dX7_goes_291 (by decide) ?_
          exact hk _ (by first | exact w1 hc242 | exact w2 hc256 | exact w3 hc270 | exact w4 hc284 | exact w5 hc298 | exact w6 hc305 | exact w7 hc317 | exact w8 hc242 hc256 hc270 hc284 hc298 hc305 hc317)
      · refine px_lload_n dX7_goes_273 rfl ?_
        refine px_lload dX7_goes_274 rfl ?_
        refine px_lmul dX7_goes_276 ?_
        refine px_goto (tgt := 328) dX7_goes_277 (by decide) ?_
        exact hk _ (by first | exact w1 hc242 | exact w2 hc256 | exact w3 hc270 | exact w4 hc284 | exact w5 hc298 | exact w6 hc305 | exact w7 hc317 | exact w8 hc242 hc256 hc270 hc284 hc298 hc305 hc317)
    · refine px_lload_n dX7_goes_259 rfl ?_
      refine px_lload dX7_goes_260 rfl ?_
      refine px_lsub dX7_goes_262 ?_
      refine px_goto (tgt := 328) dX7_goes_263 (by decide) ?_
      exact hk _ (by first | exact w1 hc242 | exact w2 hc256 | exact w3 hc270 | exact w4 hc284 | exact w5 hc298 | exact w6 hc305 | exact w7 hc317 | exact w8 hc242 hc256 hc270 hc284 hc298 hc305 hc317)
  · refine px_lload_n dX7_goes_245 rfl ?_
    refine px_lload dX7_goes_246 rfl ?_
    refine px_ladd dX7_goes_248 ?_
    refine px_goto (tgt := 328) dX7_goes_249 (by decide) ?_
    exact hk _ (by first | exact w1 hc242 | exact w2 hc256 | exact w3 hc270 | exact w4 hc284 | exact w5 hc298 | exact w6 hc305 | exact w7 hc317 | exact w8 hc242 hc256 hc270 hc284 hc298 hc305 hc317)
theorem g_328 {x : Int64} (hn : s_isContent x = false → EX B D d mX7_goes 342 [some (.ref r), some (.int (nI key)), some (.long x), none, some (.int len), some (.int (nI i)), some (.int s), some (.int (nI m)), some (.long b), none, z10] [] (n, w, mH r f M) rr h1) (hy : s_isContent x = true → EX B D d mX7_goes 13 [some (.ref r), some (.int (nI key)), some (.long x), none, some (.int len), some (.int (nI (i + 1))), some (.int s), some (.int (nI m)), some (.long b), none, z10] [] (n, w, mH r f M) rr h1) (hd : 1 ≤ d) : EX B D d mX7_goes 328 [some (.ref r), some (.int (nI key)), some (.long v), none, some (.int len), some (.int (nI i)), some (.int s), some (.int (nI m)), some (.long b), none, z10] [.long x] (n, w, mH r f M) rr h1 := by
  refine px_lstore2 rfl dX7_goes_328 ?_
  refine px_lload_n dX7_goes_329 rfl ?_
  refine px_ldc2 dX7_goes_330 kc_X7_111 ?_
  refine px_ldc2 dX7_goes_333 kc_X7_113 ?_
  refine px_callS1 (ν := mX7_isIn) lk_X7_7 st_X7_isIn mok_X7_isIn dX7_goes_336 (c_X7_isIn _ _ _) rfl rfl (by omega) (by simp) ?_
  refine px_ifb_ne (tgt := 352) dX7_goes_339 (by decide) (fun hc339 => ?_) (fun hc339 => ?_)
  · refine px_iinc5 rfl (nI_inc i) dX7_goes_352 ?_
    refine px_goto (tgt := 13) dX7_goes_355 (by decide) ?_
    exact hy hc339
  · exact hn hc339
/-- behind the operand -/
theorem g_tail {acc : aAcc} {zn : aAcc × (List Q4 ⊕ Nat)} (hd : 2 ≤ d) (hG : GE bk M S) (hcap : ne bk ≤ 8900) (hA : As bk M S.dn acc) (hv : s_isContent v = true) (hb : s = 33 → b = (nI m).toInt64)
    (hnext : s_fsort s v b (s_worked s v b) = 0 → s_isContent (s_worked s v b) = true → GoP B D n w r f S d 13 [some (.ref r), some (.int (nI key)), some (.long (s_worked s v b)), none, some (.int len), some (.int (nI (i + aPass s v m + 1))), some (.int s), some (.int (nI m)), some (.long b), none, z10] M bk zn) : GoP B D n w r f S d 145 [some (.ref r), some (.int (nI key)), some (.long v), none, some (.int len), some (.int (nI i)), some (.int s), some (.int (nI m)), some (.long b), none, z10] M bk (if s_fsort s v b (s_worked s v b) = 0 then zn else (acc, .inl [(0, nI key, s_fsort s v b (s_worked s v b), nI i)])) := by
  by_cases c1 : (s = 47 ∨ s = 37) ∧ b = 0
  · have e : s_fsort s v b (s_worked s v b) = 2 := by unfold s_fsort; rw [if_pos c1]
    rw [e, if_neg (by decide)]
    refine GoP.fail (y := -1) hG.1 hcap hA (by decide) (by decide) (Or.inl rfl) rfl (fun M' i' hC => g_145 (fun _ => ?_) (fun h => absurd c1 h))
    refine px_aload_n dX7_goes_166 rfl ?_
    refine px_iload_n dX7_goes_167 rfl ?_
    refine px_iconst (v := 2) dX7_goes_168 (by decide) ?_
    refine px_iload dX7_goes_169 rfl ?_
    refine px_iconst (v := (-1)) dX7_goes_171 (by decide) ?_
    refine px_callV1 (ν := mX7_fails) (ci := 7) rfl rfl lk_X7_104 in_X7_fails se_X7_fails mok_X7_fails dX7_goes_172 (hC) (by exact mH_0) rfl rfl (by omega) (by simp) ?_
    exact px_reti dX7_goes_175 (by rfl) (by rfl)
  · by_cases c2 : s = 33 ∧ (nI m).toInt64 < v
    · have e : s_fsort s v b (s_worked s v b) = 4 := by unfold s_fsort; rw [if_neg c1, if_pos ⟨c2.1, by rw [hb c2.1]; exact c2.2⟩]
      rw [e, if_neg (by decide)]
      refine GoP.fail (y := -1) hG.1 hcap hA (by decide) (by decide) (Or.inl rfl) rfl (fun M' i' hC => g_145 (fun h => absurd h c1) (fun _ => g_176 (fun _ => ?_) (fun h => absurd c2 h)))
      refine px_aload_n dX7_goes_191 rfl ?_
      refine px_iload_n dX7_goes_192 rfl ?_
      refine px_iconst (v := 4) dX7_goes_193 (by decide) ?_
      refine px_iload dX7_goes_194 rfl ?_
      refine px_iconst (v := (-1)) dX7_goes_196 (by decide) ?_
      refine px_callV1 (ν := mX7_fails) (ci := 7) rfl rfl lk_X7_104 in_X7_fails se_X7_fails mok_X7_fails dX7_goes_197 (hC) (by exact mH_0) rfl rfl (by omega) (by simp) ?_
      exact px_reti dX7_goes_200 (by rfl) (by rfl)
    · have c2' : ¬ (s = 33 ∧ b < v) := fun h => c2 ⟨h.1, by rw [← hb h.1]; exact h.2⟩
      have hz : s = 47 ∨ s = 37 → ¬ b = 0 := fun h1 h2 => c1 ⟨h1, h2⟩
      by_cases c3 : s_isContent (s_worked s v b) = true
      · have e : s_fsort s v b (s_worked s v b) = 0 := by unfold s_fsort; rw [if_neg c1, if_neg c2', if_pos c3]
        rw [if_pos e]
        refine (hnext e c3).step List.prefix_rfl (Bg.rf M) (Nat.le_refl _) (fun rr h1 hk => g_145 (fun h => absurd h c1) (fun _ => g_176 (fun h => absurd h c2) (fun _ => g_201 (fun y hy => ?_))))
        subst hy
        refine g_238 hz (fun x hx => ?_)
        subst hx
        exact g_328 (fun h => by rw [c3] at h; cases h) (fun _ => hk) (by omega)
      · have e : s_fsort s v b (s_worked s v b) = 3 := by unfold s_fsort; rw [if_neg c1, if_neg c2', if_neg c3]
        have hp : aPass s v m = 0 := by
          by_cases h : s = 63 ∨ s = 94
          · rw [worked_v h] at c3; exact absurd hv c3
          · unfold aPass
            rw [if_neg (fun h2 => h2.elim (fun e => h (Or.inl e.1)) (fun e => h (Or.inr e.1)))]
        rw [e, if_neg (by decide)]
        refine GoP.fail (y := -1) hG.1 hcap hA (by decide) (by decide) (Or.inl rfl) rfl (fun M' i' hC => g_145 (fun h => absurd h c1) (fun _ => g_176 (fun h => absurd h c2) (fun _ => g_201 (fun y hy => ?_))))
        rw [hp, Nat.add_zero] at hy
        subst hy
        refine g_238 hz (fun x hx => ?_)
        subst hx
        refine g_328 (fun _ => ?_) (fun h => absurd h c3) (by omega)
        refine px_aload_n dX7_goes_342 rfl ?_
        refine px_iload_n dX7_goes_343 rfl ?_
        refine px_iconst (v := 3) dX7_goes_344 (by decide) ?_
        refine px_iload dX7_goes_345 rfl ?_
        refine px_iconst (v := (-1)) dX7_goes_347 (by decide) ?_
        refine px_callV1 (ν := mX7_fails) (ci := 7) rfl rfl lk_X7_104 in_X7_fails se_X7_fails mok_X7_fails dX7_goes_348 (hC) (by exact mH_0) rfl rfl (by omega) (by simp) ?_
        exact px_reti dX7_goes_351 (by rfl) (by rfl)
end M57
