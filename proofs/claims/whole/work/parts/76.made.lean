/-! the reference is made -/
def mI (r : Nat) (f : Nat → Option va_E) (M : MS) (fs : List Value) (k : Nat) : Nat → Option va_E := fun a => if a = r then some (.inr (7, fs)) else if r < a ∧ a ≤ r + k then some (mCell r M (a - r)) else f a
theorem mI_0 {r : Nat} {f : Nat → Option va_E} {M : MS} {fs : List Value} {k : Nat} : mI r f M fs k r = some (.inr (7, fs)) := if_pos rfl
theorem mI_fs {r : Nat} {f : Nat → Option va_E} {M : MS} {fs fs' : List Value} {k : Nat} : va_up (mI r f M fs k) r (some (.inr (7, fs'))) = mI r f M fs' k := by
  funext a
  by_cases h : a = r
  · subst h; rw [va_up_self]; exact mI_0.symm
  · rw [va_up_ne _ _ h]
    unfold mI
    rw [if_neg h, if_neg h]
theorem mI_new {r : Nat} {f : Nat → Option va_E} {M : MS} {fs : List Value} {k j : Nat} {e : va_E} (hj : j = k + 1) (he : mCell r M j = e) : va_up (mI r f M fs k) (r + j) (some e) = mI r f M fs j := by
  subst he
  funext a
  by_cases h : a = r + j
  · subst h
    rw [va_up_self]
    unfold mI
    rw [if_neg (by omega), if_pos (by omega), Nat.add_sub_cancel_left]
  · rw [va_up_ne _ _ h]
    unfold mI
    by_cases h0 : a = r
    · rw [if_pos h0, if_pos h0]
    · rw [if_neg h0, if_neg h0]
      by_cases h1 : r < a ∧ a ≤ r + k
      · rw [if_pos h1, if_pos (by omega)]
      · rw [if_neg h1, if_neg (by omega)]
theorem mI_sa {r : Nat} {f : Nat → Option va_E} {M : MS} {fs : List Value} {k j q t m : Nat} {x : Int32} (h1 : 1 ≤ j) (h2 : j < 18) (hk : j ≤ k) (ht : mty j = t) (hm : mln j = m) : va_up (mI r f M fs k) (r + j) (some (.inl (t, m, .inl (va_up (M.2.1 j) q x)))) = mI r f (M.sa j q x) fs k := by
  subst ht hm
  have e : mCell r (M.sa j q x) j = .inl (mty j, mln j, .inl (va_up (M.2.1 j) q x)) := by
    unfold mCell; rw [if_neg (by omega), if_pos h2]; show Sum.inl (mty j, mln j, Sum.inl (va_up M.2.1 j (va_up (M.2.1 j) q x) j)) = _; rw [va_up_self]
  have e2 : ∀ i, i ≠ j → i ≠ 0 → mCell r (M.sa j q x) i = mCell r M i := fun i hi h0 => by
    unfold mCell
    rw [if_neg h0, if_neg h0]
    show (if i < 18 then Sum.inl (mty i, mln i, Sum.inl (va_up M.2.1 j _ i)) else _) = _
    rw [va_up_ne _ _ hi]; rfl
  funext a
  by_cases h : a = r + j
  · subst h
    rw [va_up_self, ← e]
    unfold mI
    rw [if_neg (by omega), if_pos (by omega), Nat.add_sub_cancel_left]
  · rw [va_up_ne _ _ h]
    unfold mI
    by_cases h0 : a = r
    · rw [if_pos h0, if_pos h0]
    · rw [if_neg h0, if_neg h0]
      by_cases h1 : r < a ∧ a ≤ r + k
      · rw [if_pos h1, if_pos h1, e2 _ (by omega) (by omega)]
      · rw [if_neg h1, if_neg h1]
theorem mI_mH {r : Nat} {f : Nat → Option va_E} {M : MS} {fs : List Value} (h : fs = mfs r M.1) : mI r f M fs 19 = mH r f M := by
  funext a
  unfold mI mH
  by_cases h0 : a = r
  · subst h0
    rw [if_pos rfl, if_pos (by omega), Nat.sub_self]
    unfold mCell
    rw [if_pos rfl, h]
  · rw [if_neg h0]
    by_cases h1 : r < a ∧ a ≤ r + 19
    · rw [if_pos h1, if_pos (by omega)]
    · rw [if_neg h1, if_neg (by omega)]
theorem mI_i {r : Nat} {f : Nat → Option va_E} {M : MS} {fs : List Value} {k j : Nat} (h1 : 1 ≤ j) (h2 : j < 18) (hk : j ≤ k) : mI r f M fs k (r + j) = some (.inl (mty j, mln j, .inl (M.2.1 j))) := by
  unfold mI
  rw [if_neg (by omega), if_pos (by omega), Nat.add_sub_cancel_left]
  unfold mCell
  rw [if_neg (by omega), if_pos h2]
theorem mI_M {r : Nat} {f : Nat → Option va_E} {M M' : MS} {fs : List Value} {k : Nat} (h : M.2 = M'.2) : mI r f M fs k = mI r f M' fs k := by
  funext a
  unfold mI
  by_cases h0 : a = r
  · rw [if_pos h0, if_pos h0]
  · rw [if_neg h0, if_neg h0]
    by_cases h1 : r < a ∧ a ≤ r + k
    · rw [if_pos h1, if_pos h1]
      unfold mCell
      have h2 : ¬ a - r = 0 := by omega
      simp only [if_neg h2, h]
    · rw [if_neg h1, if_neg h1]
section M76a
variable {B : Nat} {D : va_G} {d : Nat} {μ : pm_M} {pc : Nat} {ls : pm_Ls} {st : List Value} {w r0 : Nat} {f : Nat → Option va_E} {M : MS} {r : Option Value} {h1 : pm_H} {fs : List Value}
theorem mi_newint {k j m : Nat} {x : Int32} (hj : j = k + 1) (hj2 : j < 18 ∧ mty j = 0 ∧ mln j = m) (h0 : M.2.1 j = fun _ => 0) (hA : Cond.arrayClass .int ∈ pm_gw) (hx0 : ¬ x < 0) (hxk : x.toNatClampNeg = m) (hby : m * 4 ≤ 536870912) (hd : decode μ.2.1 pc = .ok (.newarray .int, 2)) (kk : EX B D d μ (pc + 2) ls (.ref (r0 + j) :: st) (r0 + j + 1, w + m, mI r0 f M fs j) r h1) : EX B D d μ pc ls (.int x :: st) (r0 + j, w, mI r0 f M fs k) r h1 := by
  refine px_newint hA hx0 hxk hby hd ?_
  rw [mI_new hj (show mCell r0 M j = _ by unfold mCell; rw [if_neg (by omega), if_pos hj2.1, hj2.2.1, hj2.2.2, h0])]
  exact kk
theorem mi_newbool {k j m : Nat} {x : Int32} (hj : j = k + 1) (hj2 : j < 18 ∧ mty j = 2 ∧ mln j = m) (h0 : M.2.1 j = fun _ => 0) (hA : Cond.arrayClass .boolean ∈ pm_gw) (hx0 : ¬ x < 0) (hxk : x.toNatClampNeg = m) (hby : m * 1 ≤ 536870912) (hd : decode μ.2.1 pc = .ok (.newarray .boolean, 2)) (kk : EX B D d μ (pc + 2) ls (.ref (r0 + j) :: st) (r0 + j + 1, w + m, mI r0 f M fs j) r h1) : EX B D d μ pc ls (.int x :: st) (r0 + j, w, mI r0 f M fs k) r h1 := by
  refine px_newbool hA hx0 hxk hby hd ?_
  rw [mI_new hj (show mCell r0 M j = _ by unfold mCell; rw [if_neg (by omega), if_pos hj2.1, hj2.2.1, hj2.2.2, h0])]
  exact kk
theorem mi_newlong {k j m : Nat} {x : Int32} (hj : j = k + 1) (hj2 : 18 ≤ j ∧ j < 20 ∧ mln j = m) (h0 : M.2.2 j = fun _ => 0) (hA : Cond.arrayClass .long ∈ pm_gw) (hx0 : ¬ x < 0) (hxk : x.toNatClampNeg = m) (hby : m * 8 ≤ 536870912) (hd : decode μ.2.1 pc = .ok (.newarray .long, 2)) (kk : EX B D d μ (pc + 2) ls (.ref (r0 + j) :: st) (r0 + j + 1, w + m, mI r0 f M fs j) r h1) : EX B D d μ pc ls (.int x :: st) (r0 + j, w, mI r0 f M fs k) r h1 := by
  refine px_newlong hA hx0 hxk hby hd ?_
  rw [mI_new hj (show mCell r0 M j = _ by unfold mCell; rw [if_neg (by omega), if_neg (by omega), hj2.2.2, h0])]
  exact kk
theorem mi_putF {i k q : Nat} {v : Value} {fs' : List Value} {ty : FieldType} {n : Nat} (hF : pm_fp μ.1.cls i 7 q true ty) (hin2 : μ.1.name = "<init>") (hcc : (pm_cl[7]?).map (fun q => q.1) = some μ.1.cls) (hd : decode μ.2.1 pc = .ok (.putfield i, 3)) (hn : narrow ty v = v) (hfit : fits ty v = true) (hl : fs.length = 29) (hq : q < 29) (hs : fs.set q v = fs') (kk : EX B D d μ (pc + 3) ls st (n, w, mI r0 f M fs' k) r h1) : EX B D d μ pc ls (v :: .ref r0 :: st) (n, w, mI r0 f M fs k) r h1 := by
  refine px_putfieldF hF hin2 hcc hd mI_0 hn hfit (by rw [hl]; exact hq) ?_
  rw [mI_fs, hs]
  exact kk
theorem mi_put {i k q : Nat} {v : Value} {fs' : List Value} {ty : FieldType} {n : Nat} (hF : pm_fp μ.1.cls i 7 q false ty) (hd : decode μ.2.1 pc = .ok (.putfield i, 3)) (hn : narrow ty v = v) (hfit : fits ty v = true) (hl : fs.length = 29) (hq : q < 29) (hs : fs.set q v = fs') (kk : EX B D d μ (pc + 3) ls st (n, w, mI r0 f M fs' k) r h1) : EX B D d μ pc ls (v :: .ref r0 :: st) (n, w, mI r0 f M fs k) r h1 := by
  refine px_putfield hF hd mI_0 hn hfit (by rw [hl]; exact hq) ?_
  rw [mI_fs, hs]
  exact kk
theorem mi_iastore {j k m q n : Nat} {i x : Int32} (hd : decode μ.2.1 pc = .ok (.iastore, 1)) (hj : 1 ≤ j ∧ j < 18 ∧ j ≤ k ∧ mty j = 0 ∧ mln j = m) (hi : i = nI q) (hq : q < m) (kk : EX B D d μ (pc + 1) ls st (n, w, mI r0 f (M.sa j q x) fs k) r h1) : EX B D d μ pc ls (.int x :: .int i :: .ref (r0 + j) :: st) (n, w, mI r0 f M fs k) r h1 := by
  obtain ⟨j1, j2, j5, j3, j4⟩ := hj
  have hm := mln_le j
  subst hi j4
  refine px_iastore (m := mln j) (g := M.2.1 j) hd (by rw [mI_i j1 j2 j5, j3]) (nI_in2 hq hm) ?_
  rw [nI_clamp (by omega), mI_sa j1 j2 j5 j3 rfl]
  exact kk
theorem px_eqH {h h' : pm_H} (e : h' = h) (kk : EX B D d μ pc ls st h r h1) : EX B D d μ pc ls st h' r h1 := by subst e; exact kk
end M76a
def M00 : MS := (fun _ => 0, fun _ _ => 0, fun _ _ => 0)
def M01 : MS := ((((M00.sa 17 0 (-1)).sa 17 1 (-1)).sa 17 2 (-1)).sa 17 3 (-1)).sets 15 (-5)
section M76
variable {B : Nat} {D : va_G} {n w r : Nat} {f : Nat → Option va_E}
theorem l_X7_init_186 {d : Nat} : ∀ (k j : Nat) (M : MS), j + k = 8 → ∃ g : Nat → Int32, (∀ rr h1, EX B D d mX7_init 205 [some (.ref r), some (.int (nI 8))] [] (n, w, mH r f (M.seta 5 g)) rr h1 → EX B D d mX7_init 186 [some (.ref r), some (.int (nI j))] [] (n, w, mH r f M) rr h1) ∧ (∀ q, j ≤ q → q < 8 → g q = -1) ∧ ∀ q, q < j ∨ 8 ≤ q → g q = M.2.1 5 q
  | 0, j, M, hj => by
    have : j = 8 := by omega
    subst this
    refine ⟨M.2.1 5, fun rr h1 hk => ?_, fun q h1 h2 => by omega, fun q _ => rfl⟩
    have e : M.seta 5 (M.2.1 5) = M := by unfold MS.seta; rw [up_id]
    rw [e] at hk
    refine px_iload_n dX7_init_186 rfl ?_
    refine px_bipush (v := 8) dX7_init_187 (by decide) ?_
    refine px_icmp_ge (tgt := 205) dX7_init_189 (by decide) (fun hc189 => ?_) (fun hc189 => ?_)
    · exact hk
    · exact absurd (by decide) hc189
  | k + 1, j, M, hj => by
    obtain ⟨g, e1, e2, e3⟩ := l_X7_init_186 (d := d) k (j + 1) (M.sa 5 j (-1)) (by omega)
    have es : (M.sa 5 j (-1)).seta 5 g = M.seta 5 g := by unfold MS.sa MS.seta; simp only [bx_uu]
    rw [sa5] at e3
    rw [es] at e1
    refine ⟨g, fun rr h1 hk => ?_, fun q h1 h2 => ?_, fun q hq => ?_⟩
    · have e1 := e1 rr h1 hk
      refine px_iload_n dX7_init_186 rfl ?_
      refine px_bipush (v := 8) dX7_init_187 (by decide) ?_
      refine px_icmp_ge (tgt := 205) dX7_init_189 (by decide) (fun hc189 => ?_) (fun hc189 => ?_)
      · exact absurd hc189 (nI_ge (a := j) (b := 8) (by omega) (by omega))
      · refine px_aload_n dX7_init_192 rfl ?_
        refine mx_get fl_X7_48 dX7_init_193 rfl ?_
        refine px_iload_n dX7_init_196 rfl ?_
        refine px_iconst (v := (-1)) dX7_init_197 (by decide) ?_
        refine mx_iastore (j := 5) (m := 824) (q := j) dX7_init_198 (by decide) (by first | rfl | (simp (disch := omega) only [li0, li1, li2, li3, li5, li6, li8, li9, li10, li12, li13, li16, li20, li24, li25, li100, li408, li424, li824, nI_add, nI_mul, nI_sub]; first | done | rfl | (congr 1; omega))) (by omega) ?_
        refine px_iinc1 rfl (nI_inc j) dX7_init_199 ?_
        refine px_goto (tgt := 186) dX7_init_202 (by decide) ?_
        exact e1
    · by_cases e : q = j
      · subst e; rw [e3 q (by omega), va_up_self]
      · exact e2 q (by omega) h2
    · rw [e3 q (by omega), va_up_ne _ _ (by omega)]
theorem l_X7_init_207 {d : Nat} : ∀ (k j : Nat) (M : MS), j + k = 16 → ∃ g : Nat → Int32, EX B D d mX7_init 207 [some (.ref r), some (.int (nI j))] [] (n, w, mH r f M) none (n, w, mH r f (M.seta 5 g)) ∧ (∀ q, j ≤ q → q < 16 → g (408 + q) = -1 ∧ g (424 + 25 * q) = -1) ∧ (∀ q, q < j → g (408 + q) = M.2.1 5 (408 + q) ∧ g (424 + 25 * q) = M.2.1 5 (424 + 25 * q)) ∧ ∀ q, q < 408 → g q = M.2.1 5 q
  | 0, j, M, hj => by
    have : j = 16 := by omega
    subst this
    refine ⟨M.2.1 5, ?_, fun q h1 h2 => by omega, fun q _ => ⟨rfl, rfl⟩, fun q _ => rfl⟩
    have e : M.seta 5 (M.2.1 5) = M := by unfold MS.seta; rw [up_id]
    rw [e]
    refine px_iload_n dX7_init_207 rfl ?_
    refine px_bipush (v := 16) dX7_init_208 (by decide) ?_
    refine px_icmp_ge (tgt := 244) dX7_init_210 (by decide) (fun hc210 => ?_) (fun hc210 => ?_)
    · exact px_retv dX7_init_244 rfl (by rfl)
    · exact absurd (by decide) hc210
  | k + 1, j, M, hj => by
    obtain ⟨g, e1, e2, e3, e4⟩ := l_X7_init_207 (d := d) k (j + 1) ((M.sa 5 (408 + j) (-1)).sa 5 (424 + 25 * j) (-1)) (by omega)
    have es : ((M.sa 5 (408 + j) (-1)).sa 5 (424 + 25 * j) (-1)).seta 5 g = M.seta 5 g := by unfold MS.sa MS.seta; simp only [bx_uu]
    rw [sa5, sa5] at e3 e4
    rw [es] at e1
    refine ⟨g, ?_, fun q h1 h2 => ?_, fun q hq => ?_, fun q hq => ?_⟩
    · refine px_iload_n dX7_init_207 rfl ?_
      refine px_bipush (v := 16) dX7_init_208 (by decide) ?_
      refine px_icmp_ge (tgt := 244) dX7_init_210 (by decide) (fun hc210 => ?_) (fun hc210 => ?_)
      · exact absurd hc210 (nI_ge (a := j) (b := 16) (by omega) (by omega))
      · refine px_aload_n dX7_init_213 rfl ?_
        refine mx_get fl_X7_48 dX7_init_214 rfl ?_
        refine px_sipush (v := 408) dX7_init_217 (by decide) ?_
        refine px_iload_n dX7_init_220 rfl ?_
        refine px_iadd dX7_init_221 ?_
        refine px_iconst (v := (-1)) dX7_init_222 (by decide) ?_
        refine mx_iastore (j := 5) (m := 824) (q := 408 + j) dX7_init_223 (by decide) (by first | rfl | (simp (disch := omega) only [li0, li1, li2, li3, li5, li6, li8, li9, li10, li12, li13, li16, li20, li24, li25, li100, li408, li424, li824, nI_add, nI_mul, nI_sub]; first | done | rfl | (congr 1; omega))) (by omega) ?_
        refine px_aload_n dX7_init_224 rfl ?_
        refine mx_get fl_X7_48 dX7_init_225 rfl ?_
        refine px_sipush (v := 424) dX7_init_228 (by decide) ?_
        refine px_bipush (v := 25) dX7_init_231 (by decide) ?_
        refine px_iload_n dX7_init_233 rfl ?_
        refine px_imul dX7_init_234 ?_
        refine px_iadd dX7_init_235 ?_
        refine px_iconst (v := (-1)) dX7_init_236 (by decide) ?_
        refine mx_iastore (j := 5) (m := 824) (q := 424 + 25 * j) dX7_init_237 (by decide) (by first | rfl | (simp (disch := omega) only [li0, li1, li2, li3, li5, li6, li8, li9, li10, li12, li13, li16, li20, li24, li25, li100, li408, li424, li824, nI_add, nI_mul, nI_sub]; first | done | rfl | (congr 1; omega))) (by omega) ?_
        refine px_iinc1 rfl (nI_inc j) dX7_init_238 ?_
        refine px_goto (tgt := 207) dX7_init_241 (by decide) ?_
        exact e1
    · by_cases e : q = j
      · subst e
        obtain ⟨g1, g2⟩ := e3 q (by omega)
        rw [g1, g2, va_up_ne _ _ (by omega), va_up_self, va_up_self]
        exact ⟨rfl, rfl⟩
      · exact e2 q (by omega) h2
    · obtain ⟨g1, g2⟩ := e3 q (by omega)
      rw [g1, g2, va_up_ne _ _ (by omega), va_up_ne _ _ (by omega), va_up_ne _ _ (by omega), va_up_ne _ _ (by omega)]
      exact ⟨rfl, rfl⟩
    · rw [e4 q hq, va_up_ne _ _ (by omega), va_up_ne _ _ (by omega)]
def mfs0 : List Value := [.null, .null, .null, .null, .int 0, .null, .null, .null, .int 0, .null, .int 0, .null, .null, .null, .int 0, .int 0, .int 0, .int 0, .int 0, .int 0, .null, .null, .int 0, .null, .null, .null, .null, .null, .null]
theorem c_X7_init : ∃ (w' : Nat) (M : MS) , CT B D 1 mX7_init [.ref r] (r + 1, w, mI r f M00 mfs0 0) none (r + 20, w', mH r f M) ∧ w' = w + 38778 ∧ M.1 = M01.1 ∧ (∀ j, j ≠ 5 → M.2.1 j = M01.2.1 j) ∧ M.2.2 = M01.2.2 ∧ (∀ q, q < 8 → M.2.1 5 q = -1) ∧ (∀ q, 8 ≤ q → q < 408 → M.2.1 5 q = 0) ∧ ∀ q, q < 16 → M.2.1 5 (408 + q) = -1 ∧ M.2.1 5 (424 + 25 * q) = -1 := by
  obtain ⟨g1, a1, a2, a3⟩ := l_X7_init_186 (B := B) (D := D) (n := r + 20) (w := w + 9000 + 9000 + 9000 + 9000 + 824 + 824 + 824 + 50 + 24 + 24 + 16 + 12 + 12 + 24 + 16 + 24 + 4 + 80 + 20) (r := r) (f := f) (d := 1) 8 0 M01 (by omega)
  obtain ⟨g2, b1, b2, b3, b4⟩ := l_X7_init_207 (B := B) (D := D) (n := r + 20) (w := w + 9000 + 9000 + 9000 + 9000 + 824 + 824 + 824 + 50 + 24 + 24 + 16 + 12 + 12 + 24 + 16 + 24 + 4 + 80 + 20) (r := r) (f := f) (d := 1) 16 0 (M01.seta 5 g1) (by omega)
  have e5 : (M01.seta 5 g1).2.1 5 = g1 := by
    show va_up M01.2.1 5 g1 5 = g1
    rw [va_up_self]
  have e52 : ((M01.seta 5 g1).seta 5 g2).2.1 5 = g2 := by
    show va_up (M01.seta 5 g1).2.1 5 g2 5 = g2
    rw [va_up_self]
  refine ⟨w + 9000 + 9000 + 9000 + 9000 + 824 + 824 + 824 + 50 + 24 + 24 + 16 + 12 + 12 + 24 + 16 + 24 + 4 + 80 + 20, (M01.seta 5 g1).seta 5 g2, ?_, by omega, rfl, fun j hj => ?_, rfl, ?_, ?_, ?_⟩
  · refine CT.of [some (.ref r), none] rfl (Nat.le_of_ble_eq_true rfl) pl_X7 trivial ?_
    refine px_aload_n dX7_init_0 rfl ?_
    refine px_objinit lk_X7_42 in_obj co_obj (by omega) (by simp) dX7_init_1 ?_
    refine px_aload_n dX7_init_4 rfl ?_
    refine px_sipush (v := 9000) dX7_init_5 (by decide) ?_
    refine mi_newint (k := 0) (j := 1) (m := 9000) rfl (by decide) rfl arc_int (by decide) rfl (by decide) dX7_init_8 ?_
    refine mi_putF fp_X7_20 rfl rfl (fs' := [.ref (r + 1), .null, .null, .null, .int 0, .null, .null, .null, .int 0, .null, .int 0, .null, .null, .null, .int 0, .int 0, .int 0, .int 0, .int 0, .int 0, .null, .null, .int 0, .null, .null, .null, .null, .null, .null]) dX7_init_10 rfl rfl rfl (by decide) rfl ?_
    refine px_aload_n dX7_init_13 rfl ?_
    refine px_sipush (v := 9000) dX7_init_14 (by decide) ?_
    refine mi_newint (k := 1) (j := 2) (m := 9000) rfl (by decide) rfl arc_int (by decide) rfl (by decide) dX7_init_17 ?_
    refine mi_putF fp_X7_24 rfl rfl (fs' := [.ref (r + 1), .ref (r + 2), .null, .null, .int 0, .null, .null, .null, .int 0, .null, .int 0, .null, .null, .null, .int 0, .int 0, .int 0, .int 0, .int 0, .int 0, .null, .null, .int 0, .null, .null, .null, .null, .null, .null]) dX7_init_19 rfl rfl rfl (by decide) rfl ?_
    refine px_aload_n dX7_init_22 rfl ?_
    refine px_sipush (v := 9000) dX7_init_23 (by decide) ?_
    refine mi_newint (k := 2) (j := 3) (m := 9000) rfl (by decide) rfl arc_int (by decide) rfl (by decide) dX7_init_26 ?_
    refine mi_putF fp_X7_27 rfl rfl (fs' := [.ref (r + 1), .ref (r + 2), .ref (r + 3), .null, .int 0, .null, .null, .null, .int 0, .null, .int 0, .null, .null, .null, .int 0, .int 0, .int 0, .int 0, .int 0, .int 0, .null, .null, .int 0, .null, .null, .null, .null, .null, .null]) dX7_init_28 rfl rfl rfl (by decide) rfl ?_
    refine px_aload_n dX7_init_31 rfl ?_
    refine px_sipush (v := 9000) dX7_init_32 (by decide) ?_
    refine mi_newint (k := 3) (j := 4) (m := 9000) rfl (by decide) rfl arc_int (by decide) rfl (by decide) dX7_init_35 ?_
    refine mi_putF fp_X7_30 rfl rfl (fs' := [.ref (r + 1), .ref (r + 2), .ref (r + 3), .ref (r + 4), .int 0, .null, .null, .null, .int 0, .null, .int 0, .null, .null, .null, .int 0, .int 0, .int 0, .int 0, .int 0, .int 0, .null, .null, .int 0, .null, .null, .null, .null, .null, .null]) dX7_init_37 rfl rfl rfl (by decide) rfl ?_
    refine px_aload_n dX7_init_40 rfl ?_
    refine px_sipush (v := 824) dX7_init_41 (by decide) ?_
    refine mi_newint (k := 4) (j := 5) (m := 824) rfl (by decide) rfl arc_int (by decide) rfl (by decide) dX7_init_44 ?_
    refine mi_putF fp_X7_48 rfl rfl (fs' := [.ref (r + 1), .ref (r + 2), .ref (r + 3), .ref (r + 4), .int 0, .ref (r + 5), .null, .null, .int 0, .null, .int 0, .null, .null, .null, .int 0, .int 0, .int 0, .int 0, .int 0, .int 0, .null, .null, .int 0, .null, .null, .null, .null, .null, .null]) dX7_init_46 rfl rfl rfl (by decide) rfl ?_
    refine px_aload_n dX7_init_49 rfl ?_
    refine px_sipush (v := 824) dX7_init_50 (by decide) ?_
    refine mi_newint (k := 5) (j := 6) (m := 824) rfl (by decide) rfl arc_int (by decide) rfl (by decide) dX7_init_53 ?_
    refine mi_putF fp_X7_51 rfl rfl (fs' := [.ref (r + 1), .ref (r + 2), .ref (r + 3), .ref (r + 4), .int 0, .ref (r + 5), .ref (r + 6), .null, .int 0, .null, .int 0, .null, .null, .null, .int 0, .int 0, .int 0, .int 0, .int 0, .int 0, .null, .null, .int 0, .null, .null, .null, .null, .null, .null]) dX7_init_55 rfl rfl rfl (by decide) rfl ?_
    refine px_aload_n dX7_init_58 rfl ?_
    refine px_sipush (v := 824) dX7_init_59 (by decide) ?_
    refine mi_newint (k := 6) (j := 7) (m := 824) rfl (by decide) rfl arc_int (by decide) rfl (by decide) dX7_init_62 ?_
    refine mi_putF fp_X7_54 rfl rfl (fs' := [.ref (r + 1), .ref (r + 2), .ref (r + 3), .ref (r + 4), .int 0, .ref (r + 5), .ref (r + 6), .ref (r + 7), .int 0, .null, .int 0, .null, .null, .null, .int 0, .int 0, .int 0, .int 0, .int 0, .int 0, .null, .null, .int 0, .null, .null, .null, .null, .null, .null]) dX7_init_64 rfl rfl rfl (by decide) rfl ?_
    refine px_aload_n dX7_init_67 rfl ?_
    refine px_bipush (v := 50) dX7_init_68 (by decide) ?_
    refine mi_newint (k := 7) (j := 8) (m := 50) rfl (by decide) rfl arc_int (by decide) rfl (by decide) dX7_init_70 ?_
    refine mi_putF fp_X7_57 rfl rfl (fs' := [.ref (r + 1), .ref (r + 2), .ref (r + 3), .ref (r + 4), .int 0, .ref (r + 5), .ref (r + 6), .ref (r + 7), .int 0, .ref (r + 8), .int 0, .null, .null, .null, .int 0, .int 0, .int 0, .int 0, .int 0, .int 0, .null, .null, .int 0, .null, .null, .null, .null, .null, .null]) dX7_init_72 rfl rfl rfl (by decide) rfl ?_
    refine px_aload_n dX7_init_75 rfl ?_
    refine px_bipush (v := 24) dX7_init_76 (by decide) ?_
    refine mi_newbool (k := 8) (j := 9) (m := 24) rfl (by decide) rfl arc_boolean (by decide) rfl (by decide) dX7_init_78 ?_
    refine mi_putF fp_X7_60 rfl rfl (fs' := [.ref (r + 1), .ref (r + 2), .ref (r + 3), .ref (r + 4), .int 0, .ref (r + 5), .ref (r + 6), .ref (r + 7), .int 0, .ref (r + 8), .int 0, .ref (r + 9), .null, .null, .int 0, .int 0, .int 0, .int 0, .int 0, .int 0, .null, .null, .int 0, .null, .null, .null, .null, .null, .null]) dX7_init_80 rfl rfl rfl (by decide) rfl ?_
    refine px_aload_n dX7_init_83 rfl ?_
    refine px_bipush (v := 24) dX7_init_84 (by decide) ?_
    refine mi_newbool (k := 9) (j := 10) (m := 24) rfl (by decide) rfl arc_boolean (by decide) rfl (by decide) dX7_init_86 ?_
    refine mi_putF fp_X7_64 rfl rfl (fs' := [.ref (r + 1), .ref (r + 2), .ref (r + 3), .ref (r + 4), .int 0, .ref (r + 5), .ref (r + 6), .ref (r + 7), .int 0, .ref (r + 8), .int 0, .ref (r + 9), .ref (r + 10), .null, .int 0, .int 0, .int 0, .int 0, .int 0, .int 0, .null, .null, .int 0, .null, .null, .null, .null, .null, .null]) dX7_init_88 rfl rfl rfl (by decide) rfl ?_
    refine px_aload_n dX7_init_91 rfl ?_
    refine px_bipush (v := 16) dX7_init_92 (by decide) ?_
    refine mi_newint (k := 10) (j := 11) (m := 16) rfl (by decide) rfl arc_int (by decide) rfl (by decide) dX7_init_94 ?_
    refine mi_putF fp_X7_67 rfl rfl (fs' := [.ref (r + 1), .ref (r + 2), .ref (r + 3), .ref (r + 4), .int 0, .ref (r + 5), .ref (r + 6), .ref (r + 7), .int 0, .ref (r + 8), .int 0, .ref (r + 9), .ref (r + 10), .ref (r + 11), .int 0, .int 0, .int 0, .int 0, .int 0, .int 0, .null, .null, .int 0, .null, .null, .null, .null, .null, .null]) dX7_init_96 rfl rfl rfl (by decide) rfl ?_
    refine px_aload_n dX7_init_99 rfl ?_
    refine px_bipush (v := (-5)) dX7_init_100 (by decide) ?_
    refine mi_put fp_X7_70 (fs' := [.ref (r + 1), .ref (r + 2), .ref (r + 3), .ref (r + 4), .int 0, .ref (r + 5), .ref (r + 6), .ref (r + 7), .int 0, .ref (r + 8), .int 0, .ref (r + 9), .ref (r + 10), .ref (r + 11), .int 0, .int (-5), .int 0, .int 0, .int 0, .int 0, .null, .null, .int 0, .null, .null, .null, .null, .null, .null]) dX7_init_102 rfl rfl rfl (by decide) rfl ?_
    refine px_aload_n dX7_init_105 rfl ?_
    refine px_bipush (v := 12) dX7_init_106 (by decide) ?_
    refine mi_newint (k := 11) (j := 12) (m := 12) rfl (by decide) rfl arc_int (by decide) rfl (by decide) dX7_init_108 ?_
    refine mi_putF fp_X7_73 rfl rfl (fs' := [.ref (r + 1), .ref (r + 2), .ref (r + 3), .ref (r + 4), .int 0, .ref (r + 5), .ref (r + 6), .ref (r + 7), .int 0, .ref (r + 8), .int 0, .ref (r + 9), .ref (r + 10), .ref (r + 11), .int 0, .int (-5), .int 0, .int 0, .int 0, .int 0, .ref (r + 12), .null, .int 0, .null, .null, .null, .null, .null, .null]) dX7_init_110 rfl rfl rfl (by decide) rfl ?_
    refine px_aload_n dX7_init_113 rfl ?_
    refine px_bipush (v := 12) dX7_init_114 (by decide) ?_
    refine mi_newint (k := 12) (j := 13) (m := 12) rfl (by decide) rfl arc_int (by decide) rfl (by decide) dX7_init_116 ?_
    refine mi_putF fp_X7_76 rfl rfl (fs' := [.ref (r + 1), .ref (r + 2), .ref (r + 3), .ref (r + 4), .int 0, .ref (r + 5), .ref (r + 6), .ref (r + 7), .int 0, .ref (r + 8), .int 0, .ref (r + 9), .ref (r + 10), .ref (r + 11), .int 0, .int (-5), .int 0, .int 0, .int 0, .int 0, .ref (r + 12), .ref (r + 13), .int 0, .null, .null, .null, .null, .null, .null]) dX7_init_118 rfl rfl rfl (by decide) rfl ?_
    refine px_aload_n dX7_init_121 rfl ?_
    refine px_bipush (v := 24) dX7_init_122 (by decide) ?_
    refine mi_newbool (k := 13) (j := 14) (m := 24) rfl (by decide) rfl arc_boolean (by decide) rfl (by decide) dX7_init_124 ?_
    refine mi_putF fp_X7_79 rfl rfl (fs' := [.ref (r + 1), .ref (r + 2), .ref (r + 3), .ref (r + 4), .int 0, .ref (r + 5), .ref (r + 6), .ref (r + 7), .int 0, .ref (r + 8), .int 0, .ref (r + 9), .ref (r + 10), .ref (r + 11), .int 0, .int (-5), .int 0, .int 0, .int 0, .int 0, .ref (r + 12), .ref (r + 13), .int 0, .ref (r + 14), .null, .null, .null, .null, .null]) dX7_init_126 rfl rfl rfl (by decide) rfl ?_
    refine px_aload_n dX7_init_129 rfl ?_
    refine px_bipush (v := 16) dX7_init_130 (by decide) ?_
    refine mi_newint (k := 14) (j := 15) (m := 16) rfl (by decide) rfl arc_int (by decide) rfl (by decide) dX7_init_132 ?_
    refine mi_putF fp_X7_82 rfl rfl (fs' := [.ref (r + 1), .ref (r + 2), .ref (r + 3), .ref (r + 4), .int 0, .ref (r + 5), .ref (r + 6), .ref (r + 7), .int 0, .ref (r + 8), .int 0, .ref (r + 9), .ref (r + 10), .ref (r + 11), .int 0, .int (-5), .int 0, .int 0, .int 0, .int 0, .ref (r + 12), .ref (r + 13), .int 0, .ref (r + 14), .ref (r + 15), .null, .null, .null, .null]) dX7_init_134 rfl rfl rfl (by decide) rfl ?_
    refine px_aload_n dX7_init_137 rfl ?_
    refine px_bipush (v := 24) dX7_init_138 (by decide) ?_
    refine mi_newint (k := 15) (j := 16) (m := 24) rfl (by decide) rfl arc_int (by decide) rfl (by decide) dX7_init_140 ?_
    refine mi_putF fp_X7_85 rfl rfl (fs' := [.ref (r + 1), .ref (r + 2), .ref (r + 3), .ref (r + 4), .int 0, .ref (r + 5), .ref (r + 6), .ref (r + 7), .int 0, .ref (r + 8), .int 0, .ref (r + 9), .ref (r + 10), .ref (r + 11), .int 0, .int (-5), .int 0, .int 0, .int 0, .int 0, .ref (r + 12), .ref (r + 13), .int 0, .ref (r + 14), .ref (r + 15), .ref (r + 16), .null, .null, .null]) dX7_init_142 rfl rfl rfl (by decide) rfl ?_
    refine px_aload_n dX7_init_145 rfl ?_
    refine px_iconst (v := 4) dX7_init_146 (by decide) ?_
    refine mi_newint (k := 16) (j := 17) (m := 4) rfl (by decide) rfl arc_int (by decide) rfl (by decide) dX7_init_147 ?_
    refine px_dup dX7_init_149 rfl ?_
    refine px_iconst (v := 0) dX7_init_150 (by decide) ?_
    refine px_iconst (v := (-1)) dX7_init_151 (by decide) ?_
    refine mi_iastore (j := 17) (m := 4) (q := 0) dX7_init_152 (by decide) rfl (by omega) ?_
    refine px_dup dX7_init_153 rfl ?_
    refine px_iconst (v := 1) dX7_init_154 (by decide) ?_
    refine px_iconst (v := (-1)) dX7_init_155 (by decide) ?_
    refine mi_iastore (j := 17) (m := 4) (q := 1) dX7_init_156 (by decide) rfl (by omega) ?_
    refine px_dup dX7_init_157 rfl ?_
    refine px_iconst (v := 2) dX7_init_158 (by decide) ?_
    refine px_iconst (v := (-1)) dX7_init_159 (by decide) ?_
    refine mi_iastore (j := 17) (m := 4) (q := 2) dX7_init_160 (by decide) rfl (by omega) ?_
    refine px_dup dX7_init_161 rfl ?_
    refine px_iconst (v := 3) dX7_init_162 (by decide) ?_
    refine px_iconst (v := (-1)) dX7_init_163 (by decide) ?_
    refine mi_iastore (j := 17) (m := 4) (q := 3) dX7_init_164 (by decide) rfl (by omega) ?_
    refine mi_putF fp_X7_88 rfl rfl (fs' := [.ref (r + 1), .ref (r + 2), .ref (r + 3), .ref (r + 4), .int 0, .ref (r + 5), .ref (r + 6), .ref (r + 7), .int 0, .ref (r + 8), .int 0, .ref (r + 9), .ref (r + 10), .ref (r + 11), .int 0, .int (-5), .int 0, .int 0, .int 0, .int 0, .ref (r + 12), .ref (r + 13), .int 0, .ref (r + 14), .ref (r + 15), .ref (r + 16), .ref (r + 17), .null, .null]) dX7_init_165 rfl rfl rfl (by decide) rfl ?_
    refine px_aload_n dX7_init_168 rfl ?_
    refine px_bipush (v := 80) dX7_init_169 (by decide) ?_
    refine mi_newlong (k := 17) (j := 18) (m := 80) rfl (by decide) rfl arc_long (by decide) rfl (by decide) dX7_init_171 ?_
    refine mi_putF fp_X7_91 rfl rfl (fs' := [.ref (r + 1), .ref (r + 2), .ref (r + 3), .ref (r + 4), .int 0, .ref (r + 5), .ref (r + 6), .ref (r + 7), .int 0, .ref (r + 8), .int 0, .ref (r + 9), .ref (r + 10), .ref (r + 11), .int 0, .int (-5), .int 0, .int 0, .int 0, .int 0, .ref (r + 12), .ref (r + 13), .int 0, .ref (r + 14), .ref (r + 15), .ref (r + 16), .ref (r + 17), .ref (r + 18), .null]) dX7_init_173 rfl rfl rfl (by decide) rfl ?_
    refine px_aload_n dX7_init_176 rfl ?_
    refine px_bipush (v := 20) dX7_init_177 (by decide) ?_
    refine mi_newlong (k := 18) (j := 19) (m := 20) rfl (by decide) rfl arc_long (by decide) rfl (by decide) dX7_init_179 ?_
    refine mi_putF fp_X7_95 rfl rfl (fs' := [.ref (r + 1), .ref (r + 2), .ref (r + 3), .ref (r + 4), .int 0, .ref (r + 5), .ref (r + 6), .ref (r + 7), .int 0, .ref (r + 8), .int 0, .ref (r + 9), .ref (r + 10), .ref (r + 11), .int 0, .int (-5), .int 0, .int 0, .int 0, .int 0, .ref (r + 12), .ref (r + 13), .int 0, .ref (r + 14), .ref (r + 15), .ref (r + 16), .ref (r + 17), .ref (r + 18), .ref (r + 19)]) dX7_init_181 rfl rfl rfl (by decide) rfl ?_
    refine px_eqH (h := (r + 20, w + 9000 + 9000 + 9000 + 9000 + 824 + 824 + 824 + 50 + 24 + 24 + 16 + 12 + 12 + 24 + 16 + 24 + 4 + 80 + 20, mH r f M01)) ?_ ?_
    · rw [← mI_mH (M := M01) (fs := mfs r M01.1) rfl, ← mI_M (M := (((M00.sa 17 0 (-1)).sa 17 1 (-1)).sa 17 2 (-1)).sa 17 3 (-1)) (M' := M01) rfl]
      rfl
    · refine px_iconst (v := 0) dX7_init_184 (by decide) ?_
      refine px_istore1 rfl dX7_init_185 ?_
      refine a1 _ _ ?_
      refine px_iconst (v := 0) dX7_init_205 (by decide) ?_
      refine px_istore1 rfl dX7_init_206 ?_
      exact b1
  · show va_up (va_up M01.2.1 5 g1) 5 g2 j = _
    rw [va_up_ne _ _ hj, va_up_ne _ _ hj]
  · intro q hq
    rw [e52, b4 q (by omega), e5]
    exact a2 q (Nat.zero_le _) hq
  · intro q h1 h2
    rw [e52, b4 q h2, e5, a3 q (by omega)]
    rfl
  · intro q hq
    rw [e52]
    exact b2 q (Nat.zero_le _) hq
end M76
