/-! the engine is made -/
def A0 : AW := (fun _ => none, fun _ => [], fun _ => none, fun _ => none)
abbrev qa (t n : Nat) (g : Nat → Option Nat) : va_E := .inl (t, n, .inr (.inr (.inr (.inr g))))
def Wd (f : Nat → Option va_E) (a i j : Nat) : Prop := f a = some (.inr (5, [.ref (a + 1), .ref (a + 2), .ref (a + 3), .ref (a + 4)])) ∧ (∃ ct : Nat → Option Nat, f (a + 1) = some (qa 3 8 ct) ∧ ∀ k, k < 8 → ct k = none) ∧ (∃ tg : Nat → Option Nat, f (a + 2) = some (qa 4 16 tg) ∧ ∀ t, t < i → tg t = some (a + 5 + 5 * t)) ∧ (∃ em : Nat → Option Nat, f (a + 3) = some (qa 3 24 em) ∧ ∀ k, k < j → ∃ p : Nat, em k = some p ∧ ch f (emR k) (some p)) ∧ (∃ dp : Nat → Int32, f (a + 4) = some (.inl (0, 24, .inl dp))) ∧ ∀ t, t < i → IsTA f (a + 5 + 5 * t) [] none none
theorem Wd.w {f : Nat → Option va_E} {a : Nat} (h : Wd f a 16 24) : IsW f a A0 := ⟨h.1, h.2.1, h.2.2.1, h.2.2.2.1, h.2.2.2.2.1, h.2.2.2.2.2⟩
theorem up_comm {α : Type} (f : Nat → α) {a b : Nat} (x y : α) (h : a ≠ b) : va_up (va_up f a x) b y = va_up (va_up f b y) a x := by
  funext j
  by_cases h1 : j = a
  · subst h1; rw [va_up_ne _ _ h, va_up_self, va_up_self]
  · by_cases h2 : j = b
    · subst h2; rw [va_up_self, va_up_ne _ _ h1, va_up_self]
    · rw [va_up_ne _ _ h2, va_up_ne _ _ h1, va_up_ne _ _ h1, va_up_ne _ _ h2]
section M77
variable {B : Nat} {D : va_G} {n w : Nat} {f : Nat → Option va_E} {a : Nat}
theorem l_X5_init_41 {d : Nat} (hd : 2 ≤ d) : ∀ (k i w : Nat) (f : Nat → Option va_E), i + k = 16 → Wd f a i 0 → wfH f (a + 5 + 5 * i) → ∃ g : Nat → Option va_E, (∀ rr h1, EX B D d mX5_init 66 [some (.ref a), some (.int (nI 16))] [] (a + 85, w + 55 * k, g) rr h1 → EX B D d mX5_init 41 [some (.ref a), some (.int (nI i))] [] (a + 5 + 5 * i, w, f) rr h1) ∧ Wd g a 16 0 ∧ wfH g (a + 85) ∧ (∀ b, b < a → g b = f b) ∧ keeps f g
  | 0, i, w, f, hi, hW, hwf => by
    have : i = 16 := by omega
    subst this
    refine ⟨f, fun rr h1 hk => ?_, hW, hwf, fun _ _ => rfl, keeps_rf f⟩
    refine px_iload_n dX5_init_41 rfl ?_
    refine px_bipush (v := 16) dX5_init_42 (by decide) ?_
    refine px_icmp_ge (tgt := 66) dX5_init_44 (by decide) (fun hc44 => ?_) (fun hc44 => ?_)
    · exact hk
    · exact absurd (by decide) hc44
  | k + 1, i, w, f, hi, hW, hwf => by
    obtain ⟨c0, ⟨ct, c1, c1'⟩, ⟨tg, c2, c2'⟩, ⟨em, c3, c3'⟩, ⟨dp, c4⟩, c5⟩ := hW
    have hwf1 : wfH (va_up f (a + 5 + 5 * i) (some (.inr (4, [.int 0, .null, .null, .null, .int 0, .null, .null])))) (a + 5 + 5 * i + 1) := hwf.new
    obtain ⟨g, hC, hT, hA⟩ := c_X4_init (B := B) (D := D) (w := w + 7) (f := va_up f (a + 5 + 5 * i) (some (.inr (4, [.int 0, .null, .null, .null, .int 0, .null, .null])))) (a := a + 5 + 5 * i) (va_up_self _ _ _)
    have hlow : ∀ b, b < a + 5 + 5 * i → g b = f b := fun b hb => by
      rw [hA (b + 1) b (by omega) (by omega), va_up_ne _ _ (by omega)]
    have hwf2 : wfH g (a + 5 + 5 * i + 5) := fun b hb => by
      rw [hA (b + 1) b (by omega) (by omega)]
      exact hwf1 b (by omega)
    have hk1 : keeps f g := fun b fs hb => by
      have hlt := hwf.lt hb
      rw [hlow b hlt]; exact hb
    have htg : g (a + 2) = some (qa 4 16 tg) := by rw [hlow _ (by omega)]; exact c2
    have hcell : g a = some (.inr (5, [.ref (a + 1), .ref (a + 2), .ref (a + 3), .ref (a + 4)])) := by rw [hlow _ (by omega)]; exact c0
    have hTc := hT.1
    have hup : ∀ b, b ≠ a + 2 → va_up g (a + 2) (some (qa 4 16 (va_up tg i (some (a + 5 + 5 * i))))) b = g b := fun b hb => va_up_ne _ _ hb
    have hk2 : keeps g (va_up g (a + 2) (some (qa 4 16 (va_up tg i (some (a + 5 + 5 * i)))))) := keeps_at htg (fun fs e => by cases e)
    have hTn : IsT (va_up g (a + 2) (some (qa 4 16 (va_up tg i (some (a + 5 + 5 * i)))))) (a + 5 + 5 * i) 0 none (-1) (fun _ => 0) (fun _ => 0) (fun _ => 0) (fun _ => none) := ⟨by rw [hup _ (by omega)]; exact hT.1, by rw [hup _ (by omega)]; exact hT.2.1, by rw [hup _ (by omega)]; exact hT.2.2.1, by rw [hup _ (by omega)]; exact hT.2.2.2.1, by rw [hup _ (by omega)]; exact hT.2.2.2.2⟩
    obtain ⟨g', e1, e2, e3, e4, e5⟩ := l_X5_init_41 (d := d) hd k (i + 1) (w + 55) (va_up g (a + 2) (some (qa 4 16 (va_up tg i (some (a + 5 + 5 * i)))))) (by omega) ⟨by rw [hup _ (by omega)]; exact hcell, ⟨ct, by rw [hup _ (by omega), hlow _ (by omega)]; exact c1, c1'⟩, ⟨_, va_up_self _ _ _, fun t ht => by
      by_cases e : t = i
      · subst e; rw [va_up_self]
      · rw [va_up_ne _ _ e]; exact c2' t (by omega)⟩, ⟨em, by rw [hup _ (by omega), hlow _ (by omega)]; exact c3, fun k hk => absurd hk (Nat.not_lt_zero _)⟩, ⟨dp, by rw [hup _ (by omega), hlow _ (by omega)]; exact c4⟩, fun t ht => by
      by_cases e : t = i
      · subst e
        exact ⟨0, none, -1, _, _, _, _, hTn, by simp, rfl, fun i x hx => by simp at hx, ⟨rfl, fun j p e => by cases e⟩, rfl⟩
      · refine (c5 t (by omega)).ag (lo := a + 2) (hi := a + 3) (n := a + 5 + 5 * i) (fun b hb hr => by rw [hup _ (by omega), hlow _ hb]) (by omega) (by omega) (keeps_tr hk1 hk2)⟩ (fun b hb => by
      rw [hup _ (by omega)]; exact hwf2 b (by omega))
    refine ⟨g', fun rr h1 hk => ?_, e2, e3, fun b hb => by rw [e4 b hb, hup _ (by omega), hlow _ (by omega)], keeps_tr (keeps_tr hk1 hk2) e5⟩
    rw [show w + 55 * (k + 1) = w + 55 + 55 * k by omega] at hk
    have e1 := e1 rr h1 hk
    refine px_iload_n dX5_init_41 rfl ?_
    refine px_bipush (v := 16) dX5_init_42 (by decide) ?_
    refine px_icmp_ge (tgt := 66) dX5_init_44 (by decide) (fun hc44 => ?_) (fun hc44 => ?_)
    · exact absurd hc44 (nI_ge (a := i) (b := 16) (by omega) (by omega))
    · refine px_aload_n dX5_init_47 rfl ?_
      refine px_getfield fl_X5_19 dX5_init_48 (by first | exact c0 | exact htg | exact hTc) (by rfl) ?_
      refine px_iload_n dX5_init_51 rfl ?_
      refine px_new (ci := 4) (fs := [.int 0, .null, .null, .null, .int 0, .null, .null]) rfl cl_X5_17 ins_RX4 ini_RX4 tyX4 tyX4_ok (def_X4) dX5_init_52 ?_
      refine px_dup dX5_init_55 rfl ?_
      refine px_callIN (ν := mX4_init) rfl rfl lk_X5_30 in_X4_init mok_X4_init dX5_init_56 (hC) rfl rfl (by omega) (by simp) ?_
      refine px_aastore (ci := 4) rfl rfl dX5_init_59 (by first | exact c0 | exact htg | exact hTc) (by decide) (by exact ixn (by omega) (by omega)) (by first | exact c0 | exact htg | exact hTc) ?_
      rw [nI_clamp (by omega)]
      refine px_eqH (h := (a + 5 + 5 * (i + 1), w + 55, va_up g (a + 2) (some (qa 4 16 (va_up tg i (some (a + 5 + 5 * i)))))) ) (by rw [show a + 5 + 5 * i + 1 + 1 + 1 + 1 + 1 = a + 5 + 5 * (i + 1) by omega, show w + 7 + 12 + 12 + 12 + 12 = w + 55 by omega]) ?_
      refine px_iinc1 rfl (nI_inc i) dX5_init_60 ?_
      refine px_goto (tgt := 41) dX5_init_63 (by decide) ?_
      exact e1
theorem l_X5_init_68 {d : Nat} (hd : 3 ≤ d) : ∀ (k i w : Nat) (f : Nat → Option va_E), i + k = 24 → Wd f a 16 i → wfH f (a + 85 + i) → ∃ g : Nat → Option va_E, EX B D d mX5_init 68 [some (.ref a), some (.int (nI i))] [] (a + 85 + i, w, f) none (a + 109, w + 5 * k, g) ∧ Wd g a 16 24 ∧ wfH g (a + 109) ∧ (∀ b, b < a → g b = f b) ∧ keeps f g
  | 0, i, w, f, hi, hW, hwf => by
    have : i = 24 := by omega
    subst this
    refine ⟨f, ?_, hW, hwf, fun _ _ => rfl, keeps_rf f⟩
    refine px_iload_n dX5_init_68 rfl ?_
    refine px_bipush (v := 24) dX5_init_69 (by decide) ?_
    refine px_icmp_ge (tgt := 94) dX5_init_71 (by decide) (fun hc71 => ?_) (fun hc71 => ?_)
    · exact px_retv dX5_init_94 rfl (by rfl)
    · exact absurd (by decide) hc71
  | k + 1, i, w, f, hi, hW, hwf => by
    obtain ⟨c0, ⟨ct, c1, c1'⟩, ⟨tg, c2, c2'⟩, ⟨em, c3, c3'⟩, ⟨dp, c4⟩, c5⟩ := hW
    have hk1 : keeps f (va_up f (a + 85 + i) (some (.inr (1, [.int 0, .int (nI i), .int 6, .int (-1), va_rf none])))) := keeps_new hwf
    have hlow : ∀ b, b < a + 85 + i → va_up f (a + 85 + i) (some (.inr (1, [.int 0, .int (nI i), .int 6, .int (-1), va_rf none]))) b = f b := fun b hb => va_up_ne _ _ (by omega)
    have hself : va_up f (a + 85 + i) (some (.inr (1, [.int 0, .int (nI i), .int 6, .int (-1), va_rf none]))) (a + 85 + i) = some (.inr (1, [.int 0, .int (nI i), .int 6, .int (-1), va_rf none])) := va_up_self _ _ _
    have hwf1 : wfH (va_up f (a + 85 + i) (some (.inr (1, [.int 0, .int (nI i), .int 6, .int (-1), va_rf none])))) (a + 85 + i + 1) := hwf.new
    generalize hg : va_up f (a + 85 + i) (some (.inr (1, [.int 0, .int (nI i), .int 6, .int (-1), va_rf none]))) = g at hk1 hlow hself hwf1
    have hem : g (a + 3) = some (qa 3 24 em) := by rw [hlow _ (by omega)]; exact c3
    have hcell : g a = some (.inr (5, [.ref (a + 1), .ref (a + 2), .ref (a + 3), .ref (a + 4)])) := by rw [hlow _ (by omega)]; exact c0
    have hup : ∀ b, b ≠ a + 3 → va_up g (a + 3) (some (qa 3 24 (va_up em i (some (a + 85 + i))))) b = g b := fun b hb => va_up_ne _ _ hb
    have hk2 : keeps g (va_up g (a + 3) (some (qa 3 24 (va_up em i (some (a + 85 + i)))))) := keeps_at hem (fun fs e => by cases e)
    obtain ⟨g', e1, e2, e3, e4, e5⟩ := l_X5_init_68 (d := d) hd k (i + 1) (w + 5) (va_up g (a + 3) (some (qa 3 24 (va_up em i (some (a + 85 + i)))))) (by omega) ⟨by rw [hup _ (by omega)]; exact hcell, ⟨ct, by rw [hup _ (by omega), hlow _ (by omega)]; exact c1, c1'⟩, ⟨tg, by rw [hup _ (by omega), hlow _ (by omega)]; exact c2, c2'⟩, ⟨_, va_up_self _ _ _, fun q hq => by
      by_cases e : q = i
      · subst e
        refine ⟨_, va_up_self _ _ _, ?_⟩
        refine ch_keep hk2 _ _ ?_
        exact ⟨a + 85 + q, none, rfl, hself, rfl⟩
      · rw [va_up_ne _ _ e]
        obtain ⟨p, p1, p2⟩ := c3' q (by omega)
        exact ⟨p, p1, ch_keep (keeps_tr hk1 hk2) _ _ p2⟩⟩, ⟨dp, by rw [hup _ (by omega), hlow _ (by omega)]; exact c4⟩, fun t ht => (c5 t ht).ag (lo := a + 3) (hi := a + 4) (n := a + 85 + i) (fun b hb hr => by rw [hup _ (by omega), hlow _ hb]) (by omega) (by omega) (keeps_tr hk1 hk2)⟩ (fun b hb => by
      rw [hup _ (by omega)]; exact hwf1 b (by omega))
    refine ⟨g', ?_, e2, e3, fun b hb => by rw [e4 b hb, hup _ (by omega), hlow _ (by omega)], keeps_tr (keeps_tr hk1 hk2) e5⟩
    rw [show w + 5 * (k + 1) = w + 5 + 5 * k by omega]
    refine px_iload_n dX5_init_68 rfl ?_
    refine px_bipush (v := 24) dX5_init_69 (by decide) ?_
    refine px_icmp_ge (tgt := 94) dX5_init_71 (by decide) (fun hc71 => ?_) (fun hc71 => ?_)
    · exact absurd hc71 (nI_ge (a := i) (b := 24) (by omega) (by omega))
    · refine px_aload_n dX5_init_74 rfl ?_
      refine px_getfield fl_X5_23 dX5_init_75 (by first | exact c0 | exact hem | exact hself) (by rfl) ?_
      refine px_iload_n dX5_init_78 rfl ?_
      refine px_iload_n dX5_init_79 rfl ?_
      refine px_bipush (v := 6) dX5_init_80 (by decide) ?_
      refine px_iconst (v := (-1)) dX5_init_82 (by decide) ?_
      refine px_null dX5_init_83 ?_
      refine px_callS1 (ν := mX1_ofFailure) lk_X5_31 st_X1_ofFailure mok_X1_ofFailure dX5_init_84 (c_X1_ofFailure (q := none)) rfl rfl (by omega) (by simp) ?_
      rw [hg]
      refine px_aastore (ci := 1) rfl rfl dX5_init_87 (by first | exact c0 | exact hem | exact hself) (by decide) (by exact ixn (by omega) (by omega)) (by first | exact c0 | exact hem | exact hself) ?_
      rw [nI_clamp (by omega)]
      refine px_iinc1 rfl (nI_inc i) dX5_init_88 ?_
      refine px_goto (tgt := 68) dX5_init_91 (by decide) ?_
      exact e1
theorem c_X5_init (hp : f a = some (.inr (5, [.null, .null, .null, .null]))) (hwf : wfH f (a + 1)) : ∃ g : Nat → Option va_E, CT B D 3 mX5_init [.ref a] (a + 1, w, f) none (a + 109, w + 8 + 16 + 24 + 24 + 55 * 16 + 5 * 24, g) ∧ IsW g a A0 ∧ wfH g (a + 109) ∧ (∀ b, b < a → g b = f b) ∧ keeps f g := by
  have hmk : ∃ f1 : Nat → Option va_E, (∀ rr h1, EX B D 3 mX5_init 41 [some (.ref a), some (.int (nI 0))] [] (a + 5 + 5 * 0, w + 8 + 16 + 24 + 24, f1) rr h1 → EX B D 3 mX5_init 0 [some (.ref a), none] [] (a + 1, w, f) rr h1) ∧ Wd f1 a 0 0 ∧ wfH f1 (a + 5 + 5 * 0) ∧ (∀ b, b < a → f1 b = f b) := by
    apply Exists.intro
    refine ⟨fun rr h1 hk => ?_, ?_, ?_, ?_⟩
    · refine px_aload_n dX5_init_0 rfl ?_
      refine px_objinit lk_X5_3 in_obj co_obj (by omega) (by simp) dX5_init_1 ?_
      refine px_aload_n dX5_init_4 rfl ?_
      refine px_bipush (v := 8) dX5_init_5 (by decide) ?_
      refine px_anew (t := 3) rfl (by decide) cl_X5_9 aro_RX1 (by decide) rfl (by decide) dX5_init_7 ?_
      refine px_putfieldF fp_X5_11 rfl rfl dX5_init_10 (by first | exact hp | exact va_up_self _ _ _ | (rw [va_up_ne _ _ (by omega)]; first | exact hp | exact va_up_self _ _ _)) rfl rfl (by simp) ?_
      refine px_aload_n dX5_init_13 rfl ?_
      refine px_bipush (v := 16) dX5_init_14 (by decide) ?_
      refine px_anew (t := 4) rfl (by decide) cl_X5_17 aro_RX4 (by decide) rfl (by decide) dX5_init_16 ?_
      refine px_putfieldF fp_X5_19 rfl rfl dX5_init_19 (by first | exact hp | exact va_up_self _ _ _ | (rw [va_up_ne _ _ (by omega)]; first | exact hp | exact va_up_self _ _ _)) rfl rfl (by simp) ?_
      refine px_aload_n dX5_init_22 rfl ?_
      refine px_bipush (v := 24) dX5_init_23 (by decide) ?_
      refine px_anew (t := 3) rfl (by decide) cl_X5_9 aro_RX1 (by decide) rfl (by decide) dX5_init_25 ?_
      refine px_putfieldF fp_X5_23 rfl rfl dX5_init_28 (by first | exact hp | exact va_up_self _ _ _ | (rw [va_up_ne _ _ (by omega)]; first | exact hp | exact va_up_self _ _ _)) rfl rfl (by simp) ?_
      refine px_aload_n dX5_init_31 rfl ?_
      refine px_bipush (v := 24) dX5_init_32 (by decide) ?_
      refine px_newint arc_int (by decide) rfl (by decide) dX5_init_34 ?_
      refine px_putfieldF fp_X5_26 rfl rfl dX5_init_36 (by first | exact hp | exact va_up_self _ _ _ | (rw [va_up_ne _ _ (by omega)]; first | exact hp | exact va_up_self _ _ _)) rfl rfl (by simp) ?_
      refine px_iconst (v := 0) dX5_init_39 (by decide) ?_
      refine px_istore1 rfl dX5_init_40 ?_
      exact hk
    · refine ⟨va_up_self _ _ _, ⟨fun _ => none, ?_, fun _ _ => rfl⟩, ⟨fun _ => none, ?_, fun t ht => absurd ht (Nat.not_lt_zero _)⟩, ⟨fun _ => none, ?_, fun t ht => absurd ht (Nat.not_lt_zero _)⟩, ⟨fun _ => 0, ?_⟩, fun t ht => absurd ht (Nat.not_lt_zero _)⟩
      · repeat (first | exact va_up_self _ _ _ | rw [va_up_ne _ _ (by omega)])
      · repeat (first | exact va_up_self _ _ _ | rw [va_up_ne _ _ (by omega)])
      · repeat (first | exact va_up_self _ _ _ | rw [va_up_ne _ _ (by omega)])
      · repeat (first | exact va_up_self _ _ _ | rw [va_up_ne _ _ (by omega)])
    · intro b hb
      repeat rw [va_up_ne _ _ (by omega)]
      exact hwf b (by omega)
    · intro b hb
      repeat rw [va_up_ne _ _ (by omega)]
  obtain ⟨f1, a1, a2, a3, a4⟩ := hmk
  have hk0 : keeps f f1 := fun b fs hb => by
    have hlt := hwf.lt hb
    by_cases e : b = a
    · subst e; rw [hp] at hb; cases hb
    · rw [a4 b (by omega)]; exact hb
  obtain ⟨g1, b1, b2, b3, b4, b5⟩ := l_X5_init_41 (B := B) (D := D) (a := a) (d := 3) (by omega) 16 0 (w + 8 + 16 + 24 + 24) f1 (by omega) a2 a3
  obtain ⟨g2, d1, d2, d3, d4, d5⟩ := l_X5_init_68 (B := B) (D := D) (a := a) (d := 3) (Nat.le_refl _) 24 0 (w + 8 + 16 + 24 + 24 + 55 * 16) g1 (by omega) b2 b3
  refine ⟨g2, ?_, d2.w, d3, fun b hb => by rw [d4 b hb, b4 b hb, a4 b hb], keeps_tr (keeps_tr hk0 b5) d5⟩
  refine CT.of [some (.ref a), none] rfl (Nat.le_of_ble_eq_true rfl) pl_X5 trivial ?_
  refine a1 _ _ (b1 _ _ ?_)
  refine px_iconst (v := 0) dX5_init_66 (by decide) ?_
  refine px_istore1 rfl dX5_init_67 ?_
  exact d1
def S00 : BS := (A0, (fun _ => false), (fun _ => false), [], 0, 0, 0, 0)
theorem c_X0_init (hp : f a = some (.inr (0, [.null, .null, .int 0, .int 0, .int 0, .int 0, .int 0, .int 0, .int 0, .int 0, .int 0]))) (hwf : wfH f (a + 1)) : ∃ g : Nat → Option va_E, CT B D 5 mX0_init [.ref a] (a + 1, w, f) none (a + 111, w + 4 + 8 + 16 + 24 + 24 + 55 * 16 + 5 * 24 + 16, g) ∧ IsB g a (-5) S00 ∧ wfH g (a + 111) ∧ (∀ b, b < a → g b = f b) ∧ keeps f g := by
  obtain ⟨g, hC, h1, h2, h3, h4⟩ := c_X5_init (B := B) (D := D) (w := w + 4) (f := va_up f (a + 1) (some (.inr (5, [.null, .null, .null, .null])))) (a := a + 1) (va_up_self _ _ _) hwf.new
  have hga : g a = some (.inr (0, [.null, .null, .int 0, .int 0, .int 0, .int 0, .int 0, .int 0, .int 0, .int 0, .int 0])) := by rw [h3 a (by omega), va_up_ne _ _ (by omega)]; exact hp
  have hk0 : keeps f (va_up f (a + 1) (some (.inr (5, [.null, .null, .null, .null])))) := keeps_new hwf
  have hwfg : wfH g (a + 110) := h2
  refine ⟨va_up (va_up g (a + 110) (some (.inl (0, 16, .inl (fun _ => 0))))) a (some (bcell a 0 0 0 (-5) 0 0 0 0 0)), ?_, ⟨0, 0, 0, fun _ => 0, va_up_self _ _ _, ?_, Nat.zero_le _, IsSet.zero, IsSet.zero, fun i x hx => ?_, ?_⟩, ?_, ?_, ?_⟩
  · refine CT.of [some (.ref a)] rfl (Nat.le_of_ble_eq_true rfl) pl_X0 trivial ?_
    refine px_aload_n dX0_init_0 rfl ?_
    refine px_objinit lk_X0_3 in_obj co_obj (by omega) (by simp) dX0_init_1 ?_
    refine px_aload_n dX0_init_4 rfl ?_
    refine px_new (ci := 5) (fs := [.null, .null, .null, .null]) rfl cl_X0_9 ins_RX5 ini_RX5 tyX5 tyX5_ok (def_X5) dX0_init_5 ?_
    refine px_dup dX0_init_8 rfl ?_
    refine px_callI (ν := mX5_init) rfl rfl lk_X0_11 in_X5_init mok_X5_init dX0_init_9 (hC) rfl rfl (by omega) (by simp) ?_
    refine px_putfieldF fp_X0_12 rfl rfl dX0_init_12 (by first | exact hp | exact hga | exact va_up_self _ _ _ | (rw [va_up_ne _ _ (by omega)]; first | exact hga | exact hp | exact va_up_self _ _ _)) rfl rfl (by simp) ?_
    refine px_aload_n dX0_init_15 rfl ?_
    refine px_bipush (v := 16) dX0_init_16 (by decide) ?_
    refine px_newint arc_int (by decide) rfl (by decide) dX0_init_18 ?_
    refine px_putfieldF fp_X0_18 rfl rfl dX0_init_20 (by first | exact hp | exact hga | exact va_up_self _ _ _ | (rw [va_up_ne _ _ (by omega)]; first | exact hga | exact hp | exact va_up_self _ _ _)) rfl rfl (by simp) ?_
    refine px_aload_n dX0_init_23 rfl ?_
    refine px_bipush (v := (-5)) dX0_init_24 (by decide) ?_
    refine px_putfield fp_X0_22 dX0_init_26 (by first | exact hp | exact hga | exact va_up_self _ _ _ | (rw [va_up_ne _ _ (by omega)]; first | exact hga | exact hp | exact va_up_self _ _ _)) rfl rfl (by simp) ?_
    exact px_retv dX0_init_29 rfl (by rw [bx_uu, up_comm g _ _ (show a ≠ a + 1 + 109 by omega), bx_uu]; rfl)
  · rw [va_up_ne _ _ (by omega), va_up_self]
  · have hx : ([] : List Nat)[i]? = some x := hx
    cases hx
  · have hA : Ag g (va_up (va_up g (a + 110) (some (.inl (0, 16, .inl (fun _ => 0))))) a (some (bcell a 0 0 0 (-5) 0 0 0 0 0))) a (a + 1) (a + 110) := fun b hb hr => by rw [va_up_ne _ _ (by omega), va_up_ne _ _ (by omega)]
    exact h1.ag hA (by omega) (Or.inr (Nat.le_refl _)) (keeps_tr (keeps_new hwfg) (keeps_at (e0 := .inr (0, [.null, .null, .int 0, .int 0, .int 0, .int 0, .int 0, .int 0, .int 0, .int 0, .int 0])) (by rw [va_up_ne _ _ (by omega)]; exact hga) (fun fs e => by cases e)))
  · intro b hb
    rw [va_up_ne _ _ (by omega), va_up_ne _ _ (by omega)]
    exact hwfg b (by omega)
  · intro b hb
    rw [va_up_ne _ _ (by omega), va_up_ne _ _ (by omega), h3 b (by omega), va_up_ne _ _ (by omega)]
  · exact keeps_tr (keeps_tr hk0 h4) (keeps_tr (keeps_new hwfg) (keeps_at (e0 := .inr (0, [.null, .null, .int 0, .int 0, .int 0, .int 0, .int 0, .int 0, .int 0, .int 0, .int 0])) (by rw [va_up_ne _ _ (by omega)]; exact hga) (fun fs e => by cases e)))
end M77
