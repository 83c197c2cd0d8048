/-! the engine is made: its constructor -/
def R00 : Nat → aR := fun _ => (none, fun _ => 0)
def C00 : CS := ((S00, none), (false, A0), (0, fun _ => 0), R00)
section M78
variable {B : Nat} {D : va_G} {n w : Nat} {f : Nat → Option va_E} {e : Nat}
theorem l_X6_init_69 {d : Nat} (hd : 2 ≤ d) : ∀ (k i w : Nat) (f : Nat → Option va_E), i + k = 4 → f e = some (ecell e false) → (∃ rw : Nat → Option Nat, f (e + 334) = some (qa 5 4 rw) ∧ ∀ j, j < i → rw j = some (e + 335 + 2 * j)) → (∀ j, j < i → IsR f (e + 335 + 2 * j) 0 0 (fun _ => 0)) → wfH f (e + 335 + 2 * i) → ∃ g : Nat → Option va_E, EX B D d mX6_init 69 [some (.ref e), some (.int (nI i))] [] (e + 335 + 2 * i, w, f) none (e + 343, w + 23 * k, g) ∧ IsRw g e R00 ∧ wfH g (e + 343) ∧ (∀ b, b < e + 334 → g b = f b) ∧ keeps f g
  | 0, i, w, f, hi, he, ⟨rw, h1, h2⟩, hR, hwf => by
    have : i = 4 := by omega
    subst this
    refine ⟨f, ?_, ⟨rw, h1, fun j hj => ⟨h2 j hj, fun _ => 0, hR j hj, fun _ _ => rfl, Nat.zero_le _⟩⟩, hwf, fun _ _ => rfl, keeps_rf f⟩
    refine px_iload_n dX6_init_69 rfl ?_
    refine px_iconst (v := 4) dX6_init_70 (by decide) ?_
    refine px_icmp_ge (tgt := 93) dX6_init_71 (by decide) (fun hc71 => ?_) (fun hc71 => ?_)
    · exact px_retv dX6_init_93 rfl (by rfl)
    · exact absurd (by decide) hc71
  | k + 1, i, w, f, hi, he, ⟨rw, h1, h2⟩, hR, hwf => by
    have hC := c_X2_init (B := B) (D := D) (w := w + 3) (n := e + 335 + 2 * i + 1) (f := va_up f (e + 335 + 2 * i) (some (.inr (2, [.int 0, .null, .int 0])))) (a := e + 335 + 2 * i) (va_up_self _ _ _) rfl
    have hlow : ∀ b, b < e + 335 + 2 * i → va_up (va_up (va_up f (e + 335 + 2 * i) (some (.inr (2, [.int 0, .null, .int 0])))) (e + 335 + 2 * i + 1) (some (.inl (1, 20, .inr (.inl (fun _ => 0)))))) (e + 335 + 2 * i) (some (.inr (2, [.int 0, .ref (e + 335 + 2 * i + 1), .int 0]))) b = f b := fun b hb => by rw [va_up_ne _ _ (by omega), va_up_ne _ _ (by omega), va_up_ne _ _ (by omega)]
    have hR1 : IsR (va_up (va_up (va_up f (e + 335 + 2 * i) (some (.inr (2, [.int 0, .null, .int 0])))) (e + 335 + 2 * i + 1) (some (.inl (1, 20, .inr (.inl (fun _ => 0)))))) (e + 335 + 2 * i) (some (.inr (2, [.int 0, .ref (e + 335 + 2 * i + 1), .int 0])))) (e + 335 + 2 * i) 0 0 (fun _ => 0) := ⟨va_up_self _ _ _, by rw [va_up_ne _ _ (by omega), va_up_self]⟩
    have hwf1 : wfH (va_up (va_up (va_up f (e + 335 + 2 * i) (some (.inr (2, [.int 0, .null, .int 0])))) (e + 335 + 2 * i + 1) (some (.inl (1, 20, .inr (.inl (fun _ => 0)))))) (e + 335 + 2 * i) (some (.inr (2, [.int 0, .ref (e + 335 + 2 * i + 1), .int 0])))) (e + 335 + 2 * i + 2) := fun b hb => by
      rw [va_up_ne _ _ (by omega), va_up_ne _ _ (by omega), va_up_ne _ _ (by omega)]
      exact hwf b (by omega)
    generalize va_up (va_up (va_up f (e + 335 + 2 * i) (some (.inr (2, [.int 0, .null, .int 0])))) (e + 335 + 2 * i + 1) (some (.inl (1, 20, .inr (.inl (fun _ => 0)))))) (e + 335 + 2 * i) (some (.inr (2, [.int 0, .ref (e + 335 + 2 * i + 1), .int 0]))) = g at hC hlow hR1 hwf1
    have hk1 : keeps f g := fun b fs hb => by
      have hlt := hwf.lt hb
      rw [hlow b hlt]; exact hb
    have hge : g e = some (ecell e false) := by rw [hlow _ (by omega)]; exact he
    have hg3 : g (e + 334) = some (qa 5 4 rw) := by rw [hlow _ (by omega)]; exact h1
    have hgn := hR1.1
    have hup : ∀ b, b ≠ e + 334 → va_up g (e + 334) (some (qa 5 4 (va_up rw i (some (e + 335 + 2 * i))))) b = g b := fun b hb => va_up_ne _ _ hb
    have hk2 : keeps g (va_up g (e + 334) (some (qa 5 4 (va_up rw i (some (e + 335 + 2 * i)))))) := keeps_at hg3 (fun fs z => by cases z)
    obtain ⟨g', e1, e2, e3, e4, e5⟩ := l_X6_init_69 (d := d) hd k (i + 1) (w + 3 + 20) (va_up g (e + 334) (some (qa 5 4 (va_up rw i (some (e + 335 + 2 * i)))))) (by omega) (by rw [hup _ (by omega)]; exact hge) ⟨_, va_up_self _ _ _, fun j hj => by
      by_cases z : j = i
      · subst z; rw [va_up_self]
      · rw [va_up_ne _ _ z]; exact h2 j (by omega)⟩ (fun j hj => by
      by_cases z : j = i
      · subst z
        exact ⟨by rw [hup _ (by omega)]; exact hR1.1, by rw [hup _ (by omega)]; exact hR1.2⟩
      · have := hR j (by omega)
        exact ⟨by rw [hup _ (by omega), hlow _ (by omega)]; exact this.1, by rw [hup _ (by omega), hlow _ (by omega)]; exact this.2⟩) (fun b hb => by rw [hup _ (by omega)]; exact hwf1 b (by omega))
    refine ⟨g', ?_, e2, e3, fun b hb => by rw [e4 b hb, hup _ (by omega), hlow _ (by omega)], keeps_tr (keeps_tr hk1 hk2) e5⟩
    rw [show w + 23 * (k + 1) = w + 3 + 20 + 23 * k by omega]
    refine px_iload_n dX6_init_69 rfl ?_
    refine px_iconst (v := 4) dX6_init_70 (by decide) ?_
    refine px_icmp_ge (tgt := 93) dX6_init_71 (by decide) (fun hc71 => ?_) (fun hc71 => ?_)
    · exact absurd hc71 (nI_ge (a := i) (b := 4) (by omega) (by omega))
    · refine px_aload_n dX6_init_74 rfl ?_
      refine px_getfield fl_X6_41 dX6_init_75 (by first | exact he | exact hge | exact hg3 | exact hgn) (by rfl) ?_
      refine px_iload_n dX6_init_78 rfl ?_
      refine px_new (ci := 2) (fs := [.int 0, .null, .int 0]) rfl cl_X6_39 ins_RX2 ini_RX2 tyX2 tyX2_ok (def_X2) dX6_init_79 ?_
      refine px_dup dX6_init_82 rfl ?_
      refine px_callIN (ν := mX2_init) rfl rfl lk_X6_45 in_X2_init mok_X2_init dX6_init_83 (hC) rfl rfl (by omega) (by simp) ?_
      refine px_aastore (ci := 2) rfl rfl dX6_init_86 (by first | exact he | exact hge | exact hg3 | exact hgn) (by decide) (by exact ixn (by omega) (by omega)) (by first | exact he | exact hge | exact hg3 | exact hgn) ?_
      rw [nI_clamp (by omega)]
      refine px_iinc1 rfl (nI_inc i) dX6_init_87 ?_
      refine px_goto (tgt := 69) dX6_init_90 (by decide) ?_
      exact e1
theorem c_X6_init (hp : f e = some (.inr (6, [.null, .null, .null, .null, .null, .null, .int 0]))) (hwf : wfH f (e + 1)) : ∃ (w' : Nat) (g : Nat → Option va_E), CT B D 7 mX6_init [.ref e] (e + 1, w, f) none (e + 343, w', g) ∧ w' ≤ w + 5000 ∧ IsE g e C00 ∧ wfH g (e + 343) ∧ ∀ b, b < e → g b = f b := by
  -- the builder
  obtain ⟨gb, b1, b2, b3, b4, b5⟩ := c_X0_init (B := B) (D := D) (w := w + 11) (f := va_up f (e + 1) (some (.inr (0, [.null, .null, .int 0, .int 0, .int 0, .int 0, .int 0, .int 0, .int 0, .int 0, .int 0])))) (a := e + 1) (va_up_self _ _ _) hwf.new
  have hbe : gb e = some (.inr (6, [.null, .null, .null, .null, .null, .null, .int 0])) := by rw [b4 e (by omega), va_up_ne _ _ (by omega)]; exact hp
  have hbwf : wfH (va_up gb e (some (.inr (6, [.ref (e + 1), .null, .null, .null, .null, .null, .int 0])))) (e + 112) := (show wfH gb (e + 112) from b3).up (by omega)
  have hbk : keeps gb (va_up gb e (some (.inr (6, [.ref (e + 1), .null, .null, .null, .null, .null, .int 0])))) := keeps_at hbe (fun fs z => by cases z)
  -- the trier
  obtain ⟨gt, t1, t2, t3, t4, t5⟩ := c_X0_init (B := B) (D := D) (w := w + 11 + 4 + 8 + 16 + 24 + 24 + 55 * 16 + 5 * 24 + 16 + 11) (f := va_up (va_up gb e (some (.inr (6, [.ref (e + 1), .null, .null, .null, .null, .null, .int 0])))) (e + 112) (some (.inr (0, [.null, .null, .int 0, .int 0, .int 0, .int 0, .int 0, .int 0, .int 0, .int 0, .int 0])))) (a := e + 112) (va_up_self _ _ _) hbwf.new
  have htk0 : keeps (va_up gb e (some (.inr (6, [.ref (e + 1), .null, .null, .null, .null, .null, .int 0])))) (va_up (va_up gb e (some (.inr (6, [.ref (e + 1), .null, .null, .null, .null, .null, .int 0])))) (e + 112) (some (.inr (0, [.null, .null, .int 0, .int 0, .int 0, .int 0, .int 0, .int 0, .int 0, .int 0, .int 0])))) := keeps_new hbwf
  have htl : ∀ b, b < e + 112 → b ≠ e → gt b = gb b := fun b h1 h2 => by rw [t4 b (by omega), va_up_ne _ _ (by omega), va_up_ne _ _ h2]
  have hte : gt e = some (.inr (6, [.ref (e + 1), .null, .null, .null, .null, .null, .int 0])) := by rw [t4 e (by omega), va_up_ne _ _ (by omega), va_up_self]
  have hbc : ∃ (x1 x2 x3 x4 x5 x6 x7 x8 x9 x10 : Value), gt (e + 1) = some (.inr (0, [.ref (e + 1 + 1), x1, x2, x3, x4, x5, x6, x7, x8, x9, x10])) := by
    obtain ⟨dn, op, wt, dk, h1, -⟩ := b2
    exact ⟨_, _, _, _, _, _, _, _, _, _, by rw [htl _ (by omega) (by omega)]; exact h1⟩
  obtain ⟨x1, x2, x3, x4, x5, x6, x7, x8, x9, x10, hbc⟩ := hbc
  have htk1 : keeps gt (va_up gt e (some (.inr (6, [.ref (e + 1), .ref (e + 112), .ref (e + 1 + 1), .null, .null, .null, .int 0])))) := keeps_at hte (fun fs z => by cases z)
  have htwf : wfH (va_up gt e (some (.inr (6, [.ref (e + 1), .ref (e + 112), .ref (e + 1 + 1), .null, .null, .null, .int 0])))) (e + 223) := (show wfH gt (e + 223) from t3).up (by omega)
  -- the image's world
  obtain ⟨gi, i1, i2, i3, i4, i5⟩ := c_X5_init (B := B) (D := D) (w := w + 11 + 4 + 8 + 16 + 24 + 24 + 55 * 16 + 5 * 24 + 16 + 11 + 4 + 8 + 16 + 24 + 24 + 55 * 16 + 5 * 24 + 16 + 4) (f := va_up (va_up gt e (some (.inr (6, [.ref (e + 1), .ref (e + 112), .ref (e + 1 + 1), .null, .null, .null, .int 0])))) (e + 223) (some (.inr (5, [.null, .null, .null, .null])))) (a := e + 223) (va_up_self _ _ _) htwf.new
  have hik0 : keeps (va_up gt e (some (.inr (6, [.ref (e + 1), .ref (e + 112), .ref (e + 1 + 1), .null, .null, .null, .int 0])))) (va_up (va_up gt e (some (.inr (6, [.ref (e + 1), .ref (e + 112), .ref (e + 1 + 1), .null, .null, .null, .int 0])))) (e + 223) (some (.inr (5, [.null, .null, .null, .null])))) := keeps_new htwf
  have hil : ∀ b, b < e + 223 → b ≠ e → gi b = gt b := fun b h1 h2 => by rw [i4 b (by omega), va_up_ne _ _ (by omega), va_up_ne _ _ h2]
  have hie : gi e = some (.inr (6, [.ref (e + 1), .ref (e + 112), .ref (e + 1 + 1), .null, .null, .null, .int 0])) := by rw [i4 e (by omega), va_up_ne _ _ (by omega), va_up_self]
  have hiwf : wfH gi (e + 332) := i3
  -- THE TAPE, the rows
  have hC3 := c_X3_init (B := B) (D := D) (w := w + 11 + 4 + 8 + 16 + 24 + 24 + 55 * 16 + 5 * 24 + 16 + 11 + 4 + 8 + 16 + 24 + 24 + 55 * 16 + 5 * 24 + 16 + 4 + 8 + 16 + 24 + 24 + 55 * 16 + 5 * 24 + 2) (n := e + 332 + 1) (f := va_up (va_up gi e (some (.inr (6, [.ref (e + 1), .ref (e + 112), .ref (e + 1 + 1), .ref (e + 223), .null, .null, .int 0])))) (e + 332) (some (.inr (3, [.null, .int 0])))) (a := e + 332) (va_up_self _ _ _) rfl
  have hmk : ∃ g1 : Nat → Option va_E, (∀ rr h1, EX B D 7 mX6_init 69 [some (.ref e), some (.int (nI 0))] [] (e + 335 + 2 * 0, w + 11 + 4 + 8 + 16 + 24 + 24 + 55 * 16 + 5 * 24 + 16 + 11 + 4 + 8 + 16 + 24 + 24 + 55 * 16 + 5 * 24 + 16 + 4 + 8 + 16 + 24 + 24 + 55 * 16 + 5 * 24 + 2 + 50 + 4, g1) rr h1 → EX B D 7 mX6_init 0 [some (.ref e), none] [] (e + 1, w, f) rr h1) ∧ (g1 e = some (ecell e false) ∧ g1 (e + 334) = some (qa 5 4 (fun _ => none)) ∧ g1 (e + 332) = some (.inr (3, [.ref (e + 332 + 1), .int 0])) ∧ g1 (e + 333) = some (.inl (0, 50, .inl (fun _ => 0))) ∧ (∀ b, b < e + 332 → b ≠ e → g1 b = gi b) ∧ ∀ b, e + 335 ≤ b → g1 b = none) := by
    apply Exists.intro
    refine ⟨fun rr h1 hk => ?_, ?_, ?_, ?_, ?_, ?_, ?_⟩
    · refine px_aload_n dX6_init_0 rfl ?_
      refine px_objinit lk_X6_5 in_obj co_obj (by omega) (by simp) dX6_init_1 ?_
      refine px_aload_n dX6_init_4 rfl ?_
      refine px_new (ci := 0) (fs := [.null, .null, .int 0, .int 0, .int 0, .int 0, .int 0, .int 0, .int 0, .int 0, .int 0]) rfl cl_X6_11 ins_RX0 ini_RX0 tyX0 tyX0_ok (def_X0) dX6_init_5 ?_
      refine px_dup dX6_init_8 rfl ?_
      refine px_callIN (ν := mX0_init) rfl rfl lk_X6_13 in_X0_init mok_X0_init dX6_init_9 (b1) rfl rfl (by omega) (by simp) ?_
      refine px_putfieldF fp_X6_14 rfl rfl dX6_init_12 (by first | exact hp | exact hbe | exact hte | exact hbc | exact hie | exact va_up_self _ _ _ | (simp (disch := omega) only [va_up_ne, va_up_self]; first | done | rfl | exact hbc | exact hie | exact hte | exact hbe)) rfl rfl (by simp) ?_
      refine px_aload_n dX6_init_15 rfl ?_
      refine px_new (ci := 0) (fs := [.null, .null, .int 0, .int 0, .int 0, .int 0, .int 0, .int 0, .int 0, .int 0, .int 0]) rfl cl_X6_11 ins_RX0 ini_RX0 tyX0 tyX0_ok (def_X0) dX6_init_16 ?_
      refine px_dup dX6_init_19 rfl ?_
      refine px_callIN (ν := mX0_init) rfl rfl lk_X6_13 in_X0_init mok_X0_init dX6_init_20 (t1) rfl rfl (by omega) (by simp) ?_
      refine px_putfieldF fp_X6_18 rfl rfl dX6_init_23 (by first | exact hp | exact hbe | exact hte | exact hbc | exact hie | exact va_up_self _ _ _ | (simp (disch := omega) only [va_up_ne, va_up_self]; first | done | rfl | exact hbc | exact hie | exact hte | exact hbe)) rfl rfl (by simp) ?_
      refine px_aload_n dX6_init_26 rfl ?_
      refine px_aload_n dX6_init_27 rfl ?_
      refine px_getfield fl_X6_14 dX6_init_28 (by first | exact hp | exact hbe | exact hte | exact hbc | exact hie | exact va_up_self _ _ _ | (simp (disch := omega) only [va_up_ne, va_up_self]; first | done | rfl | exact hbc | exact hie | exact hte | exact hbe)) (by rfl) ?_
      refine px_getfield fl_X6_21 dX6_init_31 (by first | exact hp | exact hbe | exact hte | exact hbc | exact hie | exact va_up_self _ _ _ | (simp (disch := omega) only [va_up_ne, va_up_self]; first | done | rfl | exact hbc | exact hie | exact hte | exact hbe)) (by rfl) ?_
      refine px_putfieldF fp_X6_25 rfl rfl dX6_init_34 (by first | exact hp | exact hbe | exact hte | exact hbc | exact hie | exact va_up_self _ _ _ | (simp (disch := omega) only [va_up_ne, va_up_self]; first | done | rfl | exact hbc | exact hie | exact hte | exact hbe)) rfl rfl (by simp) ?_
      rw [bx_uu]
      refine px_aload_n dX6_init_37 rfl ?_
      refine px_new (ci := 5) (fs := [.null, .null, .null, .null]) rfl cl_X6_26 ins_RX5 ini_RX5 tyX5 tyX5_ok (def_X5) dX6_init_38 ?_
      refine px_dup dX6_init_41 rfl ?_
      refine px_callI (ν := mX5_init) rfl rfl lk_X6_28 in_X5_init mok_X5_init dX6_init_42 (i1) rfl rfl (by omega) (by simp) ?_
      refine px_putfieldF fp_X6_29 rfl rfl dX6_init_45 (by first | exact hp | exact hbe | exact hte | exact hbc | exact hie | exact va_up_self _ _ _ | (simp (disch := omega) only [va_up_ne, va_up_self]; first | done | rfl | exact hbc | exact hie | exact hte | exact hbe)) rfl rfl (by simp) ?_
      refine px_aload_n dX6_init_48 rfl ?_
      refine px_new (ci := 3) (fs := [.null, .int 0]) rfl cl_X6_32 ins_RX3 ini_RX3 tyX3 tyX3_ok (def_X3) dX6_init_49 ?_
      refine px_dup dX6_init_52 rfl ?_
      refine px_callIN (ν := mX3_init) rfl rfl lk_X6_34 in_X3_init mok_X3_init dX6_init_53 (hC3) rfl rfl (by omega) (by simp) ?_
      refine px_putfieldF fp_X6_35 rfl rfl dX6_init_56 (by first | exact hp | exact hbe | exact hte | exact hbc | exact hie | exact va_up_self _ _ _ | (simp (disch := omega) only [va_up_ne, va_up_self]; first | done | rfl | exact hbc | exact hie | exact hte | exact hbe)) rfl rfl (by simp) ?_
      refine px_aload_n dX6_init_59 rfl ?_
      refine px_iconst (v := 4) dX6_init_60 (by decide) ?_
      refine px_anew (t := 5) rfl (by decide) cl_X6_39 aro_RX2 (by decide) rfl (by decide) dX6_init_61 ?_
      refine px_putfieldF fp_X6_41 rfl rfl dX6_init_64 (by first | exact hp | exact hbe | exact hte | exact hbc | exact hie | exact va_up_self _ _ _ | (simp (disch := omega) only [va_up_ne, va_up_self]; first | done | rfl | exact hbc | exact hie | exact hte | exact hbe)) rfl rfl (by simp) ?_
      refine px_iconst (v := 0) dX6_init_67 (by decide) ?_
      refine px_istore1 rfl dX6_init_68 ?_
      exact hk
    · exact va_up_self _ _ _
    · simp (disch := omega) only [va_up_ne, va_up_self]; first | done | rfl
    · simp (disch := omega) only [va_up_ne, va_up_self]
    · rw [show e + 333 = e + 332 + 1 by omega]; simp (disch := omega) only [va_up_ne, va_up_self]
    · intro b h1 h2
      simp (disch := omega) only [va_up_ne]
    · intro b hb
      simp (disch := omega) only [va_up_ne]
      exact hiwf b (by omega)
  obtain ⟨g1, c1, c2, c3, c4, c5, c6, c7⟩ := hmk
  have hk1 : keeps gi g1 := fun b fs hb => by
    have hlt := hiwf.lt hb
    by_cases z : b = e
    · subst z; rw [hie] at hb; cases hb
    · rw [c6 b hlt z]; exact hb
  obtain ⟨g, d1, d2, d3, d4, d5⟩ := l_X6_init_69 (B := B) (D := D) (e := e) (d := 7) (by omega) 4 0 (w + 11 + 4 + 8 + 16 + 24 + 24 + 55 * 16 + 5 * 24 + 16 + 11 + 4 + 8 + 16 + 24 + 24 + 55 * 16 + 5 * 24 + 16 + 4 + 8 + 16 + 24 + 24 + 55 * 16 + 5 * 24 + 2 + 50 + 4) g1 rfl c2 ⟨_, c3, fun j hj => absurd hj (Nat.not_lt_zero _)⟩ (fun j hj => absurd hj (Nat.not_lt_zero _)) (fun b hb => c7 b (by omega))
  -- from gb, gt, gi to g: only e, and what is new
  have kgi : keeps gi g := keeps_tr hk1 d5
  have kgt : keeps gt g := keeps_tr (keeps_tr htk1 (keeps_tr hik0 i5)) kgi
  have kgb : keeps gb g := keeps_tr (keeps_tr hbk (keeps_tr htk0 t5)) kgt
  have agi : Ag gi g e (e + 1) (e + 332) := fun b hb hr => by rw [d4 b (by omega), c6 b hb (by omega)]
  have agt : Ag gt g e (e + 1) (e + 223) := fun b hb hr => by rw [agi b (by omega) hr, hil b hb (by omega)]
  have agb : Ag gb g e (e + 1) (e + 112) := fun b hb hr => by rw [agt b (by omega) hr, htl b hb (by omega)]
  refine ⟨w + 11 + 4 + 8 + 16 + 24 + 24 + 55 * 16 + 5 * 24 + 16 + 11 + 4 + 8 + 16 + 24 + 24 + 55 * 16 + 5 * 24 + 16 + 4 + 8 + 16 + 24 + 24 + 55 * 16 + 5 * 24 + 2 + 50 + 4 + 23 * 4, g, ?_, ?_, ⟨by rw [d4 e (by omega)]; exact c2, ?_, ⟨-5, S00, ?_⟩, ?_, ?_, d2⟩, d3, fun b hb => ?_⟩
  · refine CT.of [some (.ref e), none] rfl (Nat.le_of_ble_eq_true rfl) pl_X6 trivial ?_
    exact c1 _ _ d1
  · omega
  · exact b2.ag agb (by omega) (Or.inr (Nat.le_refl _)) kgb
  · exact t2.ag agt (by omega) (Or.inr (by omega)) kgt
  · exact i2.ag agi (by omega) (Or.inr (by omega)) kgi
  · exact ⟨by rw [d4 _ (by omega)]; exact c4, by rw [d4 _ (by omega)]; exact c5, Nat.zero_le _⟩
  · rw [agb b (by omega) (by omega), b4 b (by omega), va_up_ne _ _ (by omega)]
end M78
