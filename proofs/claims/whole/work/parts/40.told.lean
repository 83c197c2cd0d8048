/-! told -/
def v_told (C : CS) (x : Int32) : Int32 := if x = 0 then C.1.1.st else if x = 1 then C.1.1.po else if x = 2 then C.1.1.sp else if x = 3 then C.1.1.cu
  else if x = 4 then cntF (fun t => !(C.1.1.A.ru (8 + t)).isEmpty) 16 0 0 else if x = 5 then cntF (fun k => (aHas C.1.1.A k).isSome) 16 8 0 else if x = 6 then cntF (fun k => (aFail C.1.1.A k).isSome) 16 8 0 else if x = 7 then cntF (fun t => (C.1.1.A.tr (8 + t)).isSome) 16 0 0
  else if x = 8 then nI C.2.2.1.1 else if x = 9 then nI C.1.1.ord.length else if x = 10 then sbO C.1.2 else -1
section M40
variable {B : Nat} {D : va_G} {n w : Nat} {f : Nat → Option va_E} {e : Nat} {C : CS}
theorem c_X6_told (hE : IsE f e C) (x : Int32) : CT B D 50 mX6_told [.ref e, .int x] (n, w, f) (some (.int (v_told C x))) (n, w, f) := by
  obtain ⟨dn, op, wt, dk, hcb, -⟩ := id hE.2.1
  have he := hE.1
  have hW := hE.2.1.w
  have hP := hE.2.2.2.2.1
  refine CT.of [some (.ref e), some (.int x)] rfl (Nat.le_of_ble_eq_true rfl) pl_X6 trivial ?_
  refine px_iload_n dX6_told_0 rfl ?_
  rcases sw_cases x 0 11 with h | h | ⟨j, hj, h⟩
  · refine px_tableOut (tgt := 148) dX6_told_1 (Or.inl h) (by decide) ?_
    have hne : ∀ z : Int32, 0 ≤ z.toInt → z.toInt ≤ 10 → ¬ x = z := fun z h1 h2 e => by subst e; omega
    refine px_iconst (v := (-1)) dX6_told_148 (by decide) ?_
    exact px_reti dX6_told_149 (by unfold v_told; rw [if_neg (hne 0 (by decide) (by decide)), if_neg (hne 1 (by decide) (by decide)), if_neg (hne 2 (by decide) (by decide)), if_neg (hne 3 (by decide) (by decide)), if_neg (hne 4 (by decide) (by decide)), if_neg (hne 5 (by decide) (by decide)), if_neg (hne 6 (by decide) (by decide)), if_neg (hne 7 (by decide) (by decide)), if_neg (hne 8 (by decide) (by decide)), if_neg (hne 9 (by decide) (by decide)), if_neg (hne 10 (by decide) (by decide))]) (by rfl)
  · refine px_tableOut (tgt := 148) dX6_told_1 (Or.inr (by omega)) (by decide) ?_
    have hne : ∀ z : Int32, 0 ≤ z.toInt → z.toInt ≤ 10 → ¬ x = z := fun z h1 h2 e => by subst e; omega
    refine px_iconst (v := (-1)) dX6_told_148 (by decide) ?_
    exact px_reti dX6_told_149 (by unfold v_told; rw [if_neg (hne 0 (by decide) (by decide)), if_neg (hne 1 (by decide) (by decide)), if_neg (hne 2 (by decide) (by decide)), if_neg (hne 3 (by decide) (by decide)), if_neg (hne 4 (by decide) (by decide)), if_neg (hne 5 (by decide) (by decide)), if_neg (hne 6 (by decide) (by decide)), if_neg (hne 7 (by decide) (by decide)), if_neg (hne 8 (by decide) (by decide)), if_neg (hne 9 (by decide) (by decide)), if_neg (hne 10 (by decide) (by decide))]) (by rfl)
  · match j, hj with
    | 0, _ =>
      have hx : x = 0 := Int32.toInt_inj.mp (by rw [h]; rfl)
      subst hx
      refine px_tableIn (off := 59) (tgt := 60) dX6_told_1 (by decide) (by decide) rfl (by decide) ?_
      refine px_aload_n dX6_told_60 rfl ?_
      refine px_getfield fl_X6_14 dX6_told_61 (by first | exact he | exact hcb | exact hW.1 | exact hP.1) (by rfl) ?_
      refine px_getfield fl_X6_198 dX6_told_64 (by first | exact he | exact hcb | exact hW.1 | exact hP.1) (by rfl) ?_
      exact px_reti dX6_told_67 (by first | rfl | simp [v_told]) (by rfl)
    | 1, _ =>
      have hx : x = 1 := Int32.toInt_inj.mp (by rw [h]; rfl)
      subst hx
      refine px_tableIn (off := 67) (tgt := 68) dX6_told_1 (by decide) (by decide) rfl (by decide) ?_
      refine px_aload_n dX6_told_68 rfl ?_
      refine px_getfield fl_X6_14 dX6_told_69 (by first | exact he | exact hcb | exact hW.1 | exact hP.1) (by rfl) ?_
      refine px_getfield fl_X6_201 dX6_told_72 (by first | exact he | exact hcb | exact hW.1 | exact hP.1) (by rfl) ?_
      exact px_reti dX6_told_75 (by first | rfl | simp [v_told]) (by rfl)
    | 2, _ =>
      have hx : x = 2 := Int32.toInt_inj.mp (by rw [h]; rfl)
      subst hx
      refine px_tableIn (off := 75) (tgt := 76) dX6_told_1 (by decide) (by decide) rfl (by decide) ?_
      refine px_aload_n dX6_told_76 rfl ?_
      refine px_getfield fl_X6_14 dX6_told_77 (by first | exact he | exact hcb | exact hW.1 | exact hP.1) (by rfl) ?_
      refine px_getfield fl_X6_204 dX6_told_80 (by first | exact he | exact hcb | exact hW.1 | exact hP.1) (by rfl) ?_
      exact px_reti dX6_told_83 (by first | rfl | simp [v_told]) (by rfl)
    | 3, _ =>
      have hx : x = 3 := Int32.toInt_inj.mp (by rw [h]; rfl)
      subst hx
      refine px_tableIn (off := 83) (tgt := 84) dX6_told_1 (by decide) (by decide) rfl (by decide) ?_
      refine px_aload_n dX6_told_84 rfl ?_
      refine px_getfield fl_X6_14 dX6_told_85 (by first | exact he | exact hcb | exact hW.1 | exact hP.1) (by rfl) ?_
      refine px_getfield fl_X6_207 dX6_told_88 (by first | exact he | exact hcb | exact hW.1 | exact hP.1) (by rfl) ?_
      exact px_reti dX6_told_91 (by first | rfl | simp [v_told]) (by rfl)
    | 4, _ =>
      have hx : x = 4 := Int32.toInt_inj.mp (by rw [h]; rfl)
      subst hx
      refine px_tableIn (off := 91) (tgt := 92) dX6_told_1 (by decide) (by decide) rfl (by decide) ?_
      refine px_aload_n dX6_told_92 rfl ?_
      refine px_getfield fl_X6_25 dX6_told_93 (by first | exact he | exact hcb | exact hW.1 | exact hP.1) (by rfl) ?_
      refine px_callV1 (ν := mX5_ruleCount) (ci := 5) rfl rfl lk_X6_210 in_X5_ruleCount se_X5_ruleCount mok_X5_ruleCount dX6_told_96 (c_X5_ruleCount hW) (by first | exact he | exact hcb | exact hW.1 | exact hP.1) rfl rfl (by omega) (by simp) ?_
      exact px_reti dX6_told_99 (by first | rfl | simp [v_told]) (by rfl)
    | 5, _ =>
      have hx : x = 5 := Int32.toInt_inj.mp (by rw [h]; rfl)
      subst hx
      refine px_tableIn (off := 99) (tgt := 100) dX6_told_1 (by decide) (by decide) rfl (by decide) ?_
      refine px_aload_n dX6_told_100 rfl ?_
      refine px_getfield fl_X6_25 dX6_told_101 (by first | exact he | exact hcb | exact hW.1 | exact hP.1) (by rfl) ?_
      refine px_callV1 (ν := mX5_resultCount) (ci := 5) rfl rfl lk_X6_213 in_X5_resultCount se_X5_resultCount mok_X5_resultCount dX6_told_104 (c_X5_resultCount hW) (by first | exact he | exact hcb | exact hW.1 | exact hP.1) rfl rfl (by omega) (by simp) ?_
      exact px_reti dX6_told_107 (by first | rfl | simp [v_told]) (by rfl)
    | 6, _ =>
      have hx : x = 6 := Int32.toInt_inj.mp (by rw [h]; rfl)
      subst hx
      refine px_tableIn (off := 107) (tgt := 108) dX6_told_1 (by decide) (by decide) rfl (by decide) ?_
      refine px_aload_n dX6_told_108 rfl ?_
      refine px_getfield fl_X6_25 dX6_told_109 (by first | exact he | exact hcb | exact hW.1 | exact hP.1) (by rfl) ?_
      refine px_callV1 (ν := mX5_failureCount) (ci := 5) rfl rfl lk_X6_216 in_X5_failureCount se_X5_failureCount mok_X5_failureCount dX6_told_112 (c_X5_failureCount hW) (by first | exact he | exact hcb | exact hW.1 | exact hP.1) rfl rfl (by omega) (by simp) ?_
      exact px_reti dX6_told_115 (by first | rfl | simp [v_told]) (by rfl)
    | 7, _ =>
      have hx : x = 7 := Int32.toInt_inj.mp (by rw [h]; rfl)
      subst hx
      refine px_tableIn (off := 115) (tgt := 116) dX6_told_1 (by decide) (by decide) rfl (by decide) ?_
      refine px_aload_n dX6_told_116 rfl ?_
      refine px_getfield fl_X6_25 dX6_told_117 (by first | exact he | exact hcb | exact hW.1 | exact hP.1) (by rfl) ?_
      refine px_callV1 (ν := mX5_traceCount) (ci := 5) rfl rfl lk_X6_219 in_X5_traceCount se_X5_traceCount mok_X5_traceCount dX6_told_120 (c_X5_traceCount hW) (by first | exact he | exact hcb | exact hW.1 | exact hP.1) rfl rfl (by omega) (by simp) ?_
      exact px_reti dX6_told_123 (by first | rfl | simp [v_told]) (by rfl)
    | 8, _ =>
      have hx : x = 8 := Int32.toInt_inj.mp (by rw [h]; rfl)
      subst hx
      refine px_tableIn (off := 123) (tgt := 124) dX6_told_1 (by decide) (by decide) rfl (by decide) ?_
      refine px_aload_n dX6_told_124 rfl ?_
      refine px_getfield fl_X6_35 dX6_told_125 (by first | exact he | exact hcb | exact hW.1 | exact hP.1) (by rfl) ?_
      refine px_getfield fl_X6_75 dX6_told_128 (by first | exact he | exact hcb | exact hW.1 | exact hP.1) (by rfl) ?_
      exact px_reti dX6_told_131 (by first | rfl | simp [v_told]) (by rfl)
    | 9, _ =>
      have hx : x = 9 := Int32.toInt_inj.mp (by rw [h]; rfl)
      subst hx
      refine px_tableIn (off := 131) (tgt := 132) dX6_told_1 (by decide) (by decide) rfl (by decide) ?_
      refine px_aload_n dX6_told_132 rfl ?_
      refine px_getfield fl_X6_14 dX6_told_133 (by first | exact he | exact hcb | exact hW.1 | exact hP.1) (by rfl) ?_
      refine px_getfield fl_X6_222 dX6_told_136 (by first | exact he | exact hcb | exact hW.1 | exact hP.1) (by rfl) ?_
      exact px_reti dX6_told_139 (by first | rfl | simp [v_told]) (by rfl)
    | 10, _ =>
      have hx : x = 10 := Int32.toInt_inj.mp (by rw [h]; rfl)
      subst hx
      refine px_tableIn (off := 139) (tgt := 140) dX6_told_1 (by decide) (by decide) rfl (by decide) ?_
      refine px_aload_n dX6_told_140 rfl ?_
      refine px_getfield fl_X6_14 dX6_told_141 (by first | exact he | exact hcb | exact hW.1 | exact hP.1) (by rfl) ?_
      refine px_getfield fl_X6_225 dX6_told_144 (by first | exact he | exact hcb | exact hW.1 | exact hP.1) (by rfl) ?_
      exact px_reti dX6_told_147 (by first | rfl | simp [v_told]) (by rfl)
    | k + 11, hk => exact absurd hk (by omega)
end M40
