/-! the calls that only look -/
def ecell (e : Nat) (im : Bool) : va_E := .inr (6, [.ref (e + 1), .ref (e + 112), .ref (e + 1 + 1), .ref (e + 223), .ref (e + 332), .ref (e + 334), .int (bi im)])
def v_result (A : AW) (k : Int32) : Int32 := if s_isKey k = true then toldO (aHas A k.toNatClampNeg) else -1
def v_blamed (A : AW) (k : Int32) : Int32 := if s_isKey k = true then bitsF (fun t => aBlames A k (8 + t)) 16 0 0 else -1
def v_users (A : AW) (k : Int32) : Int32 := if s_isKey k = true then bitsF (fun t => aTraces A k (8 + t)) 16 0 0 else -1
def v_depth (A : AW) (k : Int32) : Int32 := if s_isKey k = true then nI (aDep A.tr k.toNatClampNeg) else -1
def v_causes (A : AW) (k : Int32) : Int32 := if s_isTarget k = true then (match aFail A k.toNatClampNeg with | none => -5 | some l => nI (l.length - 1)) else -1
def v_root (A : AW) (k : Int32) : Int32 := if s_isTarget k = true then (match aFail A k.toNatClampNeg with | none => -5 | some l => q4_root 0 l) else -1
def v_pick (what : Int32) (o : Option Q4) : Int32 := match o with
  | none => -3
  | some (_, k, s, t) => if what = 0 then k else if what = 1 then s else t
def v_failure (A : AW) (k i what : Int32) : Int32 := if s_isTarget k = true ∧ ¬ what < 0 ∧ ¬ 2 < what then (if i < 0 then -3 else v_pick what (((aFail A k.toNatClampNeg).getD [])[i.toNatClampNeg]?)) else -1
def v_step (A : AW) (k i : Int32) : Int32 := if s_isTarget k = true ∧ ¬ i < -1 then (if (A.ru k.toNatClampNeg).isEmpty = true then -3 else if i = -1 then nI (A.ru k.toNatClampNeg).length else match (A.ru k.toNatClampNeg)[i.toNatClampNeg]? with | some (s, m) => 100 * s + nI m | none => -1) else -1
def v_trace (A : AW) (k i : Int32) : Int32 := if s_isTarget k = true ∧ ¬ i < -1 then (match A.tr k.toNatClampNeg with | none => -3 | some T => if i = -1 then nI T.length else match T[i.toNatClampNeg]? with | some x => nI x.1 | none => -1) else -1
def v_seen (A : AW) (k i : Int32) : Int32 := if s_isTarget k = true ∧ ¬ i < 0 then (match A.tr k.toNatClampNeg with | none => -3 | some T => match T[i.toNatClampNeg]? with | some x => toldL x.2 | none => -1) else -1
theorem clamp_lt (j : Nat) (h : j < 24) : (nI j).toNatClampNeg = j := nI_clamp (by omega)
theorem ge_m1 {i : Int32} (h1 : ¬ i < -1) (h2 : ¬ i = -1) : ¬ i < 0 := by
  intro h
  rw [Int32.lt_iff_toInt_lt] at h h1
  have e : (-1 : Int32).toInt = -1 := by decide
  have e0 : (0 : Int32).toInt = 0 := by decide
  rw [e] at h1
  rw [e0] at h
  exact h2 (Int32.toInt_inj.mp (by rw [e]; omega))
section M32
variable {B : Nat} {D : va_G} {n w : Nat} {f : Nat → Option va_E} {e : Nat} {im : Bool} {A : AW}
theorem c_X6_result (he : f e = some (ecell e im)) (hW : IsW f (e + 1 + 1) A) (k : Int32) : CT B D 5 mX6_result [.ref e, .int k] (n, w, f) (some (.int (v_result A k))) (n, w, f) := by
  by_cases hk : s_isKey k = true
  · obtain ⟨j, hj, rfl⟩ := inK.mp hk
    have hv2 : v_result A (nI j) = toldO (aHas A j) := by unfold v_result; rw [if_pos hk]; rw [clamp_lt j hj]
    rw [hv2]
    refine CT.of [some (.ref e), some (.int (nI j))] rfl (Nat.le_of_ble_eq_true rfl) pl_X6 trivial ?_
    refine px_iload_n dX6_result_0 rfl ?_
    refine px_callS1 (ν := mX6_isKey) lk_X6_130 st_X6_isKey mok_X6_isKey dX6_result_1 (c_X6_isKey _) rfl rfl (by omega) (by simp) ?_
    refine px_ifb_eq (tgt := 18) dX6_result_4 (by decide) (fun hc4 => ?_) (fun hc4 => ?_)
    · rw [hk] at hc4; cases hc4
    · refine px_aload_n dX6_result_7 rfl ?_
      refine px_getfield fl_X6_25 dX6_result_8 (by first | exact he | exact hW.1) (by rfl) ?_
      refine px_iload_n dX6_result_11 rfl ?_
      refine px_callV1 (ν := mX5_toldResult) (ci := 5) rfl rfl lk_X6_133 in_X5_toldResult se_X5_toldResult mok_X5_toldResult dX6_result_12 (c_X5_toldResult hW hj) (by first | exact he | exact hW.1) rfl rfl (by omega) (by simp) ?_
      refine px_goto (tgt := 19) dX6_result_15 (by decide) ?_
      exact px_reti dX6_result_19 (by rfl) (by rfl)
  · have hk' : s_isKey k = false := by simpa using hk
    have hv2 : v_result A k = -1 := by unfold v_result; rw [if_neg hk]
    rw [hv2]
    refine CT.of [some (.ref e), some (.int k)] rfl (Nat.le_of_ble_eq_true rfl) pl_X6 trivial ?_
    refine px_iload_n dX6_result_0 rfl ?_
    refine px_callS1 (ν := mX6_isKey) lk_X6_130 st_X6_isKey mok_X6_isKey dX6_result_1 (c_X6_isKey _) rfl rfl (by omega) (by simp) ?_
    refine px_ifb_eq (tgt := 18) dX6_result_4 (by decide) (fun hc4 => ?_) (fun hc4 => ?_)
    · refine px_iconst (v := (-1)) dX6_result_18 (by decide) ?_
      exact px_reti dX6_result_19 (by rfl) (by rfl)
    · rw [hk'] at hc4; cases hc4
theorem c_X6_blamed (he : f e = some (ecell e im)) (hW : IsW f (e + 1 + 1) A) (k : Int32) : CT B D 5 mX6_blamed [.ref e, .int k] (n, w, f) (some (.int (v_blamed A k))) (n, w, f) := by
  by_cases hk : s_isKey k = true
  · obtain ⟨j, hj, rfl⟩ := inK.mp hk
    have hv2 : v_blamed A (nI j) = bitsF (fun t => aBlames A (nI j) (8 + t)) 16 0 0 := by unfold v_blamed; rw [if_pos hk]
    rw [hv2]
    refine CT.of [some (.ref e), some (.int (nI j))] rfl (Nat.le_of_ble_eq_true rfl) pl_X6 trivial ?_
    refine px_iload_n dX6_blamed_0 rfl ?_
    refine px_callS1 (ν := mX6_isKey) lk_X6_130 st_X6_isKey mok_X6_isKey dX6_blamed_1 (c_X6_isKey _) rfl rfl (by omega) (by simp) ?_
    refine px_ifb_eq (tgt := 18) dX6_blamed_4 (by decide) (fun hc4 => ?_) (fun hc4 => ?_)
    · rw [hk] at hc4; cases hc4
    · refine px_aload_n dX6_blamed_7 rfl ?_
      refine px_getfield fl_X6_25 dX6_blamed_8 (by first | exact he | exact hW.1) (by rfl) ?_
      refine px_iload_n dX6_blamed_11 rfl ?_
      refine px_callV1 (ν := mX5_targetsFailingBy) (ci := 5) rfl rfl lk_X6_158 in_X5_targetsFailingBy se_X5_targetsFailingBy mok_X5_targetsFailingBy dX6_blamed_12 (c_X5_targetsFailingBy hW _) (by first | exact he | exact hW.1) rfl rfl (by omega) (by simp) ?_
      refine px_goto (tgt := 19) dX6_blamed_15 (by decide) ?_
      exact px_reti dX6_blamed_19 (by rfl) (by rfl)
  · have hk' : s_isKey k = false := by simpa using hk
    have hv2 : v_blamed A k = -1 := by unfold v_blamed; rw [if_neg hk]
    rw [hv2]
    refine CT.of [some (.ref e), some (.int k)] rfl (Nat.le_of_ble_eq_true rfl) pl_X6 trivial ?_
    refine px_iload_n dX6_blamed_0 rfl ?_
    refine px_callS1 (ν := mX6_isKey) lk_X6_130 st_X6_isKey mok_X6_isKey dX6_blamed_1 (c_X6_isKey _) rfl rfl (by omega) (by simp) ?_
    refine px_ifb_eq (tgt := 18) dX6_blamed_4 (by decide) (fun hc4 => ?_) (fun hc4 => ?_)
    · refine px_iconst (v := (-1)) dX6_blamed_18 (by decide) ?_
      exact px_reti dX6_blamed_19 (by rfl) (by rfl)
    · rw [hk'] at hc4; cases hc4
theorem c_X6_users (he : f e = some (ecell e im)) (hW : IsW f (e + 1 + 1) A) (k : Int32) : CT B D 5 mX6_users [.ref e, .int k] (n, w, f) (some (.int (v_users A k))) (n, w, f) := by
  by_cases hk : s_isKey k = true
  · obtain ⟨j, hj, rfl⟩ := inK.mp hk
    have hv2 : v_users A (nI j) = bitsF (fun t => aTraces A (nI j) (8 + t)) 16 0 0 := by unfold v_users; rw [if_pos hk]
    rw [hv2]
    refine CT.of [some (.ref e), some (.int (nI j))] rfl (Nat.le_of_ble_eq_true rfl) pl_X6 trivial ?_
    refine px_iload_n dX6_users_0 rfl ?_
    refine px_callS1 (ν := mX6_isKey) lk_X6_130 st_X6_isKey mok_X6_isKey dX6_users_1 (c_X6_isKey _) rfl rfl (by omega) (by simp) ?_
    refine px_ifb_eq (tgt := 18) dX6_users_4 (by decide) (fun hc4 => ?_) (fun hc4 => ?_)
    · rw [hk] at hc4; cases hc4
    · refine px_aload_n dX6_users_7 rfl ?_
      refine px_getfield fl_X6_25 dX6_users_8 (by first | exact he | exact hW.1) (by rfl) ?_
      refine px_iload_n dX6_users_11 rfl ?_
      refine px_callV1 (ν := mX5_targetsTracing) (ci := 5) rfl rfl lk_X6_177 in_X5_targetsTracing se_X5_targetsTracing mok_X5_targetsTracing dX6_users_12 (c_X5_targetsTracing hW _) (by first | exact he | exact hW.1) rfl rfl (by omega) (by simp) ?_
      refine px_goto (tgt := 19) dX6_users_15 (by decide) ?_
      exact px_reti dX6_users_19 (by rfl) (by rfl)
  · have hk' : s_isKey k = false := by simpa using hk
    have hv2 : v_users A k = -1 := by unfold v_users; rw [if_neg hk]
    rw [hv2]
    refine CT.of [some (.ref e), some (.int k)] rfl (Nat.le_of_ble_eq_true rfl) pl_X6 trivial ?_
    refine px_iload_n dX6_users_0 rfl ?_
    refine px_callS1 (ν := mX6_isKey) lk_X6_130 st_X6_isKey mok_X6_isKey dX6_users_1 (c_X6_isKey _) rfl rfl (by omega) (by simp) ?_
    refine px_ifb_eq (tgt := 18) dX6_users_4 (by decide) (fun hc4 => ?_) (fun hc4 => ?_)
    · refine px_iconst (v := (-1)) dX6_users_18 (by decide) ?_
      exact px_reti dX6_users_19 (by rfl) (by rfl)
    · rw [hk'] at hc4; cases hc4
theorem c_X6_depth (he : f e = some (ecell e im)) (hW : IsW f (e + 1 + 1) A) (hok : trOk A.tr) (hno : noRing A.tr) (k : Int32) : ∃ g : Nat → Option va_E, CT B D 5 mX6_depth [.ref e, .int k] (n, w, f) (some (.int (v_depth A k))) (n, w, g) ∧ IsW g (e + 1 + 1) A ∧ keeps f g ∧ (∀ N, Ag f g (e + 1 + 1 + 4) (e + 1 + 1 + 5) N) := by
  by_cases hk : s_isKey k = true
  · obtain ⟨j, hj, rfl⟩ := inK.mp hk
    have hv2 : v_depth A (nI j) = nI (aDep A.tr j) := by unfold v_depth; rw [if_pos hk, clamp_lt j hj]
    obtain ⟨g, hC, hr⟩ := c_X5_depthOf (B := B) (D := D) (n := n) (w := w) hj hok hno hW
    rw [hv2]
    refine ⟨g, ?_, hr⟩
    refine CT.of [some (.ref e), some (.int (nI j))] rfl (Nat.le_of_ble_eq_true rfl) pl_X6 trivial ?_
    refine px_iload_n dX6_depth_0 rfl ?_
    refine px_callS1 (ν := mX6_isKey) lk_X6_130 st_X6_isKey mok_X6_isKey dX6_depth_1 (c_X6_isKey _) rfl rfl (by omega) (by simp) ?_
    refine px_ifb_eq (tgt := 18) dX6_depth_4 (by decide) (fun hc4 => ?_) (fun hc4 => ?_)
    · rw [hk] at hc4; cases hc4
    · refine px_aload_n dX6_depth_7 rfl ?_
      refine px_getfield fl_X6_25 dX6_depth_8 (by first | exact he | exact hW.1) (by rfl) ?_
      refine px_iload_n dX6_depth_11 rfl ?_
      refine px_callV1 (ν := mX5_depthOf) (ci := 5) rfl rfl lk_X6_180 in_X5_depthOf se_X5_depthOf mok_X5_depthOf dX6_depth_12 (hC) (by first | exact he | exact hW.1) rfl rfl (by omega) (by simp) ?_
      refine px_goto (tgt := 19) dX6_depth_15 (by decide) ?_
      exact px_reti dX6_depth_19 (by rfl) (by rfl)
  · have hk' : s_isKey k = false := by simpa using hk
    have hv2 : v_depth A k = -1 := by unfold v_depth; rw [if_neg hk]
    rw [hv2]
    refine ⟨f, ?_, hW, keeps_rf _, fun N => Ag.rf _ _ _ _⟩
    refine CT.of [some (.ref e), some (.int k)] rfl (Nat.le_of_ble_eq_true rfl) pl_X6 trivial ?_
    refine px_iload_n dX6_depth_0 rfl ?_
    refine px_callS1 (ν := mX6_isKey) lk_X6_130 st_X6_isKey mok_X6_isKey dX6_depth_1 (c_X6_isKey _) rfl rfl (by omega) (by simp) ?_
    refine px_ifb_eq (tgt := 18) dX6_depth_4 (by decide) (fun hc4 => ?_) (fun hc4 => ?_)
    · refine px_iconst (v := (-1)) dX6_depth_18 (by decide) ?_
      exact px_reti dX6_depth_19 (by rfl) (by rfl)
    · rw [hk'] at hc4; cases hc4
theorem c_X6_unlike (he : f e = some (ecell e im)) (hW : IsW f (e + 1 + 1) A) : CT B D 6 mX6_unlike [.ref e] (n, w, f) (some (.int (cntF (fun k => (aHas A k).isSome && !aSameBelow A k) 16 8 0))) (n, w, f) := by
  refine CT.of [some (.ref e)] rfl (Nat.le_of_ble_eq_true rfl) pl_X6 trivial ?_
  refine px_aload_n dX6_unlike_0 rfl ?_
  refine px_getfield fl_X6_25 dX6_unlike_1 (by first | exact he | exact hW.1) (by rfl) ?_
  refine px_callV1 (ν := mX5_unlikeResults) (ci := 5) rfl rfl lk_X6_186 in_X5_unlikeResults se_X5_unlikeResults mok_X5_unlikeResults dX6_unlike_4 (c_X5_unlikeResults hW) (by first | exact he | exact hW.1) rfl rfl (by omega) (by simp) ?_
  exact px_reti dX6_unlike_7 (by rfl) (by rfl)

theorem c_X6_fresh (he : f e = some (ecell e im)) (hW : IsW f (e + 1 + 1) A) : CT B D 6 mX6_fresh [.ref e] (n, w, f) (some (.int (bitsF (fun t => aFresh A (8 + t)) 16 0 0))) (n, w, f) := by
  refine CT.of [some (.ref e)] rfl (Nat.le_of_ble_eq_true rfl) pl_X6 trivial ?_
  refine px_aload_n dX6_fresh_0 rfl ?_
  refine px_getfield fl_X6_25 dX6_fresh_1 (by first | exact he | exact hW.1) (by rfl) ?_
  refine px_callV1 (ν := mX5_targetsUpToDate) (ci := 5) rfl rfl lk_X6_189 in_X5_targetsUpToDate se_X5_targetsUpToDate mok_X5_targetsUpToDate dX6_fresh_4 (c_X5_targetsUpToDate hW) (by first | exact he | exact hW.1) rfl rfl (by omega) (by simp) ?_
  exact px_reti dX6_fresh_7 (by rfl) (by rfl)

theorem c_X6_causes (he : f e = some (ecell e im)) (hW : IsW f (e + 1 + 1) A) (k : Int32) : CT B D 5 mX6_causes [.ref e, .int k] (n, w, f) (some (.int (v_causes A k))) (n, w, f) := by
  by_cases hk : s_isTarget k = true
  · obtain ⟨t, ht, rfl⟩ := inT.mp hk
    obtain ⟨q, hq, hc⟩ := c_X5_failureOf (B := B) (D := D) (n := n) (w := w) hW (k := 8 + t) (by omega)
    cases hr : aFail A (8 + t) with
    | none =>
      rw [hr] at hc
      cases hc
      have hv2 : v_causes A (nI (8 + t)) = -5 := by unfold v_causes; rw [if_pos hk, clamp_lt _ (by omega), hr]
      rw [hv2]
      refine CT.of [some (.ref e), some (.int (nI (8 + t))), none] rfl (Nat.le_of_ble_eq_true rfl) pl_X6 trivial ?_
      refine px_iload_n dX6_causes_0 rfl ?_
      refine px_callS1 (ν := mX6_isTarget) lk_X6_112 st_X6_isTarget mok_X6_isTarget dX6_causes_1 (c_X6_isTarget _) rfl rfl (by omega) (by simp) ?_
      refine px_ifb_ne (tgt := 9) dX6_causes_4 (by decide) (fun hc4 => ?_) (fun hc4 => ?_)
      · refine px_aload_n dX6_causes_9 rfl ?_
        refine px_getfield fl_X6_25 dX6_causes_10 (by first | exact he | exact hW.1) (by rfl) ?_
        refine px_iload_n dX6_causes_13 rfl ?_
        refine px_callV1 (ν := mX5_failureOf) (ci := 5) rfl rfl lk_X6_136 in_X5_failureOf se_X5_failureOf mok_X5_failureOf dX6_causes_14 (hq) (by first | exact he | exact hW.1) rfl rfl (by omega) (by simp) ?_
        refine px_astoreN2 rfl dX6_causes_17 ?_
        refine px_aload_nN dX6_causes_18 rfl ?_
        refine px_ifnonnull_f dX6_causes_19 ?_
        refine px_bipush (v := (-5)) dX6_causes_22 (by decide) ?_
        refine px_goto (tgt := 31) dX6_causes_24 (by decide) ?_
        exact px_reti dX6_causes_31 (by rfl) (by rfl)
      · rw [hk] at hc4; cases hc4
    | some l0 =>
      rw [hr] at hc
      obtain ⟨p, rfl, hch⟩ := hc
      cases l0 with
      | nil => cases hch
      | cons x l =>
        obtain ⟨c, k, s, u⟩ := x
        obtain ⟨p0, q0, hp0, hcell, htl⟩ := hch
        cases hp0
        have hv2 : v_causes A (nI (8 + t)) = nI l.length := by unfold v_causes; rw [if_pos hk, clamp_lt _ (by omega), hr]; rfl
        rw [hv2]
        refine CT.of [some (.ref e), some (.int (nI (8 + t))), none] rfl (Nat.le_of_ble_eq_true rfl) pl_X6 trivial ?_
        refine px_iload_n dX6_causes_0 rfl ?_
        refine px_callS1 (ν := mX6_isTarget) lk_X6_112 st_X6_isTarget mok_X6_isTarget dX6_causes_1 (c_X6_isTarget _) rfl rfl (by omega) (by simp) ?_
        refine px_ifb_ne (tgt := 9) dX6_causes_4 (by decide) (fun hc4 => ?_) (fun hc4 => ?_)
        · refine px_aload_n dX6_causes_9 rfl ?_
          refine px_getfield fl_X6_25 dX6_causes_10 (by first | exact he | exact hW.1 | exact hcell) (by rfl) ?_
          refine px_iload_n dX6_causes_13 rfl ?_
          refine px_callV1 (ν := mX5_failureOf) (ci := 5) rfl rfl lk_X6_136 in_X5_failureOf se_X5_failureOf mok_X5_failureOf dX6_causes_14 (hq) (by first | exact he | exact hW.1 | exact hcell) rfl rfl (by omega) (by simp) ?_
          refine px_astore2 rfl dX6_causes_17 ?_
          refine px_aload_n dX6_causes_18 rfl ?_
          refine px_ifnonnull_t (tgt := 27) dX6_causes_19 (by decide) ?_
          refine px_aload_n dX6_causes_27 rfl ?_
          refine px_callV1 (ν := mX1_causeCount) (ci := 1) rfl rfl lk_X6_152 in_X1_causeCount se_X1_causeCount mok_X1_causeCount dX6_causes_28 (c_X1_causeCount hcell htl) (by first | exact he | exact hW.1 | exact hcell) rfl rfl (by omega) (by simp) ?_
          exact px_reti dX6_causes_31 (by rfl) (by rfl)
        · rw [hk] at hc4; cases hc4
  · have hk' : s_isTarget k = false := by simpa using hk
    have hv2 : v_causes A k = -1 := by unfold v_causes; rw [if_neg hk]
    rw [hv2]
    refine CT.of [some (.ref e), some (.int k), none] rfl (Nat.le_of_ble_eq_true rfl) pl_X6 trivial ?_
    refine px_iload_n dX6_causes_0 rfl ?_
    refine px_callS1 (ν := mX6_isTarget) lk_X6_112 st_X6_isTarget mok_X6_isTarget dX6_causes_1 (c_X6_isTarget _) rfl rfl (by omega) (by simp) ?_
    refine px_ifb_ne (tgt := 9) dX6_causes_4 (by decide) (fun hc4 => ?_) (fun hc4 => ?_)
    · rw [hk'] at hc4; cases hc4
    · refine px_iconst (v := (-1)) dX6_causes_7 (by decide) ?_
      exact px_reti dX6_causes_8 (by rfl) (by rfl)
theorem c_X6_root (he : f e = some (ecell e im)) (hW : IsW f (e + 1 + 1) A) (k : Int32) : CT B D 5 mX6_root [.ref e, .int k] (n, w, f) (some (.int (v_root A k))) (n, w, f) := by
  by_cases hk : s_isTarget k = true
  · obtain ⟨t, ht, rfl⟩ := inT.mp hk
    obtain ⟨q, hq, hc⟩ := c_X5_failureOf (B := B) (D := D) (n := n) (w := w) hW (k := 8 + t) (by omega)
    cases hr : aFail A (8 + t) with
    | none =>
      rw [hr] at hc
      cases hc
      have hv2 : v_root A (nI (8 + t)) = -5 := by unfold v_root; rw [if_pos hk, clamp_lt _ (by omega), hr]
      rw [hv2]
      refine CT.of [some (.ref e), some (.int (nI (8 + t))), none] rfl (Nat.le_of_ble_eq_true rfl) pl_X6 trivial ?_
      refine px_iload_n dX6_root_0 rfl ?_
      refine px_callS1 (ν := mX6_isTarget) lk_X6_112 st_X6_isTarget mok_X6_isTarget dX6_root_1 (c_X6_isTarget _) rfl rfl (by omega) (by simp) ?_
      refine px_ifb_ne (tgt := 9) dX6_root_4 (by decide) (fun hc4 => ?_) (fun hc4 => ?_)
      · refine px_aload_n dX6_root_9 rfl ?_
        refine px_getfield fl_X6_25 dX6_root_10 (by first | exact he | exact hW.1) (by rfl) ?_
        refine px_iload_n dX6_root_13 rfl ?_
        refine px_callV1 (ν := mX5_failureOf) (ci := 5) rfl rfl lk_X6_136 in_X5_failureOf se_X5_failureOf mok_X5_failureOf dX6_root_14 (hq) (by first | exact he | exact hW.1) rfl rfl (by omega) (by simp) ?_
        refine px_astoreN2 rfl dX6_root_17 ?_
        refine px_aload_nN dX6_root_18 rfl ?_
        refine px_ifnonnull_f dX6_root_19 ?_
        refine px_bipush (v := (-5)) dX6_root_22 (by decide) ?_
        refine px_goto (tgt := 31) dX6_root_24 (by decide) ?_
        exact px_reti dX6_root_31 (by rfl) (by rfl)
      · rw [hk] at hc4; cases hc4
    | some l0 =>
      rw [hr] at hc
      obtain ⟨p, rfl, hch⟩ := hc
      cases l0 with
      | nil => cases hch
      | cons x l =>
        obtain ⟨c, k, s, u⟩ := x
        obtain ⟨p0, q0, hp0, hcell, htl⟩ := hch
        cases hp0
        have hv2 : v_root A (nI (8 + t)) = q4_root k l := by unfold v_root; rw [if_pos hk, clamp_lt _ (by omega), hr]; rfl
        rw [hv2]
        refine CT.of [some (.ref e), some (.int (nI (8 + t))), none] rfl (Nat.le_of_ble_eq_true rfl) pl_X6 trivial ?_
        refine px_iload_n dX6_root_0 rfl ?_
        refine px_callS1 (ν := mX6_isTarget) lk_X6_112 st_X6_isTarget mok_X6_isTarget dX6_root_1 (c_X6_isTarget _) rfl rfl (by omega) (by simp) ?_
        refine px_ifb_ne (tgt := 9) dX6_root_4 (by decide) (fun hc4 => ?_) (fun hc4 => ?_)
        · refine px_aload_n dX6_root_9 rfl ?_
          refine px_getfield fl_X6_25 dX6_root_10 (by first | exact he | exact hW.1 | exact hcell) (by rfl) ?_
          refine px_iload_n dX6_root_13 rfl ?_
          refine px_callV1 (ν := mX5_failureOf) (ci := 5) rfl rfl lk_X6_136 in_X5_failureOf se_X5_failureOf mok_X5_failureOf dX6_root_14 (hq) (by first | exact he | exact hW.1 | exact hcell) rfl rfl (by omega) (by simp) ?_
          refine px_astore2 rfl dX6_root_17 ?_
          refine px_aload_n dX6_root_18 rfl ?_
          refine px_ifnonnull_t (tgt := 27) dX6_root_19 (by decide) ?_
          refine px_aload_n dX6_root_27 rfl ?_
          refine px_callV1 (ν := mX1_rootKey) (ci := 1) rfl rfl lk_X6_155 in_X1_rootKey se_X1_rootKey mok_X1_rootKey dX6_root_28 (c_X1_rootKey hcell htl) (by first | exact he | exact hW.1 | exact hcell) rfl rfl (by omega) (by simp) ?_
          exact px_reti dX6_root_31 (by rfl) (by rfl)
        · rw [hk] at hc4; cases hc4
  · have hk' : s_isTarget k = false := by simpa using hk
    have hv2 : v_root A k = -1 := by unfold v_root; rw [if_neg hk]
    rw [hv2]
    refine CT.of [some (.ref e), some (.int k), none] rfl (Nat.le_of_ble_eq_true rfl) pl_X6 trivial ?_
    refine px_iload_n dX6_root_0 rfl ?_
    refine px_callS1 (ν := mX6_isTarget) lk_X6_112 st_X6_isTarget mok_X6_isTarget dX6_root_1 (c_X6_isTarget _) rfl rfl (by omega) (by simp) ?_
    refine px_ifb_ne (tgt := 9) dX6_root_4 (by decide) (fun hc4 => ?_) (fun hc4 => ?_)
    · rw [hk'] at hc4; cases hc4
    · refine px_iconst (v := (-1)) dX6_root_7 (by decide) ?_
      exact px_reti dX6_root_8 (by rfl) (by rfl)
theorem l_X6_failure_63 {d : Nat} {k i what : Int32} {L : List Q4} {q : Option Nat} {z : Option Value} (hL : ch f L q) : EX B D d mX6_failure 63 [some (.ref e), some (.int k), some (.int i), some (.int what), some (va_rf q), z] [] (n, w, f) (some (.int (v_pick what L.head?))) (n, w, f) := by
  cases L with
  | nil =>
    cases hL
    refine px_aloadN dX6_failure_63 rfl ?_
    refine px_ifnonnull_f dX6_failure_65 ?_
    refine px_bipush (v := (-3)) dX6_failure_68 (by decide) ?_
    exact px_reti dX6_failure_70 (by rfl) (by rfl)
  | cons x l =>
    obtain ⟨c, kk, s, u⟩ := x
    obtain ⟨p, q0, hp0, hcell, htl⟩ := hL
    subst hp0
    refine px_aload dX6_failure_63 rfl ?_
    refine px_ifnonnull_t (tgt := 71) dX6_failure_65 (by decide) ?_
    refine px_iload_n dX6_failure_71 rfl ?_
    refine px_if_ne (tgt := 81) dX6_failure_72 (by decide) (fun hc72 => ?_) (fun hc72 => ?_)
    · refine px_iload_n dX6_failure_81 rfl ?_
      refine px_iconst (v := 1) dX6_failure_82 (by decide) ?_
      refine px_icmp_ne (tgt := 94) dX6_failure_83 (by decide) (fun hc83 => ?_) (fun hc83 => ?_)
      · refine px_aload dX6_failure_94 rfl ?_
        refine px_getfield fl_X6_149 dX6_failure_96 (by exact hcell) (by rfl) ?_
        exact px_reti dX6_failure_99 (by show some (Value.int (if what = 0 then kk else if what = 1 then s else u)) = _; simp [hc72, hc83]) (by rfl)
      · refine px_aload dX6_failure_86 rfl ?_
        refine px_getfield fl_X6_146 dX6_failure_88 (by exact hcell) (by rfl) ?_
        refine px_goto (tgt := 99) dX6_failure_91 (by decide) ?_
        exact px_reti dX6_failure_99 (by show some (Value.int (if what = 0 then kk else if what = 1 then s else u)) = _; simp [hc72, hc83]) (by rfl)
    · refine px_aload dX6_failure_75 rfl ?_
      refine px_getfield fl_X6_143 dX6_failure_77 (by exact hcell) (by rfl) ?_
      exact px_reti dX6_failure_80 (by show some (Value.int (if what = 0 then kk else if what = 1 then s else u)) = some (Value.int kk); rw [if_pos hc72]) (by rfl)
theorem l_X6_failure_39 {d : Nat} {k what : Int32} {m : Nat} (hm : m < 2 ^ 31) : ∀ (L : List Q4) (q : Option Nat) (j : Nat), ch f L q → j ≤ m → EX B D d mX6_failure 39 [some (.ref e), some (.int k), some (.int (nI m)), some (.int what), some (va_rf q), some (.int (nI j))] [] (n, w, f) (some (.int (v_pick what (L[m - j]?)))) (n, w, f) := by
  intro L
  induction L with
  | nil =>
    intro q j hL hj
    have hX := l_X6_failure_63 (B := B) (D := D) (n := n) (w := w) (d := d) (e := e) (k := k) (i := nI m) (what := what) (z := some (.int (nI j))) hL
    cases hL
    refine px_aloadN dX6_failure_39 rfl ?_
    refine px_ifnull_t (tgt := 63) dX6_failure_41 (by decide) ?_
    exact hX
  | cons x l ih =>
    intro q j hL hj
    have hX := l_X6_failure_63 (B := B) (D := D) (n := n) (w := w) (d := d) (e := e) (k := k) (i := nI m) (what := what) (z := some (.int (nI j))) hL
    obtain ⟨c, kk, s, u⟩ := x
    obtain ⟨p, q0, hp0, hcell, htl⟩ := hL
    subst hp0
    by_cases hjm : j < m
    · have hX2 := ih q0 (j + 1) htl (by omega)
      have eL : ((c, kk, s, u) :: l)[m - j]? = l[m - (j + 1)]? := by
        obtain ⟨y, hy⟩ : ∃ y, m - j = y + 1 := ⟨m - j - 1, by omega⟩
        rw [hy, show m - (j + 1) = y by omega]
        rfl
      rw [eL]
      refine px_aload dX6_failure_39 rfl ?_
      refine px_ifnull_f dX6_failure_41 ?_
      refine px_iload dX6_failure_44 rfl ?_
      refine px_iload_n dX6_failure_46 rfl ?_
      refine px_icmp_ge (tgt := 63) dX6_failure_47 (by decide) (fun hc47 => ?_) (fun hc47 => ?_)
      · exact absurd hc47 (nI_ge hjm hm)
      · refine px_aload dX6_failure_50 rfl ?_
        refine px_getfield fl_X6_139 dX6_failure_52 (by exact hcell) (by rfl) ?_
        refine px_astoreQ4 rfl dX6_failure_55 ?_
        refine px_iinc5 (nl_rf _) (nI_inc j) dX6_failure_57 ?_
        refine px_goto (tgt := 39) dX6_failure_60 (by decide) ?_
        exact hX2
    · have ejm : m - j = 0 := by omega
      rw [ejm]
      refine px_aload dX6_failure_39 rfl ?_
      refine px_ifnull_f dX6_failure_41 ?_
      refine px_iload dX6_failure_44 rfl ?_
      refine px_iload_n dX6_failure_46 rfl ?_
      refine px_icmp_ge (tgt := 63) dX6_failure_47 (by decide) (fun hc47 => ?_) (fun hc47 => ?_)
      · exact hX
      · exact absurd (nI_le (by omega) (by omega)) hc47
theorem c_X6_failure (he : f e = some (ecell e im)) (hW : IsW f (e + 1 + 1) A) (k i what : Int32) : CT B D 5 mX6_failure [.ref e, .int k, .int i, .int what] (n, w, f) (some (.int (v_failure A k i what))) (n, w, f) := by
  by_cases hk : s_isTarget k = true ∧ ¬ what < 0 ∧ ¬ 2 < what
  · obtain ⟨hk1, hk2, hk3⟩ := id hk
    have hk4 : what ≤ 2 := by rw [Int32.le_iff_toInt_le]; rw [Int32.lt_iff_toInt_lt] at hk3; omega
    obtain ⟨t, ht, rfl⟩ := inT.mp hk1
    by_cases hi : i < 0
    · have hv2 : v_failure A (nI (8 + t)) i what = -3 := by unfold v_failure; rw [if_pos hk, if_pos hi]
      rw [hv2]
      refine CT.of [some (.ref e), some (.int (nI (8 + t))), some (.int i), some (.int what), none, none] rfl (Nat.le_of_ble_eq_true rfl) pl_X6 trivial ?_
      refine px_iload_n dX6_failure_0 rfl ?_
      refine px_callS1 (ν := mX6_isTarget) lk_X6_112 st_X6_isTarget mok_X6_isTarget dX6_failure_1 (c_X6_isTarget _) rfl rfl (by omega) (by simp) ?_
      refine px_ifb_eq (tgt := 16) dX6_failure_4 (by decide) (fun hc4 => ?_) (fun hc4 => ?_)
      · rw [hk1] at hc4; cases hc4
      · refine px_iload_n dX6_failure_7 rfl ?_
        refine px_if_lt (tgt := 16) dX6_failure_8 (by decide) (fun hc8 => ?_) (fun hc8 => ?_)
        · exact absurd hc8 hk2
        · refine px_iload_n dX6_failure_11 rfl ?_
          refine px_iconst (v := 2) dX6_failure_12 (by decide) ?_
          refine px_icmp_le (tgt := 18) dX6_failure_13 (by decide) (fun hc13 => ?_) (fun hc13 => ?_)
          · refine px_iload_n dX6_failure_18 rfl ?_
            refine px_if_ge (tgt := 26) dX6_failure_19 (by decide) (fun hc19 => ?_) (fun hc19 => ?_)
            · exact absurd hi (by rw [Int32.lt_iff_toInt_lt]; rw [Int32.le_iff_toInt_le] at hc19; omega)
            · refine px_null dX6_failure_22 ?_
              refine px_goto (tgt := 34) dX6_failure_23 (by decide) ?_
              refine px_astoreN4 rfl dX6_failure_34 ?_
              refine px_iconst (v := 0) dX6_failure_36 (by decide) ?_
              refine px_istore5 rfl dX6_failure_37 ?_
              refine px_aloadN dX6_failure_39 rfl ?_
              refine px_ifnull_t (tgt := 63) dX6_failure_41 (by decide) ?_
              refine px_aloadN dX6_failure_63 rfl ?_
              refine px_ifnonnull_f dX6_failure_65 ?_
              refine px_bipush (v := (-3)) dX6_failure_68 (by decide) ?_
              exact px_reti dX6_failure_70 (by rfl) (by rfl)
          · exact absurd hk4 hc13
    · obtain ⟨mm, hmm, rfl⟩ := nI_of hi
      have hge : (0 : Int32) ≤ nI mm := by rw [Int32.le_iff_toInt_le]; rw [Int32.lt_iff_toInt_lt] at hi; omega
      obtain ⟨q, hq, hc⟩ := c_X5_failureOf (B := B) (D := D) (n := n) (w := w) hW (k := 8 + t) (by omega)
      have hch : ch f ((aFail A (8 + t)).getD []) q := by
        cases hr : aFail A (8 + t) with
        | none => rw [hr] at hc; cases hc; rfl
        | some l => rw [hr] at hc; obtain ⟨p, rfl, h⟩ := hc; exact h
      have hX := l_X6_failure_39 (B := B) (D := D) (n := n) (w := w) (d := 5) (e := e) (k := nI (8 + t)) (what := what) hmm _ q 0 hch (Nat.zero_le _)
      have hv2 : v_failure A (nI (8 + t)) (nI mm) what = v_pick what (((aFail A (8 + t)).getD [])[mm - 0]?) := by unfold v_failure; rw [if_pos hk, if_neg hi, clamp_lt _ (by omega), nI_clamp hmm]; rfl
      rw [hv2]
      refine CT.of [some (.ref e), some (.int (nI (8 + t))), some (.int (nI mm)), some (.int what), none, none] rfl (Nat.le_of_ble_eq_true rfl) pl_X6 trivial ?_
      refine px_iload_n dX6_failure_0 rfl ?_
      refine px_callS1 (ν := mX6_isTarget) lk_X6_112 st_X6_isTarget mok_X6_isTarget dX6_failure_1 (c_X6_isTarget _) rfl rfl (by omega) (by simp) ?_
      refine px_ifb_eq (tgt := 16) dX6_failure_4 (by decide) (fun hc4 => ?_) (fun hc4 => ?_)
      · rw [hk1] at hc4; cases hc4
      · refine px_iload_n dX6_failure_7 rfl ?_
        refine px_if_lt (tgt := 16) dX6_failure_8 (by decide) (fun hc8 => ?_) (fun hc8 => ?_)
        · exact absurd hc8 hk2
        · refine px_iload_n dX6_failure_11 rfl ?_
          refine px_iconst (v := 2) dX6_failure_12 (by decide) ?_
          refine px_icmp_le (tgt := 18) dX6_failure_13 (by decide) (fun hc13 => ?_) (fun hc13 => ?_)
          · refine px_iload_n dX6_failure_18 rfl ?_
            refine px_if_ge (tgt := 26) dX6_failure_19 (by decide) (fun hc19 => ?_) (fun hc19 => ?_)
            · refine px_aload_n dX6_failure_26 rfl ?_
              refine px_getfield fl_X6_25 dX6_failure_27 (by first | exact he | exact hW.1) (by rfl) ?_
              refine px_iload_n dX6_failure_30 rfl ?_
              refine px_callV1 (ν := mX5_failureOf) (ci := 5) rfl rfl lk_X6_136 in_X5_failureOf se_X5_failureOf mok_X5_failureOf dX6_failure_31 (hq) (by first | exact he | exact hW.1) rfl rfl (by omega) (by simp) ?_
              refine px_astoreQ4 rfl dX6_failure_34 ?_
              refine px_iconst (v := 0) dX6_failure_36 (by decide) ?_
              refine px_istore5 (nl_rf _) dX6_failure_37 ?_
              exact hX
            · exact absurd hge hc19
          · exact absurd hk4 hc13
  · have hv2 : v_failure A k i what = -1 := by unfold v_failure; rw [if_neg hk]
    rw [hv2]
    refine CT.of [some (.ref e), some (.int k), some (.int i), some (.int what), none, none] rfl (Nat.le_of_ble_eq_true rfl) pl_X6 trivial ?_
    refine px_iload_n dX6_failure_0 rfl ?_
    refine px_callS1 (ν := mX6_isTarget) lk_X6_112 st_X6_isTarget mok_X6_isTarget dX6_failure_1 (c_X6_isTarget _) rfl rfl (by omega) (by simp) ?_
    refine px_ifb_eq (tgt := 16) dX6_failure_4 (by decide) (fun hc4 => ?_) (fun hc4 => ?_)
    · refine px_iconst (v := (-1)) dX6_failure_16 (by decide) ?_
      exact px_reti dX6_failure_17 (by rfl) (by rfl)
    · refine px_iload_n dX6_failure_7 rfl ?_
      refine px_if_lt (tgt := 16) dX6_failure_8 (by decide) (fun hc8 => ?_) (fun hc8 => ?_)
      · refine px_iconst (v := (-1)) dX6_failure_16 (by decide) ?_
        exact px_reti dX6_failure_17 (by rfl) (by rfl)
      · refine px_iload_n dX6_failure_11 rfl ?_
        refine px_iconst (v := 2) dX6_failure_12 (by decide) ?_
        refine px_icmp_le (tgt := 18) dX6_failure_13 (by decide) (fun hc13 => ?_) (fun hc13 => ?_)
        · exact absurd ⟨hc4, (by rw [Int32.lt_iff_toInt_lt]; rw [Int32.lt_iff_toInt_lt] at hc8; exact hc8), (by rw [Int32.lt_iff_toInt_lt]; rw [Int32.le_iff_toInt_le] at hc13; omega)⟩ hk
        · refine px_iconst (v := (-1)) dX6_failure_16 (by decide) ?_
          exact px_reti dX6_failure_17 (by rfl) (by rfl)
end M32
