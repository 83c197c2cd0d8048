/-! small functions -/
theorem nar_rf (C : String) (q : Option Nat) : narrow (.object C) (va_rf q) = va_rf q := by cases q <;> rfl
theorem fit_rf (C : String) (q : Option Nat) : fits (.object C) (va_rf q) = true := by cases q <;> rfl
def s_isInput (k : Int32) : Bool := !decide (k < 0) && !decide (8 ≤ k)
def s_isTarget (k : Int32) : Bool := !decide (k < 8) && !decide (24 ≤ k)
def s_isKey (k : Int32) : Bool := !decide (k < 0) && !decide (24 ≤ k)
def s_isContent (v : Int64) : Bool := !decide (v < (-1000000)) && !decide (1000000 < v)
def s_isStops (k : Int32) : Bool := decide (k = 0) || decide (k = 1)
def s_asks (k : Int32) : Bool := decide (k = 43) || decide (k = 45) || decide (k = 42) || decide (k = 47) || decide (k = 38)
def s_isSign (k : Int32) : Bool := s_asks k || decide (k = 61) || decide (k = 37) || decide (k = 33) || decide (k = 63) || decide (k = 94)
def s_isFigure (k : Int32) : Bool := !decide (k < 48) && !decide (57 < k)
def s_isInL (v lo hi : Int64) : Bool := !decide (v < lo) && !decide (hi < v)
def s_bitOf (k : Int32) : Int32 := if s_isTarget k then (1 : Int32) <<< ((k - 8) &&& 31) else 0
def s_isIn (set k : Int32) : Bool := !decide (set &&& s_bitOf k = 0)
def s_worked (sg : Int32) (v b : Int64) : Int64 := if sg = 43 then v + b else if sg = 45 then v - b else if sg = 42 then v * b else if sg = 47 then (if b = 0 then v else v / b) else if sg = 37 then (if b = 0 then v else v - v / b * b) else if sg = 38 then b else if sg = 61 then b else v
def s_fsort (sg : Int32) (v b x : Int64) : Int32 := if (sg = 47 ∨ sg = 37) ∧ b = 0 then 2 else if sg = 33 ∧ b < v then 4 else if s_isContent x then 0 else 3
def s_pass (sg : Int32) (v : Int64) (k : Int32) : Int32 := if (sg = 63 ∧ v = 0) ∨ (sg = 94 ∧ v < 0) then k else 0
theorem sw_cases (x : Int32) (lo : Int) (m : Nat) : x.toInt < lo ∨ lo + m ≤ x.toInt ∨ ∃ j : Nat, j < m ∧ x.toInt = lo + j := by
  by_cases h : x.toInt < lo
  · exact Or.inl h
  · by_cases h2 : lo + m ≤ x.toInt
    · exact Or.inr (Or.inl h2)
    · exact Or.inr (Or.inr ⟨(x.toInt - lo).toNat, by omega, by omega⟩)
section M10
variable {B : Nat} {D : va_G} {n w : Nat} {f : Nat → Option va_E}
theorem c_X6_isInput (k : Int32) : CT B D 0 mX6_isInput [.int k] (n, w, f) (some (.int (bi (s_isInput k)))) (n, w, f) := by
  refine CT.of [some (.int k)] rfl (Nat.le_of_ble_eq_true rfl) pl_X6 (bi_01 _) ?_
  refine px_iload_n dX6_isInput_0 rfl ?_
  refine px_if_lt (tgt := 14) dX6_isInput_1 (by decide) (fun hc1 => ?_) (fun hc1 => ?_)
  · refine px_iconst (v := 0) dX6_isInput_14 (by decide) ?_
    exact px_reti dX6_isInput_15 (by first | (simp [s_isInput, bi, *]; done) | (simp_all [s_isInput, bi]; done)) (by rfl)
  · refine px_iload_n dX6_isInput_4 rfl ?_
    refine px_bipush (v := 8) dX6_isInput_5 (by decide) ?_
    refine px_icmp_ge (tgt := 14) dX6_isInput_7 (by decide) (fun hc7 => ?_) (fun hc7 => ?_)
    · refine px_iconst (v := 0) dX6_isInput_14 (by decide) ?_
      exact px_reti dX6_isInput_15 (by first | (simp [s_isInput, bi, *]; done) | (simp_all [s_isInput, bi]; done)) (by rfl)
    · refine px_iconst (v := 1) dX6_isInput_10 (by decide) ?_
      refine px_goto (tgt := 15) dX6_isInput_11 (by decide) ?_
      exact px_reti dX6_isInput_15 (by first | (simp [s_isInput, bi, *]; done) | (simp_all [s_isInput, bi]; done)) (by rfl)

theorem c_X6_isTarget (k : Int32) : CT B D 0 mX6_isTarget [.int k] (n, w, f) (some (.int (bi (s_isTarget k)))) (n, w, f) := by
  refine CT.of [some (.int k)] rfl (Nat.le_of_ble_eq_true rfl) pl_X6 (bi_01 _) ?_
  refine px_iload_n dX6_isTarget_0 rfl ?_
  refine px_bipush (v := 8) dX6_isTarget_1 (by decide) ?_
  refine px_icmp_lt (tgt := 16) dX6_isTarget_3 (by decide) (fun hc3 => ?_) (fun hc3 => ?_)
  · refine px_iconst (v := 0) dX6_isTarget_16 (by decide) ?_
    exact px_reti dX6_isTarget_17 (by first | (simp [s_isTarget, bi, *]; done) | (simp_all [s_isTarget, bi]; done)) (by rfl)
  · refine px_iload_n dX6_isTarget_6 rfl ?_
    refine px_bipush (v := 24) dX6_isTarget_7 (by decide) ?_
    refine px_icmp_ge (tgt := 16) dX6_isTarget_9 (by decide) (fun hc9 => ?_) (fun hc9 => ?_)
    · refine px_iconst (v := 0) dX6_isTarget_16 (by decide) ?_
      exact px_reti dX6_isTarget_17 (by first | (simp [s_isTarget, bi, *]; done) | (simp_all [s_isTarget, bi]; done)) (by rfl)
    · refine px_iconst (v := 1) dX6_isTarget_12 (by decide) ?_
      refine px_goto (tgt := 17) dX6_isTarget_13 (by decide) ?_
      exact px_reti dX6_isTarget_17 (by first | (simp [s_isTarget, bi, *]; done) | (simp_all [s_isTarget, bi]; done)) (by rfl)

theorem c_X6_isKey (k : Int32) : CT B D 0 mX6_isKey [.int k] (n, w, f) (some (.int (bi (s_isKey k)))) (n, w, f) := by
  refine CT.of [some (.int k)] rfl (Nat.le_of_ble_eq_true rfl) pl_X6 (bi_01 _) ?_
  refine px_iload_n dX6_isKey_0 rfl ?_
  refine px_if_lt (tgt := 14) dX6_isKey_1 (by decide) (fun hc1 => ?_) (fun hc1 => ?_)
  · refine px_iconst (v := 0) dX6_isKey_14 (by decide) ?_
    exact px_reti dX6_isKey_15 (by first | (simp [s_isKey, bi, *]; done) | (simp_all [s_isKey, bi]; done)) (by rfl)
  · refine px_iload_n dX6_isKey_4 rfl ?_
    refine px_bipush (v := 24) dX6_isKey_5 (by decide) ?_
    refine px_icmp_ge (tgt := 14) dX6_isKey_7 (by decide) (fun hc7 => ?_) (fun hc7 => ?_)
    · refine px_iconst (v := 0) dX6_isKey_14 (by decide) ?_
      exact px_reti dX6_isKey_15 (by first | (simp [s_isKey, bi, *]; done) | (simp_all [s_isKey, bi]; done)) (by rfl)
    · refine px_iconst (v := 1) dX6_isKey_10 (by decide) ?_
      refine px_goto (tgt := 15) dX6_isKey_11 (by decide) ?_
      exact px_reti dX6_isKey_15 (by first | (simp [s_isKey, bi, *]; done) | (simp_all [s_isKey, bi]; done)) (by rfl)

theorem c_X6_isContent (v : Int64) : CT B D 0 mX6_isContent [.long v] (n, w, f) (some (.int (bi (s_isContent v)))) (n, w, f) := by
  refine CT.of [some (.long v), none] rfl (Nat.le_of_ble_eq_true rfl) pl_X6 (bi_01 _) ?_
  refine px_lload_n dX6_isContent_0 rfl ?_
  refine px_ldc2 dX6_isContent_1 kc_X6_271 ?_
  refine px_l_lt (tgt := 20) dX6_isContent_4 dX6_isContent_5 (by decide) (fun hc5 => ?_) (fun hc5 => ?_)
  · refine px_iconst (v := 0) dX6_isContent_20 (by decide) ?_
    exact px_reti dX6_isContent_21 (by first | (simp [s_isContent, bi, *]; done) | (simp_all [s_isContent, bi]; done)) (by rfl)
  · refine px_lload_n dX6_isContent_8 rfl ?_
    refine px_ldc2 dX6_isContent_9 kc_X6_273 ?_
    refine px_l_gt (tgt := 20) dX6_isContent_12 dX6_isContent_13 (by decide) (fun hc13 => ?_) (fun hc13 => ?_)
    · refine px_iconst (v := 0) dX6_isContent_20 (by decide) ?_
      exact px_reti dX6_isContent_21 (by first | (simp [s_isContent, bi, *]; done) | (simp_all [s_isContent, bi]; done)) (by rfl)
    · refine px_iconst (v := 1) dX6_isContent_16 (by decide) ?_
      refine px_goto (tgt := 21) dX6_isContent_17 (by decide) ?_
      exact px_reti dX6_isContent_21 (by first | (simp [s_isContent, bi, *]; done) | (simp_all [s_isContent, bi]; done)) (by rfl)

theorem c_X6_isStops (k : Int32) : CT B D 0 mX6_isStops [.int k] (n, w, f) (some (.int (bi (s_isStops k)))) (n, w, f) := by
  refine CT.of [some (.int k)] rfl (Nat.le_of_ble_eq_true rfl) pl_X6 (bi_01 _) ?_
  refine px_iload_n dX6_isStops_0 rfl ?_
  refine px_if_eq (tgt := 9) dX6_isStops_1 (by decide) (fun hc1 => ?_) (fun hc1 => ?_)
  · refine px_iconst (v := 1) dX6_isStops_9 (by decide) ?_
    refine px_goto (tgt := 14) dX6_isStops_10 (by decide) ?_
    exact px_reti dX6_isStops_14 (by first | (simp [s_isStops, bi, *]; done) | (simp_all [s_isStops, bi]; done)) (by rfl)
  · refine px_iload_n dX6_isStops_4 rfl ?_
    refine px_iconst (v := 1) dX6_isStops_5 (by decide) ?_
    refine px_icmp_ne (tgt := 13) dX6_isStops_6 (by decide) (fun hc6 => ?_) (fun hc6 => ?_)
    · refine px_iconst (v := 0) dX6_isStops_13 (by decide) ?_
      exact px_reti dX6_isStops_14 (by first | (simp [s_isStops, bi, *]; done) | (simp_all [s_isStops, bi]; done)) (by rfl)
    · refine px_iconst (v := 1) dX6_isStops_9 (by decide) ?_
      refine px_goto (tgt := 14) dX6_isStops_10 (by decide) ?_
      exact px_reti dX6_isStops_14 (by first | (simp [s_isStops, bi, *]; done) | (simp_all [s_isStops, bi]; done)) (by rfl)

theorem c_X6_asksForKey (k : Int32) : CT B D 0 mX6_asksForKey [.int k] (n, w, f) (some (.int (bi (s_asks k)))) (n, w, f) := by
  refine CT.of [some (.int k)] rfl (Nat.le_of_ble_eq_true rfl) pl_X6 (bi_01 _) ?_
  refine px_iload_n dX6_asksForKey_0 rfl ?_
  refine px_bipush (v := 43) dX6_asksForKey_1 (by decide) ?_
  refine px_icmp_eq (tgt := 30) dX6_asksForKey_3 (by decide) (fun hc3 => ?_) (fun hc3 => ?_)
  · refine px_iconst (v := 1) dX6_asksForKey_30 (by decide) ?_
    refine px_goto (tgt := 35) dX6_asksForKey_31 (by decide) ?_
    exact px_reti dX6_asksForKey_35 (by first | (simp [s_asks, bi, *]; done) | (simp_all [s_asks, bi]; done)) (by rfl)
  · refine px_iload_n dX6_asksForKey_6 rfl ?_
    refine px_bipush (v := 45) dX6_asksForKey_7 (by decide) ?_
    refine px_icmp_eq (tgt := 30) dX6_asksForKey_9 (by decide) (fun hc9 => ?_) (fun hc9 => ?_)
    · refine px_iconst (v := 1) dX6_asksForKey_30 (by decide) ?_
      refine px_goto (tgt := 35) dX6_asksForKey_31 (by decide) ?_
      exact px_reti dX6_asksForKey_35 (by first | (simp [s_asks, bi, *]; done) | (simp_all [s_asks, bi]; done)) (by rfl)
    · refine px_iload_n dX6_asksForKey_12 rfl ?_
      refine px_bipush (v := 42) dX6_asksForKey_13 (by decide) ?_
      refine px_icmp_eq (tgt := 30) dX6_asksForKey_15 (by decide) (fun hc15 => ?_) (fun hc15 => ?_)
      · refine px_iconst (v := 1) dX6_asksForKey_30 (by decide) ?_
        refine px_goto (tgt := 35) dX6_asksForKey_31 (by decide) ?_
        exact px_reti dX6_asksForKey_35 (by first | (simp [s_asks, bi, *]; done) | (simp_all [s_asks, bi]; done)) (by rfl)
      · refine px_iload_n dX6_asksForKey_18 rfl ?_
        refine px_bipush (v := 47) dX6_asksForKey_19 (by decide) ?_
        refine px_icmp_eq (tgt := 30) dX6_asksForKey_21 (by decide) (fun hc21 => ?_) (fun hc21 => ?_)
        · refine px_iconst (v := 1) dX6_asksForKey_30 (by decide) ?_
          refine px_goto (tgt := 35) dX6_asksForKey_31 (by decide) ?_
          exact px_reti dX6_asksForKey_35 (by first | (simp [s_asks, bi, *]; done) | (simp_all [s_asks, bi]; done)) (by rfl)
        · refine px_iload_n dX6_asksForKey_24 rfl ?_
          refine px_bipush (v := 38) dX6_asksForKey_25 (by decide) ?_
          refine px_icmp_ne (tgt := 34) dX6_asksForKey_27 (by decide) (fun hc27 => ?_) (fun hc27 => ?_)
          · refine px_iconst (v := 0) dX6_asksForKey_34 (by decide) ?_
            exact px_reti dX6_asksForKey_35 (by first | (simp [s_asks, bi, *]; done) | (simp_all [s_asks, bi]; done)) (by rfl)
          · refine px_iconst (v := 1) dX6_asksForKey_30 (by decide) ?_
            refine px_goto (tgt := 35) dX6_asksForKey_31 (by decide) ?_
            exact px_reti dX6_asksForKey_35 (by first | (simp [s_asks, bi, *]; done) | (simp_all [s_asks, bi]; done)) (by rfl)

theorem c_X6_isSign (k : Int32) : CT B D 1 mX6_isSign [.int k] (n, w, f) (some (.int (bi (s_isSign k)))) (n, w, f) := by
  refine CT.of [some (.int k)] rfl (Nat.le_of_ble_eq_true rfl) pl_X6 (bi_01 _) ?_
  refine px_iload_n dX6_isSign_0 rfl ?_
  refine px_callS1 (ν := mX6_asksForKey) lk_X6_275 st_X6_asksForKey mok_X6_asksForKey dX6_isSign_1 (c_X6_asksForKey k) rfl rfl (by omega) (by simp) ?_
  refine px_ifb_ne (tgt := 37) dX6_isSign_4 (by decide) (fun hc4 => ?_) (fun hc4 => ?_)
  · refine px_iconst (v := 1) dX6_isSign_37 (by decide) ?_
    refine px_goto (tgt := 42) dX6_isSign_38 (by decide) ?_
    exact px_reti dX6_isSign_42 (by first | (simp [s_isSign, bi, *]; done) | (simp_all [s_isSign, bi]; done)) (by rfl)
  · refine px_iload_n dX6_isSign_7 rfl ?_
    refine px_bipush (v := 61) dX6_isSign_8 (by decide) ?_
    refine px_icmp_eq (tgt := 37) dX6_isSign_10 (by decide) (fun hc10 => ?_) (fun hc10 => ?_)
    · refine px_iconst (v := 1) dX6_isSign_37 (by decide) ?_
      refine px_goto (tgt := 42) dX6_isSign_38 (by decide) ?_
      exact px_reti dX6_isSign_42 (by first | (simp [s_isSign, bi, *]; done) | (simp_all [s_isSign, bi]; done)) (by rfl)
    · refine px_iload_n dX6_isSign_13 rfl ?_
      refine px_bipush (v := 37) dX6_isSign_14 (by decide) ?_
      refine px_icmp_eq (tgt := 37) dX6_isSign_16 (by decide) (fun hc16 => ?_) (fun hc16 => ?_)
      · refine px_iconst (v := 1) dX6_isSign_37 (by decide) ?_
        refine px_goto (tgt := 42) dX6_isSign_38 (by decide) ?_
        exact px_reti dX6_isSign_42 (by first | (simp [s_isSign, bi, *]; done) | (simp_all [s_isSign, bi]; done)) (by rfl)
      · refine px_iload_n dX6_isSign_19 rfl ?_
        refine px_bipush (v := 33) dX6_isSign_20 (by decide) ?_
        refine px_icmp_eq (tgt := 37) dX6_isSign_22 (by decide) (fun hc22 => ?_) (fun hc22 => ?_)
        · refine px_iconst (v := 1) dX6_isSign_37 (by decide) ?_
          refine px_goto (tgt := 42) dX6_isSign_38 (by decide) ?_
          exact px_reti dX6_isSign_42 (by first | (simp [s_isSign, bi, *]; done) | (simp_all [s_isSign, bi]; done)) (by rfl)
        · refine px_iload_n dX6_isSign_25 rfl ?_
          refine px_bipush (v := 63) dX6_isSign_26 (by decide) ?_
          refine px_icmp_eq (tgt := 37) dX6_isSign_28 (by decide) (fun hc28 => ?_) (fun hc28 => ?_)
          · refine px_iconst (v := 1) dX6_isSign_37 (by decide) ?_
            refine px_goto (tgt := 42) dX6_isSign_38 (by decide) ?_
            exact px_reti dX6_isSign_42 (by first | (simp [s_isSign, bi, *]; done) | (simp_all [s_isSign, bi]; done)) (by rfl)
          · refine px_iload_n dX6_isSign_31 rfl ?_
            refine px_bipush (v := 94) dX6_isSign_32 (by decide) ?_
            refine px_icmp_ne (tgt := 41) dX6_isSign_34 (by decide) (fun hc34 => ?_) (fun hc34 => ?_)
            · refine px_iconst (v := 0) dX6_isSign_41 (by decide) ?_
              exact px_reti dX6_isSign_42 (by first | (simp [s_isSign, bi, *]; done) | (simp_all [s_isSign, bi]; done)) (by rfl)
            · refine px_iconst (v := 1) dX6_isSign_37 (by decide) ?_
              refine px_goto (tgt := 42) dX6_isSign_38 (by decide) ?_
              exact px_reti dX6_isSign_42 (by first | (simp [s_isSign, bi, *]; done) | (simp_all [s_isSign, bi]; done)) (by rfl)

theorem c_X6_isFigure (k : Int32) : CT B D 0 mX6_isFigure [.int k] (n, w, f) (some (.int (bi (s_isFigure k)))) (n, w, f) := by
  refine CT.of [some (.int k)] rfl (Nat.le_of_ble_eq_true rfl) pl_X6 (bi_01 _) ?_
  refine px_iload_n dX6_isFigure_0 rfl ?_
  refine px_bipush (v := 48) dX6_isFigure_1 (by decide) ?_
  refine px_icmp_lt (tgt := 16) dX6_isFigure_3 (by decide) (fun hc3 => ?_) (fun hc3 => ?_)
  · refine px_iconst (v := 0) dX6_isFigure_16 (by decide) ?_
    exact px_reti dX6_isFigure_17 (by first | (simp [s_isFigure, bi, *]; done) | (simp_all [s_isFigure, bi]; done)) (by rfl)
  · refine px_iload_n dX6_isFigure_6 rfl ?_
    refine px_bipush (v := 57) dX6_isFigure_7 (by decide) ?_
    refine px_icmp_gt (tgt := 16) dX6_isFigure_9 (by decide) (fun hc9 => ?_) (fun hc9 => ?_)
    · refine px_iconst (v := 0) dX6_isFigure_16 (by decide) ?_
      exact px_reti dX6_isFigure_17 (by first | (simp [s_isFigure, bi, *]; done) | (simp_all [s_isFigure, bi]; done)) (by rfl)
    · refine px_iconst (v := 1) dX6_isFigure_12 (by decide) ?_
      refine px_goto (tgt := 17) dX6_isFigure_13 (by decide) ?_
      exact px_reti dX6_isFigure_17 (by first | (simp [s_isFigure, bi, *]; done) | (simp_all [s_isFigure, bi]; done)) (by rfl)

theorem c_X0_bitOf (k : Int32) : CT B D 1 mX0_bitOf [.int k] (n, w, f) (some (.int (s_bitOf k))) (n, w, f) := by
  refine CT.of [some (.int k)] rfl (Nat.le_of_ble_eq_true rfl) pl_X0 trivial ?_
  refine px_iload_n dX0_bitOf_0 rfl ?_
  refine px_callSN1 (ν := mX6_isTarget) lk_X0_178 st_X6_isTarget mok_X6_isTarget dX0_bitOf_1 (c_X6_isTarget k) rfl rfl (by omega) (by simp) ?_
  refine px_ifb_eq (tgt := 16) dX0_bitOf_4 (by decide) (fun hc4 => ?_) (fun hc4 => ?_)
  · refine px_iconst (v := 0) dX0_bitOf_16 (by decide) ?_
    exact px_reti dX0_bitOf_17 (by first | (simp [s_bitOf, bi, *]; done) | (simp_all [s_bitOf, bi]; done)) (by rfl)
  · refine px_iconst (v := 1) dX0_bitOf_7 (by decide) ?_
    refine px_iload_n dX0_bitOf_8 rfl ?_
    refine px_bipush (v := 8) dX0_bitOf_9 (by decide) ?_
    refine px_isub dX0_bitOf_11 ?_
    refine px_ishl dX0_bitOf_12 ?_
    refine px_goto (tgt := 17) dX0_bitOf_13 (by decide) ?_
    exact px_reti dX0_bitOf_17 (by first | (simp [s_bitOf, bi, *]; done) | (simp_all [s_bitOf, bi]; done)) (by rfl)

theorem c_X0_failingSort (a : Int32) (v b x : Int64) : CT B D 1 mX0_failingSort [.int a, .long v, .long b, .long x] (n, w, f) (some (.int (s_fsort a v b x))) (n, w, f) := by
  refine CT.of [some (.int a), some (.long v), none, some (.long b), none, some (.long x), none] rfl (Nat.le_of_ble_eq_true rfl) pl_X0 trivial ?_
  refine px_iload_n dX0_failingSort_0 rfl ?_
  refine px_bipush (v := 47) dX0_failingSort_1 (by decide) ?_
  refine px_icmp_eq (tgt := 12) dX0_failingSort_3 (by decide) (fun hc3 => ?_) (fun hc3 => ?_)
  · refine px_lload_n dX0_failingSort_12 rfl ?_
    refine px_lconst (v := 0) dX0_failingSort_13 (by decide) ?_
    refine px_l_ne (tgt := 20) dX0_failingSort_14 dX0_failingSort_15 (by decide) (fun hc15 => ?_) (fun hc15 => ?_)
    · refine px_iload_n dX0_failingSort_20 rfl ?_
      refine px_bipush (v := 33) dX0_failingSort_21 (by decide) ?_
      refine px_icmp_ne (tgt := 34) dX0_failingSort_23 (by decide) (fun hc23 => ?_) (fun hc23 => ?_)
      · refine px_lload dX0_failingSort_34 rfl ?_
        refine px_callSN1 (ν := mX6_isContent) lk_X0_174 st_X6_isContent mok_X6_isContent dX0_failingSort_36 (c_X6_isContent x) rfl rfl (by omega) (by simp) ?_
        refine px_ifb_eq (tgt := 46) dX0_failingSort_39 (by decide) (fun hc39 => ?_) (fun hc39 => ?_)
        · refine px_iconst (v := 3) dX0_failingSort_46 (by decide) ?_
          exact px_reti dX0_failingSort_47 (by first | (simp [s_fsort, bi, *]; done) | (simp_all [s_fsort, bi]; done)) (by rfl)
        · refine px_iconst (v := 0) dX0_failingSort_42 (by decide) ?_
          refine px_goto (tgt := 47) dX0_failingSort_43 (by decide) ?_
          exact px_reti dX0_failingSort_47 (by first | (simp [s_fsort, bi, *]; done) | (simp_all [s_fsort, bi]; done)) (by rfl)
      · refine px_lload_n dX0_failingSort_26 rfl ?_
        refine px_lload_n dX0_failingSort_27 rfl ?_
        refine px_l_le (tgt := 34) dX0_failingSort_28 dX0_failingSort_29 (by decide) (fun hc29 => ?_) (fun hc29 => ?_)
        · refine px_lload dX0_failingSort_34 rfl ?_
          refine px_callSN1 (ν := mX6_isContent) lk_X0_174 st_X6_isContent mok_X6_isContent dX0_failingSort_36 (c_X6_isContent x) rfl rfl (by omega) (by simp) ?_
          refine px_ifb_eq (tgt := 46) dX0_failingSort_39 (by decide) (fun hc39 => ?_) (fun hc39 => ?_)
          · refine px_iconst (v := 3) dX0_failingSort_46 (by decide) ?_
            exact px_reti dX0_failingSort_47 (by first | (simp [s_fsort, bi, *]; done) | (simp_all [s_fsort, bi]; done)) (by rfl)
          · refine px_iconst (v := 0) dX0_failingSort_42 (by decide) ?_
            refine px_goto (tgt := 47) dX0_failingSort_43 (by decide) ?_
            exact px_reti dX0_failingSort_47 (by first | (simp [s_fsort, bi, *]; done) | (simp_all [s_fsort, bi]; done)) (by rfl)
        · refine px_iconst (v := 4) dX0_failingSort_32 (by decide) ?_
          exact px_reti dX0_failingSort_33 (by first | (simp [s_fsort, bi, *]; done) | (simp_all [s_fsort, bi]; done)) (by rfl)
    · refine px_iconst (v := 2) dX0_failingSort_18 (by decide) ?_
      exact px_reti dX0_failingSort_19 (by first | (simp [s_fsort, bi, *]; done) | (simp_all [s_fsort, bi]; done)) (by rfl)
  · refine px_iload_n dX0_failingSort_6 rfl ?_
    refine px_bipush (v := 37) dX0_failingSort_7 (by decide) ?_
    refine px_icmp_ne (tgt := 20) dX0_failingSort_9 (by decide) (fun hc9 => ?_) (fun hc9 => ?_)
    · refine px_iload_n dX0_failingSort_20 rfl ?_
      refine px_bipush (v := 33) dX0_failingSort_21 (by decide) ?_
      refine px_icmp_ne (tgt := 34) dX0_failingSort_23 (by decide) (fun hc23 => ?_) (fun hc23 => ?_)
      · refine px_lload dX0_failingSort_34 rfl ?_
        refine px_callSN1 (ν := mX6_isContent) lk_X0_174 st_X6_isContent mok_X6_isContent dX0_failingSort_36 (c_X6_isContent x) rfl rfl (by omega) (by simp) ?_
        refine px_ifb_eq (tgt := 46) dX0_failingSort_39 (by decide) (fun hc39 => ?_) (fun hc39 => ?_)
        · refine px_iconst (v := 3) dX0_failingSort_46 (by decide) ?_
          exact px_reti dX0_failingSort_47 (by first | (simp [s_fsort, bi, *]; done) | (simp_all [s_fsort, bi]; done)) (by rfl)
        · refine px_iconst (v := 0) dX0_failingSort_42 (by decide) ?_
          refine px_goto (tgt := 47) dX0_failingSort_43 (by decide) ?_
          exact px_reti dX0_failingSort_47 (by first | (simp [s_fsort, bi, *]; done) | (simp_all [s_fsort, bi]; done)) (by rfl)
      · refine px_lload_n dX0_failingSort_26 rfl ?_
        refine px_lload_n dX0_failingSort_27 rfl ?_
        refine px_l_le (tgt := 34) dX0_failingSort_28 dX0_failingSort_29 (by decide) (fun hc29 => ?_) (fun hc29 => ?_)
        · refine px_lload dX0_failingSort_34 rfl ?_
          refine px_callSN1 (ν := mX6_isContent) lk_X0_174 st_X6_isContent mok_X6_isContent dX0_failingSort_36 (c_X6_isContent x) rfl rfl (by omega) (by simp) ?_
          refine px_ifb_eq (tgt := 46) dX0_failingSort_39 (by decide) (fun hc39 => ?_) (fun hc39 => ?_)
          · refine px_iconst (v := 3) dX0_failingSort_46 (by decide) ?_
            exact px_reti dX0_failingSort_47 (by first | (simp [s_fsort, bi, *]; done) | (simp_all [s_fsort, bi]; done)) (by rfl)
          · refine px_iconst (v := 0) dX0_failingSort_42 (by decide) ?_
            refine px_goto (tgt := 47) dX0_failingSort_43 (by decide) ?_
            exact px_reti dX0_failingSort_47 (by first | (simp [s_fsort, bi, *]; done) | (simp_all [s_fsort, bi]; done)) (by rfl)
        · refine px_iconst (v := 4) dX0_failingSort_32 (by decide) ?_
          exact px_reti dX0_failingSort_33 (by first | (simp [s_fsort, bi, *]; done) | (simp_all [s_fsort, bi]; done)) (by rfl)
    · refine px_lload_n dX0_failingSort_12 rfl ?_
      refine px_lconst (v := 0) dX0_failingSort_13 (by decide) ?_
      refine px_l_ne (tgt := 20) dX0_failingSort_14 dX0_failingSort_15 (by decide) (fun hc15 => ?_) (fun hc15 => ?_)
      · refine px_iload_n dX0_failingSort_20 rfl ?_
        refine px_bipush (v := 33) dX0_failingSort_21 (by decide) ?_
        refine px_icmp_ne (tgt := 34) dX0_failingSort_23 (by decide) (fun hc23 => ?_) (fun hc23 => ?_)
        · refine px_lload dX0_failingSort_34 rfl ?_
          refine px_callSN1 (ν := mX6_isContent) lk_X0_174 st_X6_isContent mok_X6_isContent dX0_failingSort_36 (c_X6_isContent x) rfl rfl (by omega) (by simp) ?_
          refine px_ifb_eq (tgt := 46) dX0_failingSort_39 (by decide) (fun hc39 => ?_) (fun hc39 => ?_)
          · refine px_iconst (v := 3) dX0_failingSort_46 (by decide) ?_
            exact px_reti dX0_failingSort_47 (by first | (simp [s_fsort, bi, *]; done) | (simp_all [s_fsort, bi]; done)) (by rfl)
          · refine px_iconst (v := 0) dX0_failingSort_42 (by decide) ?_
            refine px_goto (tgt := 47) dX0_failingSort_43 (by decide) ?_
            exact px_reti dX0_failingSort_47 (by first | (simp [s_fsort, bi, *]; done) | (simp_all [s_fsort, bi]; done)) (by rfl)
        · refine px_lload_n dX0_failingSort_26 rfl ?_
          refine px_lload_n dX0_failingSort_27 rfl ?_
          refine px_l_le (tgt := 34) dX0_failingSort_28 dX0_failingSort_29 (by decide) (fun hc29 => ?_) (fun hc29 => ?_)
          · refine px_lload dX0_failingSort_34 rfl ?_
            refine px_callSN1 (ν := mX6_isContent) lk_X0_174 st_X6_isContent mok_X6_isContent dX0_failingSort_36 (c_X6_isContent x) rfl rfl (by omega) (by simp) ?_
            refine px_ifb_eq (tgt := 46) dX0_failingSort_39 (by decide) (fun hc39 => ?_) (fun hc39 => ?_)
            · refine px_iconst (v := 3) dX0_failingSort_46 (by decide) ?_
              exact px_reti dX0_failingSort_47 (by first | (simp [s_fsort, bi, *]; done) | (simp_all [s_fsort, bi]; done)) (by rfl)
            · refine px_iconst (v := 0) dX0_failingSort_42 (by decide) ?_
              refine px_goto (tgt := 47) dX0_failingSort_43 (by decide) ?_
              exact px_reti dX0_failingSort_47 (by first | (simp [s_fsort, bi, *]; done) | (simp_all [s_fsort, bi]; done)) (by rfl)
          · refine px_iconst (v := 4) dX0_failingSort_32 (by decide) ?_
            exact px_reti dX0_failingSort_33 (by first | (simp [s_fsort, bi, *]; done) | (simp_all [s_fsort, bi]; done)) (by rfl)
      · refine px_iconst (v := 2) dX0_failingSort_18 (by decide) ?_
        exact px_reti dX0_failingSort_19 (by first | (simp [s_fsort, bi, *]; done) | (simp_all [s_fsort, bi]; done)) (by rfl)

theorem c_X0_stepsToPass (a : Int32) (v : Int64) (k : Int32) : CT B D 0 mX0_stepsToPass [.int a, .long v, .int k] (n, w, f) (some (.int (s_pass a v k))) (n, w, f) := by
  refine CT.of [some (.int a), some (.long v), none, some (.int k)] rfl (Nat.le_of_ble_eq_true rfl) pl_X0 trivial ?_
  refine px_iload_n dX0_stepsToPass_0 rfl ?_
  refine px_bipush (v := 63) dX0_stepsToPass_1 (by decide) ?_
  refine px_icmp_ne (tgt := 12) dX0_stepsToPass_3 (by decide) (fun hc3 => ?_) (fun hc3 => ?_)
  · refine px_iload_n dX0_stepsToPass_12 rfl ?_
    refine px_bipush (v := 94) dX0_stepsToPass_13 (by decide) ?_
    refine px_icmp_ne (tgt := 28) dX0_stepsToPass_15 (by decide) (fun hc15 => ?_) (fun hc15 => ?_)
    · refine px_iconst (v := 0) dX0_stepsToPass_28 (by decide) ?_
      exact px_reti dX0_stepsToPass_29 (by first | (simp [s_pass, bi, *]; done) | (simp_all [s_pass, bi]; done)) (by rfl)
    · refine px_lload_n dX0_stepsToPass_18 rfl ?_
      refine px_lconst (v := 0) dX0_stepsToPass_19 (by decide) ?_
      refine px_l_ge (tgt := 28) dX0_stepsToPass_20 dX0_stepsToPass_21 (by decide) (fun hc21 => ?_) (fun hc21 => ?_)
      · refine px_iconst (v := 0) dX0_stepsToPass_28 (by decide) ?_
        exact px_reti dX0_stepsToPass_29 (by first | (simp [s_pass, bi, *]; done) | (simp_all [s_pass, bi]; done)) (by rfl)
      · refine px_iload_n dX0_stepsToPass_24 rfl ?_
        refine px_goto (tgt := 29) dX0_stepsToPass_25 (by decide) ?_
        exact px_reti dX0_stepsToPass_29 (by first | (simp [s_pass, bi, *]; done) | (simp_all [s_pass, bi]; done)) (by rfl)
  · refine px_lload_n dX0_stepsToPass_6 rfl ?_
    refine px_lconst (v := 0) dX0_stepsToPass_7 (by decide) ?_
    refine px_l_eq (tgt := 24) dX0_stepsToPass_8 dX0_stepsToPass_9 (by decide) (fun hc9 => ?_) (fun hc9 => ?_)
    · refine px_iload_n dX0_stepsToPass_24 rfl ?_
      refine px_goto (tgt := 29) dX0_stepsToPass_25 (by decide) ?_
      exact px_reti dX0_stepsToPass_29 (by first | (simp [s_pass, bi, *]; done) | (simp_all [s_pass, bi]; done)) (by rfl)
    · refine px_iload_n dX0_stepsToPass_12 rfl ?_
      refine px_bipush (v := 94) dX0_stepsToPass_13 (by decide) ?_
      refine px_icmp_ne (tgt := 28) dX0_stepsToPass_15 (by decide) (fun hc15 => ?_) (fun hc15 => ?_)
      · refine px_iconst (v := 0) dX0_stepsToPass_28 (by decide) ?_
        exact px_reti dX0_stepsToPass_29 (by first | (simp [s_pass, bi, *]; done) | (simp_all [s_pass, bi]; done)) (by rfl)
      · refine px_lload_n dX0_stepsToPass_18 rfl ?_
        refine px_lconst (v := 0) dX0_stepsToPass_19 (by decide) ?_
        refine px_l_ge (tgt := 28) dX0_stepsToPass_20 dX0_stepsToPass_21 (by decide) (fun hc21 => ?_) (fun hc21 => ?_)
        · refine px_iconst (v := 0) dX0_stepsToPass_28 (by decide) ?_
          exact px_reti dX0_stepsToPass_29 (by first | (simp [s_pass, bi, *]; done) | (simp_all [s_pass, bi]; done)) (by rfl)
        · refine px_iload_n dX0_stepsToPass_24 rfl ?_
          refine px_goto (tgt := 29) dX0_stepsToPass_25 (by decide) ?_
          exact px_reti dX0_stepsToPass_29 (by first | (simp [s_pass, bi, *]; done) | (simp_all [s_pass, bi]; done)) (by rfl)

theorem c_X7_isIn (v a b : Int64) : CT B D 0 mX7_isIn [.long v, .long a, .long b] (n, w, f) (some (.int (bi (s_isInL v a b)))) (n, w, f) := by
  refine CT.of [some (.long v), none, some (.long a), none, some (.long b), none] rfl (Nat.le_of_ble_eq_true rfl) pl_X7 (bi_01 _) ?_
  refine px_lload_n dX7_isIn_0 rfl ?_
  refine px_lload_n dX7_isIn_1 rfl ?_
  refine px_l_lt (tgt := 17) dX7_isIn_2 dX7_isIn_3 (by decide) (fun hc3 => ?_) (fun hc3 => ?_)
  · refine px_iconst (v := 0) dX7_isIn_17 (by decide) ?_
    exact px_reti dX7_isIn_18 (by first | (simp [s_isInL, bi, *]; done) | (simp_all [s_isInL, bi]; done)) (by rfl)
  · refine px_lload_n dX7_isIn_6 rfl ?_
    refine px_lload dX7_isIn_7 rfl ?_
    refine px_l_gt (tgt := 17) dX7_isIn_9 dX7_isIn_10 (by decide) (fun hc10 => ?_) (fun hc10 => ?_)
    · refine px_iconst (v := 0) dX7_isIn_17 (by decide) ?_
      exact px_reti dX7_isIn_18 (by first | (simp [s_isInL, bi, *]; done) | (simp_all [s_isInL, bi]; done)) (by rfl)
    · refine px_iconst (v := 1) dX7_isIn_13 (by decide) ?_
      refine px_goto (tgt := 18) dX7_isIn_14 (by decide) ?_
      exact px_reti dX7_isIn_18 (by first | (simp [s_isInL, bi, *]; done) | (simp_all [s_isInL, bi]; done)) (by rfl)

theorem c_X7_isInput (k : Int32) : CT B D 1 mX7_isInput [.int k] (n, w, f) (some (.int (bi (s_isInL k.toInt64 0 7)))) (n, w, f) := by
  refine CT.of [some (.int k)] rfl (Nat.le_of_ble_eq_true rfl) pl_X7 (bi_01 _) ?_
  refine px_iload_n dX7_isInput_0 rfl ?_
  refine px_i2l dX7_isInput_1 ?_
  refine px_lconst (v := 0) dX7_isInput_2 (by decide) ?_
  refine px_ldc2 dX7_isInput_3 kc_X7_5 ?_
  refine px_callS1 (ν := mX7_isIn) lk_X7_7 st_X7_isIn mok_X7_isIn dX7_isInput_6 (c_X7_isIn k.toInt64 0 7) rfl rfl (by omega) (by simp) ?_
  exact px_reti dX7_isInput_9 (by rfl) (by rfl)

theorem c_X7_isTarget (k : Int32) : CT B D 1 mX7_isTarget [.int k] (n, w, f) (some (.int (bi (s_isInL k.toInt64 8 23)))) (n, w, f) := by
  refine CT.of [some (.int k)] rfl (Nat.le_of_ble_eq_true rfl) pl_X7 (bi_01 _) ?_
  refine px_iload_n dX7_isTarget_0 rfl ?_
  refine px_i2l dX7_isTarget_1 ?_
  refine px_ldc2 dX7_isTarget_2 kc_X7_11 ?_
  refine px_ldc2 dX7_isTarget_5 kc_X7_13 ?_
  refine px_callS1 (ν := mX7_isIn) lk_X7_7 st_X7_isIn mok_X7_isIn dX7_isTarget_8 (c_X7_isIn k.toInt64 8 23) rfl rfl (by omega) (by simp) ?_
  exact px_reti dX7_isTarget_11 (by rfl) (by rfl)

theorem c_X7_isKey (k : Int32) : CT B D 1 mX7_isKey [.int k] (n, w, f) (some (.int (bi (s_isInL k.toInt64 0 23)))) (n, w, f) := by
  refine CT.of [some (.int k)] rfl (Nat.le_of_ble_eq_true rfl) pl_X7 (bi_01 _) ?_
  refine px_iload_n dX7_isKey_0 rfl ?_
  refine px_i2l dX7_isKey_1 ?_
  refine px_lconst (v := 0) dX7_isKey_2 (by decide) ?_
  refine px_ldc2 dX7_isKey_3 kc_X7_13 ?_
  refine px_callS1 (ν := mX7_isIn) lk_X7_7 st_X7_isIn mok_X7_isIn dX7_isKey_6 (c_X7_isIn k.toInt64 0 23) rfl rfl (by omega) (by simp) ?_
  exact px_reti dX7_isKey_9 (by rfl) (by rfl)

theorem c_X7_isList (k : Int32) : CT B D 1 mX7_isList [.int k] (n, w, f) (some (.int (bi (s_isInL k.toInt64 0 3)))) (n, w, f) := by
  refine CT.of [some (.int k)] rfl (Nat.le_of_ble_eq_true rfl) pl_X7 (bi_01 _) ?_
  refine px_iload_n dX7_isList_0 rfl ?_
  refine px_i2l dX7_isList_1 ?_
  refine px_lconst (v := 0) dX7_isList_2 (by decide) ?_
  refine px_ldc2 dX7_isList_3 kc_X7_234 ?_
  refine px_callS1 (ν := mX7_isIn) lk_X7_7 st_X7_isIn mok_X7_isIn dX7_isList_6 (c_X7_isIn k.toInt64 0 3) rfl rfl (by omega) (by simp) ?_
  exact px_reti dX7_isList_9 (by rfl) (by rfl)

theorem c_X7_numberResult (k : Int32) : CT B D 0 mX7_numberResult [.int k] (n, w, f) (some (.int ((k + 1000000) * 2))) (n, w, f) := by
  refine CT.of [some (.int k)] rfl (Nat.le_of_ble_eq_true rfl) pl_X7 trivial ?_
  refine px_iload_n dX7_numberResult_0 rfl ?_
  refine px_ldc dX7_numberResult_1 kc_X7_15 ?_
  refine px_iadd dX7_numberResult_3 ?_
  refine px_iconst (v := 2) dX7_numberResult_4 (by decide) ?_
  refine px_imul dX7_numberResult_5 ?_
  exact px_reti dX7_numberResult_6 (by rfl) (by rfl)

theorem c_X7_numberOf (k : Int32) : CT B D 0 mX7_numberOf [.int k] (n, w, f) (some (.int (k / 2 - 1000000))) (n, w, f) := by
  refine CT.of [some (.int k)] rfl (Nat.le_of_ble_eq_true rfl) pl_X7 trivial ?_
  refine px_iload_n dX7_numberOf_0 rfl ?_
  refine px_iconst (v := 2) dX7_numberOf_1 (by decide) ?_
  refine px_idiv dX7_numberOf_2 (by decide) ?_
  refine px_ldc dX7_numberOf_3 kc_X7_15 ?_
  refine px_isub dX7_numberOf_5 ?_
  exact px_reti dX7_numberOf_6 (by rfl) (by rfl)

def t_isFail (x : Int32) : Bool := !decide (x < 0) && decide (x - x / 2 * 2 = 1)
theorem c_X7_isFailure (k : Int32) : CT B D 0 mX7_isFailure [.int k] (n, w, f) (some (.int (bi (t_isFail k)))) (n, w, f) := by
  refine CT.of [some (.int k)] rfl (Nat.le_of_ble_eq_true rfl) pl_X7 (bi_01 _) ?_
  refine px_iload_n dX7_isFailure_0 rfl ?_
  refine px_if_lt (tgt := 15) dX7_isFailure_1 (by decide) (fun hc1 => ?_) (fun hc1 => ?_)
  · refine px_iconst (v := 0) dX7_isFailure_15 (by decide) ?_
    exact px_reti dX7_isFailure_16 (by first | (simp [t_isFail, bi, *]; done) | (simp_all [t_isFail, bi]; done)) (by rfl)
  · refine px_iload_n dX7_isFailure_4 rfl ?_
    refine px_iconst (v := 2) dX7_isFailure_5 (by decide) ?_
    refine px_irem dX7_isFailure_6 (by decide) ?_
    refine px_iconst (v := 1) dX7_isFailure_7 (by decide) ?_
    refine px_icmp_ne (tgt := 15) dX7_isFailure_8 (by decide) (fun hc8 => ?_) (fun hc8 => ?_)
    · refine px_iconst (v := 0) dX7_isFailure_15 (by decide) ?_
      exact px_reti dX7_isFailure_16 (by first | (simp [t_isFail, bi, *]; done) | (simp_all [t_isFail, bi]; done)) (by rfl)
    · refine px_iconst (v := 1) dX7_isFailure_11 (by decide) ?_
      refine px_goto (tgt := 16) dX7_isFailure_12 (by decide) ?_
      exact px_reti dX7_isFailure_16 (by first | (simp [t_isFail, bi, *]; done) | (simp_all [t_isFail, bi]; done)) (by rfl)

theorem c_X7_isAsking (k : Int32) : CT B D 0 mX7_isAsking [.int k] (n, w, f) (some (.int (bi (s_asks k)))) (n, w, f) := by
  refine CT.of [some (.int k)] rfl (Nat.le_of_ble_eq_true rfl) pl_X7 (bi_01 _) ?_
  refine px_iload_n dX7_isAsking_0 rfl ?_
  refine px_bipush (v := 43) dX7_isAsking_1 (by decide) ?_
  refine px_icmp_eq (tgt := 30) dX7_isAsking_3 (by decide) (fun hc3 => ?_) (fun hc3 => ?_)
  · refine px_iconst (v := 1) dX7_isAsking_30 (by decide) ?_
    refine px_goto (tgt := 35) dX7_isAsking_31 (by decide) ?_
    exact px_reti dX7_isAsking_35 (by first | (simp [s_asks, bi, *]; done) | (simp_all [s_asks, bi]; done)) (by rfl)
  · refine px_iload_n dX7_isAsking_6 rfl ?_
    refine px_bipush (v := 45) dX7_isAsking_7 (by decide) ?_
    refine px_icmp_eq (tgt := 30) dX7_isAsking_9 (by decide) (fun hc9 => ?_) (fun hc9 => ?_)
    · refine px_iconst (v := 1) dX7_isAsking_30 (by decide) ?_
      refine px_goto (tgt := 35) dX7_isAsking_31 (by decide) ?_
      exact px_reti dX7_isAsking_35 (by first | (simp [s_asks, bi, *]; done) | (simp_all [s_asks, bi]; done)) (by rfl)
    · refine px_iload_n dX7_isAsking_12 rfl ?_
      refine px_bipush (v := 42) dX7_isAsking_13 (by decide) ?_
      refine px_icmp_eq (tgt := 30) dX7_isAsking_15 (by decide) (fun hc15 => ?_) (fun hc15 => ?_)
      · refine px_iconst (v := 1) dX7_isAsking_30 (by decide) ?_
        refine px_goto (tgt := 35) dX7_isAsking_31 (by decide) ?_
        exact px_reti dX7_isAsking_35 (by first | (simp [s_asks, bi, *]; done) | (simp_all [s_asks, bi]; done)) (by rfl)
      · refine px_iload_n dX7_isAsking_18 rfl ?_
        refine px_bipush (v := 47) dX7_isAsking_19 (by decide) ?_
        refine px_icmp_eq (tgt := 30) dX7_isAsking_21 (by decide) (fun hc21 => ?_) (fun hc21 => ?_)
        · refine px_iconst (v := 1) dX7_isAsking_30 (by decide) ?_
          refine px_goto (tgt := 35) dX7_isAsking_31 (by decide) ?_
          exact px_reti dX7_isAsking_35 (by first | (simp [s_asks, bi, *]; done) | (simp_all [s_asks, bi]; done)) (by rfl)
        · refine px_iload_n dX7_isAsking_24 rfl ?_
          refine px_bipush (v := 38) dX7_isAsking_25 (by decide) ?_
          refine px_icmp_ne (tgt := 34) dX7_isAsking_27 (by decide) (fun hc27 => ?_) (fun hc27 => ?_)
          · refine px_iconst (v := 0) dX7_isAsking_34 (by decide) ?_
            exact px_reti dX7_isAsking_35 (by first | (simp [s_asks, bi, *]; done) | (simp_all [s_asks, bi]; done)) (by rfl)
          · refine px_iconst (v := 1) dX7_isAsking_30 (by decide) ?_
            refine px_goto (tgt := 35) dX7_isAsking_31 (by decide) ?_
            exact px_reti dX7_isAsking_35 (by first | (simp [s_asks, bi, *]; done) | (simp_all [s_asks, bi]; done)) (by rfl)

theorem c_X7_isSign (k : Int32) : CT B D 1 mX7_isSign [.int k] (n, w, f) (some (.int (bi (s_isSign k)))) (n, w, f) := by
  refine CT.of [some (.int k)] rfl (Nat.le_of_ble_eq_true rfl) pl_X7 (bi_01 _) ?_
  refine px_iload_n dX7_isSign_0 rfl ?_
  refine px_callS1 (ν := mX7_isAsking) lk_X7_123 st_X7_isAsking mok_X7_isAsking dX7_isSign_1 (c_X7_isAsking k) rfl rfl (by omega) (by simp) ?_
  refine px_ifb_ne (tgt := 37) dX7_isSign_4 (by decide) (fun hc4 => ?_) (fun hc4 => ?_)
  · refine px_iconst (v := 1) dX7_isSign_37 (by decide) ?_
    refine px_goto (tgt := 42) dX7_isSign_38 (by decide) ?_
    exact px_reti dX7_isSign_42 (by first | (simp [s_isSign, bi, *]; done) | (simp_all [s_isSign, bi]; done)) (by rfl)
  · refine px_iload_n dX7_isSign_7 rfl ?_
    refine px_bipush (v := 61) dX7_isSign_8 (by decide) ?_
    refine px_icmp_eq (tgt := 37) dX7_isSign_10 (by decide) (fun hc10 => ?_) (fun hc10 => ?_)
    · refine px_iconst (v := 1) dX7_isSign_37 (by decide) ?_
      refine px_goto (tgt := 42) dX7_isSign_38 (by decide) ?_
      exact px_reti dX7_isSign_42 (by first | (simp [s_isSign, bi, *]; done) | (simp_all [s_isSign, bi]; done)) (by rfl)
    · refine px_iload_n dX7_isSign_13 rfl ?_
      refine px_bipush (v := 37) dX7_isSign_14 (by decide) ?_
      refine px_icmp_eq (tgt := 37) dX7_isSign_16 (by decide) (fun hc16 => ?_) (fun hc16 => ?_)
      · refine px_iconst (v := 1) dX7_isSign_37 (by decide) ?_
        refine px_goto (tgt := 42) dX7_isSign_38 (by decide) ?_
        exact px_reti dX7_isSign_42 (by first | (simp [s_isSign, bi, *]; done) | (simp_all [s_isSign, bi]; done)) (by rfl)
      · refine px_iload_n dX7_isSign_19 rfl ?_
        refine px_bipush (v := 33) dX7_isSign_20 (by decide) ?_
        refine px_icmp_eq (tgt := 37) dX7_isSign_22 (by decide) (fun hc22 => ?_) (fun hc22 => ?_)
        · refine px_iconst (v := 1) dX7_isSign_37 (by decide) ?_
          refine px_goto (tgt := 42) dX7_isSign_38 (by decide) ?_
          exact px_reti dX7_isSign_42 (by first | (simp [s_isSign, bi, *]; done) | (simp_all [s_isSign, bi]; done)) (by rfl)
        · refine px_iload_n dX7_isSign_25 rfl ?_
          refine px_bipush (v := 63) dX7_isSign_26 (by decide) ?_
          refine px_icmp_eq (tgt := 37) dX7_isSign_28 (by decide) (fun hc28 => ?_) (fun hc28 => ?_)
          · refine px_iconst (v := 1) dX7_isSign_37 (by decide) ?_
            refine px_goto (tgt := 42) dX7_isSign_38 (by decide) ?_
            exact px_reti dX7_isSign_42 (by first | (simp [s_isSign, bi, *]; done) | (simp_all [s_isSign, bi]; done)) (by rfl)
          · refine px_iload_n dX7_isSign_31 rfl ?_
            refine px_bipush (v := 94) dX7_isSign_32 (by decide) ?_
            refine px_icmp_ne (tgt := 41) dX7_isSign_34 (by decide) (fun hc34 => ?_) (fun hc34 => ?_)
            · refine px_iconst (v := 0) dX7_isSign_41 (by decide) ?_
              exact px_reti dX7_isSign_42 (by first | (simp [s_isSign, bi, *]; done) | (simp_all [s_isSign, bi]; done)) (by rfl)
            · refine px_iconst (v := 1) dX7_isSign_37 (by decide) ?_
              refine px_goto (tgt := 42) dX7_isSign_38 (by decide) ?_
              exact px_reti dX7_isSign_42 (by first | (simp [s_isSign, bi, *]; done) | (simp_all [s_isSign, bi]; done)) (by rfl)

theorem c_X0_worked (a : Int32) (v b : Int64) : CT B D 0 mX0_worked [.int a, .long v, .long b] (n, w, f) (some (.long (s_worked a v b))) (n, w, f) := by
  refine CT.of [some (.int a), some (.long v), none, some (.long b), none] rfl (Nat.le_of_ble_eq_true rfl) pl_X0 trivial ?_
  refine px_iload_n dX0_worked_0 rfl ?_
  rcases sw_cases a 37 25 with h | h | ⟨j, hj, h⟩
  · refine px_tableOut (tgt := 160) dX0_worked_1 (Or.inl h) (by decide) ?_
    have hne : ∀ z : Int32, 37 ≤ z.toInt → z.toInt ≤ 61 → ¬ a = z := fun z h1 h2 e => by subst e; omega
    refine px_lload_n dX0_worked_160 rfl ?_
    exact px_retl dX0_worked_161 (by simp [s_worked, hne 43 (by decide) (by decide), hne 45 (by decide) (by decide), hne 42 (by decide) (by decide), hne 47 (by decide) (by decide), hne 37 (by decide) (by decide), hne 38 (by decide) (by decide), hne 61 (by decide) (by decide), *]) (by rfl)
  · refine px_tableOut (tgt := 160) dX0_worked_1 (Or.inr (by omega)) (by decide) ?_
    have hne : ∀ z : Int32, 37 ≤ z.toInt → z.toInt ≤ 61 → ¬ a = z := fun z h1 h2 e => by subst e; omega
    refine px_lload_n dX0_worked_160 rfl ?_
    exact px_retl dX0_worked_161 (by simp [s_worked, hne 43 (by decide) (by decide), hne 45 (by decide) (by decide), hne 42 (by decide) (by decide), hne 47 (by decide) (by decide), hne 37 (by decide) (by decide), hne 38 (by decide) (by decide), hne 61 (by decide) (by decide), *]) (by rfl)
  · match j, hj with
    | 0, _ =>
      have hx : a = 37 := Int32.toInt_inj.mp (by rw [h]; rfl)
      subst hx
      refine px_tableIn (off := 141) (tgt := 142) dX0_worked_1 (by decide) (by decide) rfl (by decide) ?_
      refine px_lload_n dX0_worked_142 rfl ?_
      refine px_lconst (v := 0) dX0_worked_143 (by decide) ?_
      refine px_l_ne (tgt := 152) dX0_worked_144 dX0_worked_145 (by decide) (fun hc145 => ?_) (fun hc145 => ?_)
      · refine px_lload_n dX0_worked_152 rfl ?_
        refine px_lload_n dX0_worked_153 rfl ?_
        refine px_lrem dX0_worked_154 (by assumption) ?_
        exact px_retl dX0_worked_155 (by simp [s_worked, *]) (by rfl)
      · refine px_lload_n dX0_worked_148 rfl ?_
        refine px_goto (tgt := 155) dX0_worked_149 (by decide) ?_
        exact px_retl dX0_worked_155 (by simp [s_worked, *]) (by rfl)
    | 1, _ =>
      have hx : a = 38 := Int32.toInt_inj.mp (by rw [h]; rfl)
      subst hx
      refine px_tableIn (off := 155) (tgt := 156) dX0_worked_1 (by decide) (by decide) rfl (by decide) ?_
      refine px_lload_n dX0_worked_156 rfl ?_
      exact px_retl dX0_worked_157 (by simp [s_worked, *]) (by rfl)
    | 2, _ =>
      have hx : a = 39 := Int32.toInt_inj.mp (by rw [h]; rfl)
      subst hx
      refine px_tableIn (off := 159) (tgt := 160) dX0_worked_1 (by decide) (by decide) rfl (by decide) ?_
      refine px_lload_n dX0_worked_160 rfl ?_
      exact px_retl dX0_worked_161 (by simp [s_worked, *]) (by rfl)
    | 3, _ =>
      have hx : a = 40 := Int32.toInt_inj.mp (by rw [h]; rfl)
      subst hx
      refine px_tableIn (off := 159) (tgt := 160) dX0_worked_1 (by decide) (by decide) rfl (by decide) ?_
      refine px_lload_n dX0_worked_160 rfl ?_
      exact px_retl dX0_worked_161 (by simp [s_worked, *]) (by rfl)
    | 4, _ =>
      have hx : a = 41 := Int32.toInt_inj.mp (by rw [h]; rfl)
      subst hx
      refine px_tableIn (off := 159) (tgt := 160) dX0_worked_1 (by decide) (by decide) rfl (by decide) ?_
      refine px_lload_n dX0_worked_160 rfl ?_
      exact px_retl dX0_worked_161 (by simp [s_worked, *]) (by rfl)
    | 5, _ =>
      have hx : a = 42 := Int32.toInt_inj.mp (by rw [h]; rfl)
      subst hx
      refine px_tableIn (off := 123) (tgt := 124) dX0_worked_1 (by decide) (by decide) rfl (by decide) ?_
      refine px_lload_n dX0_worked_124 rfl ?_
      refine px_lload_n dX0_worked_125 rfl ?_
      refine px_lmul dX0_worked_126 ?_
      exact px_retl dX0_worked_127 (by simp [s_worked, *]) (by rfl)
    | 6, _ =>
      have hx : a = 43 := Int32.toInt_inj.mp (by rw [h]; rfl)
      subst hx
      refine px_tableIn (off := 115) (tgt := 116) dX0_worked_1 (by decide) (by decide) rfl (by decide) ?_
      refine px_lload_n dX0_worked_116 rfl ?_
      refine px_lload_n dX0_worked_117 rfl ?_
      refine px_ladd dX0_worked_118 ?_
      exact px_retl dX0_worked_119 (by simp [s_worked, *]) (by rfl)
    | 7, _ =>
      have hx : a = 44 := Int32.toInt_inj.mp (by rw [h]; rfl)
      subst hx
      refine px_tableIn (off := 159) (tgt := 160) dX0_worked_1 (by decide) (by decide) rfl (by decide) ?_
      refine px_lload_n dX0_worked_160 rfl ?_
      exact px_retl dX0_worked_161 (by simp [s_worked, *]) (by rfl)
    | 8, _ =>
      have hx : a = 45 := Int32.toInt_inj.mp (by rw [h]; rfl)
      subst hx
      refine px_tableIn (off := 119) (tgt := 120) dX0_worked_1 (by decide) (by decide) rfl (by decide) ?_
      refine px_lload_n dX0_worked_120 rfl ?_
      refine px_lload_n dX0_worked_121 rfl ?_
      refine px_lsub dX0_worked_122 ?_
      exact px_retl dX0_worked_123 (by simp [s_worked, *]) (by rfl)
    | 9, _ =>
      have hx : a = 46 := Int32.toInt_inj.mp (by rw [h]; rfl)
      subst hx
      refine px_tableIn (off := 159) (tgt := 160) dX0_worked_1 (by decide) (by decide) rfl (by decide) ?_
      refine px_lload_n dX0_worked_160 rfl ?_
      exact px_retl dX0_worked_161 (by simp [s_worked, *]) (by rfl)
    | 10, _ =>
      have hx : a = 47 := Int32.toInt_inj.mp (by rw [h]; rfl)
      subst hx
      refine px_tableIn (off := 127) (tgt := 128) dX0_worked_1 (by decide) (by decide) rfl (by decide) ?_
      refine px_lload_n dX0_worked_128 rfl ?_
      refine px_lconst (v := 0) dX0_worked_129 (by decide) ?_
      refine px_l_ne (tgt := 138) dX0_worked_130 dX0_worked_131 (by decide) (fun hc131 => ?_) (fun hc131 => ?_)
      · refine px_lload_n dX0_worked_138 rfl ?_
        refine px_lload_n dX0_worked_139 rfl ?_
        refine px_ldiv dX0_worked_140 (by assumption) ?_
        exact px_retl dX0_worked_141 (by simp [s_worked, *]) (by rfl)
      · refine px_lload_n dX0_worked_134 rfl ?_
        refine px_goto (tgt := 141) dX0_worked_135 (by decide) ?_
        exact px_retl dX0_worked_141 (by simp [s_worked, *]) (by rfl)
    | 11, _ =>
      have hx : a = 48 := Int32.toInt_inj.mp (by rw [h]; rfl)
      subst hx
      refine px_tableIn (off := 159) (tgt := 160) dX0_worked_1 (by decide) (by decide) rfl (by decide) ?_
      refine px_lload_n dX0_worked_160 rfl ?_
      exact px_retl dX0_worked_161 (by simp [s_worked, *]) (by rfl)
    | 12, _ =>
      have hx : a = 49 := Int32.toInt_inj.mp (by rw [h]; rfl)
      subst hx
      refine px_tableIn (off := 159) (tgt := 160) dX0_worked_1 (by decide) (by decide) rfl (by decide) ?_
      refine px_lload_n dX0_worked_160 rfl ?_
      exact px_retl dX0_worked_161 (by simp [s_worked, *]) (by rfl)
    | 13, _ =>
      have hx : a = 50 := Int32.toInt_inj.mp (by rw [h]; rfl)
      subst hx
      refine px_tableIn (off := 159) (tgt := 160) dX0_worked_1 (by decide) (by decide) rfl (by decide) ?_
      refine px_lload_n dX0_worked_160 rfl ?_
      exact px_retl dX0_worked_161 (by simp [s_worked, *]) (by rfl)
    | 14, _ =>
      have hx : a = 51 := Int32.toInt_inj.mp (by rw [h]; rfl)
      subst hx
      refine px_tableIn (off := 159) (tgt := 160) dX0_worked_1 (by decide) (by decide) rfl (by decide) ?_
      refine px_lload_n dX0_worked_160 rfl ?_
      exact px_retl dX0_worked_161 (by simp [s_worked, *]) (by rfl)
    | 15, _ =>
      have hx : a = 52 := Int32.toInt_inj.mp (by rw [h]; rfl)
      subst hx
      refine px_tableIn (off := 159) (tgt := 160) dX0_worked_1 (by decide) (by decide) rfl (by decide) ?_
      refine px_lload_n dX0_worked_160 rfl ?_
      exact px_retl dX0_worked_161 (by simp [s_worked, *]) (by rfl)
    | 16, _ =>
      have hx : a = 53 := Int32.toInt_inj.mp (by rw [h]; rfl)
      subst hx
      refine px_tableIn (off := 159) (tgt := 160) dX0_worked_1 (by decide) (by decide) rfl (by decide) ?_
      refine px_lload_n dX0_worked_160 rfl ?_
      exact px_retl dX0_worked_161 (by simp [s_worked, *]) (by rfl)
    | 17, _ =>
      have hx : a = 54 := Int32.toInt_inj.mp (by rw [h]; rfl)
      subst hx
      refine px_tableIn (off := 159) (tgt := 160) dX0_worked_1 (by decide) (by decide) rfl (by decide) ?_
      refine px_lload_n dX0_worked_160 rfl ?_
      exact px_retl dX0_worked_161 (by simp [s_worked, *]) (by rfl)
    | 18, _ =>
      have hx : a = 55 := Int32.toInt_inj.mp (by rw [h]; rfl)
      subst hx
      refine px_tableIn (off := 159) (tgt := 160) dX0_worked_1 (by decide) (by decide) rfl (by decide) ?_
      refine px_lload_n dX0_worked_160 rfl ?_
      exact px_retl dX0_worked_161 (by simp [s_worked, *]) (by rfl)
    | 19, _ =>
      have hx : a = 56 := Int32.toInt_inj.mp (by rw [h]; rfl)
      subst hx
      refine px_tableIn (off := 159) (tgt := 160) dX0_worked_1 (by decide) (by decide) rfl (by decide) ?_
      refine px_lload_n dX0_worked_160 rfl ?_
      exact px_retl dX0_worked_161 (by simp [s_worked, *]) (by rfl)
    | 20, _ =>
      have hx : a = 57 := Int32.toInt_inj.mp (by rw [h]; rfl)
      subst hx
      refine px_tableIn (off := 159) (tgt := 160) dX0_worked_1 (by decide) (by decide) rfl (by decide) ?_
      refine px_lload_n dX0_worked_160 rfl ?_
      exact px_retl dX0_worked_161 (by simp [s_worked, *]) (by rfl)
    | 21, _ =>
      have hx : a = 58 := Int32.toInt_inj.mp (by rw [h]; rfl)
      subst hx
      refine px_tableIn (off := 159) (tgt := 160) dX0_worked_1 (by decide) (by decide) rfl (by decide) ?_
      refine px_lload_n dX0_worked_160 rfl ?_
      exact px_retl dX0_worked_161 (by simp [s_worked, *]) (by rfl)
    | 22, _ =>
      have hx : a = 59 := Int32.toInt_inj.mp (by rw [h]; rfl)
      subst hx
      refine px_tableIn (off := 159) (tgt := 160) dX0_worked_1 (by decide) (by decide) rfl (by decide) ?_
      refine px_lload_n dX0_worked_160 rfl ?_
      exact px_retl dX0_worked_161 (by simp [s_worked, *]) (by rfl)
    | 23, _ =>
      have hx : a = 60 := Int32.toInt_inj.mp (by rw [h]; rfl)
      subst hx
      refine px_tableIn (off := 159) (tgt := 160) dX0_worked_1 (by decide) (by decide) rfl (by decide) ?_
      refine px_lload_n dX0_worked_160 rfl ?_
      exact px_retl dX0_worked_161 (by simp [s_worked, *]) (by rfl)
    | 24, _ =>
      have hx : a = 61 := Int32.toInt_inj.mp (by rw [h]; rfl)
      subst hx
      refine px_tableIn (off := 157) (tgt := 158) dX0_worked_1 (by decide) (by decide) rfl (by decide) ?_
      refine px_lload_n dX0_worked_158 rfl ?_
      exact px_retl dX0_worked_159 (by simp [s_worked, *]) (by rfl)
    | k + 25, hk => exact absurd hk (by omega)
end M10
