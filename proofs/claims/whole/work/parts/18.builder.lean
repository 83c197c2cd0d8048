/-! THE BUILD, told without addresses -/
abbrev aAcc : Type := List (Nat × List Q4)
abbrev BS : Type := AW × (Nat → Bool) × (Nat → Bool) × List Nat × Int32 × Int32 × Int32 × Int32
abbrev BS.A (S : BS) : AW := S.1
abbrev BS.dn (S : BS) : Nat → Bool := S.2.1
abbrev BS.op (S : BS) : Nat → Bool := S.2.2.1
abbrev BS.ord (S : BS) : List Nat := S.2.2.2.1
abbrev BS.st (S : BS) : Int32 := S.2.2.2.2.1
abbrev BS.po (S : BS) : Int32 := S.2.2.2.2.2.1
abbrev BS.sp (S : BS) : Int32 := S.2.2.2.2.2.2.1
abbrev BS.cu (S : BS) : Int32 := S.2.2.2.2.2.2.2
def AW.set (A : AW) (k : Nat) (rs : Option (List Q4)) (tr : Option aAcc) : AW := (A.inn, A.ru, va_up A.rs k rs, va_up A.tr k tr)
def accNote (acc : aAcc) (k : Nat) (r : List Q4) : aAcc := if acc.any (fun x => decide (nI x.1 = nI k)) = true then acc else acc ++ [(k, r)]
/-- what a step's sign works with: or the RUN's end at once -/
def aOpd (A : AW) (dn op : Nat → Bool) (key : Nat) (s : Int32) (m i : Nat) (acc : aAcc) : (aAcc × (List Q4 ⊕ Nat)) ⊕ (aAcc × Int64) :=
  if s_asks s = true then
    (if 8 ≤ m ∧ op m = true then .inl (acc, .inl [(0, nI key, 1, nI i)])
     else if 8 ≤ m ∧ dn m = false then .inl (acc, .inr m)
     else match aHas A m with
       | none => .inl (acc, .inr m)
       | some r => if isF r = true then .inl (accNote acc m r, .inl ((0, nI key, 5, nI i) :: r)) else .inr (accNote acc m r, (toldL r).toInt64))
  else .inr (acc, (nI m).toInt64)
def aPass (s : Int32) (x : Int64) (m : Nat) : Nat := if (s = 63 ∧ x = 0) ∨ (s = 94 ∧ x < 0) then m else 0
def aGo (A : AW) (dn op : Nat → Bool) (key : Nat) : List (Int32 × Nat) → Nat → Int64 → Nat → aAcc → aAcc × (List Q4 ⊕ Nat)
  | [], _, v, _, acc => (acc, .inl (numR v.toInt32))
  | (s, m) :: l, i, v, p + 1, acc => aGo A dn op key l (i + 1) v p acc
  | (s, m) :: l, i, v, 0, acc => match aOpd A dn op key s m i acc with
    | .inl z => z
    | .inr (acc', b) => if s_fsort s v b (s_worked s v b) = 0 then aGo A dn op key l (i + 1) (s_worked s v b) (aPass s (s_worked s v b) m) acc' else (acc', .inl [(0, nI key, s_fsort s v b (s_worked s v b), nI i)])
def isRing (r : List Q4) : Bool := r.any (fun x => decide (x.2.2.1 = 1))
def aFin (S : BS) (key : Nat) (acc : aAcc) (r : List Q4) : BS := (S.A.set key (some r) (if isRing r = true then none else some acc), S.dn, S.op, S.ord, S.st, S.po, S.sp, if oSame (S.A.rs key) (some r) = true then S.cu + 1 else S.cu)
/-- a RUN begins: STARTS -/
def aTry (S : BS) (key : Nat) : aAcc × (List Q4 ⊕ Nat) := aGo S.A S.dn S.op key (S.A.ru key) 0 0 0 []
def aRan (S : BS) (key : Nat) (acc : aAcc) : BS := (S.A.set key (S.A.rs key) (some acc), S.dn, S.op, S.ord, S.st + 1, S.po, S.sp, S.cu)
def aPut (S : BS) : BS := (S.A, S.dn, S.op, S.ord, S.st, S.po + 1, S.sp, S.cu)
def aRun (rec : Nat → BS → BS) (key : Nat) : Nat → BS → BS
  | 0, S => match aTry S key with
    | (acc, .inl r) => aFin (aRan S key acc) key acc r
    | (acc, .inr _) => aRan S key acc
  | k + 1, S => match aTry S key with
    | (acc, .inl r) => aFin (aRan S key acc) key acc r
    | (acc, .inr m) => aRun rec key k (rec m (aPut (aRan S key acc)))
/-- to BUILD a KEY, if there is something to be built -/
def aNeed (rec : Nat → BS → BS) (k : Nat) (S : BS) : BS := if 8 ≤ k ∧ S.dn k = false ∧ S.op k = false then rec k S else S
def aLook (rec : Nat → BS → BS) : aAcc → BS → BS × Bool
  | [], S => (S, true)
  | (k, r) :: l, S => if 8 ≤ k ∧ S.op k = true then (S, false) else
    if oSame (aHas (aNeed rec k S).A k) (some r) = true then aLook rec l (aNeed rec k S) else (aNeed rec k S, false)
def aOpen (S : BS) (k : Nat) : BS := (S.A, S.dn, va_up S.op k true, S.2.2.2)
def aClose (S : BS) (k : Nat) : BS := (S.A, va_up S.dn k true, va_up S.op k false, (if S.ord.length < 16 then S.ord ++ [k] else S.ord), S.2.2.2.2)
def aSpare (S : BS) : BS := (S.A, S.dn, S.op, S.ord, S.st, S.po, S.sp + 1, S.cu)
def aEmpty (S : BS) (k : Nat) : BS := (S.A.set k (some (emR k)) (S.A.tr k), S.2)
def aBuild : Nat → Nat → BS → BS
  | 0, _, S => S
  | F + 1, k, S => aClose (
      if (S.A.ru k).isEmpty = true then aEmpty (aOpen S k) k
      else match S.A.tr k with
        | some T => if (aLook (aBuild F) T (aOpen S k)).2 = true then aSpare (aLook (aBuild F) T (aOpen S k)).1 else aRun (aNeed (aBuild F)) k 16 (aLook (aBuild F) T (aOpen S k)).1
        | none => aRun (aNeed (aBuild F)) k 16 (aOpen S k)) k
/-! sets as bits -/
def IsSet (m : Int32) (S : Nat → Bool) : Prop := ∀ t, t < 16 → s_isIn m (nI (8 + t)) = S (8 + t)
theorem bitOf_t {t : Nat} (h : t < 16) : s_bitOf (nI (8 + t)) = (1 : Int32) <<< (nI t &&& 31) := by
  unfold s_bitOf
  rw [if_pos (inT_t h), sub8 h]
theorem bit_ne {t u : Nat} (ht : t < 16) (hu : u < 16) (h : t ≠ u) : s_bitOf (nI (8 + t)) &&& s_bitOf (nI (8 + u)) = 0 := by
  rw [bitOf_t ht, bitOf_t hu]
  revert h
  have key : ∀ t : Fin 16, ∀ u : Fin 16, t.val ≠ u.val → ((1 : Int32) <<< (nI t.val &&& 31)) &&& ((1 : Int32) <<< (nI u.val &&& 31)) = 0 := by decide +kernel
  exact fun h => key ⟨t, ht⟩ ⟨u, hu⟩ h
theorem bit_self {t : Nat} (ht : t < 16) : ¬ s_bitOf (nI (8 + t)) = 0 := by
  rw [bitOf_t ht]
  have key : ∀ t : Fin 16, ¬ ((1 : Int32) <<< (nI t.val &&& 31)) = 0 := by decide +kernel
  exact key ⟨t, ht⟩
theorem i32_ext {x y : Int32} (h : x.toBitVec = y.toBitVec) : x = y := Int32.toBitVec_inj.mp h
theorem i32_or_and (x y z : Int32) : (x ||| y) &&& z = (x &&& z) ||| (y &&& z) := by
  apply i32_ext
  simp only [Int32.toBitVec_and, Int32.toBitVec_or]
  ext i hi
  simp only [BitVec.getElem_and, BitVec.getElem_or]
  cases x.toBitVec[i] <;> cases y.toBitVec[i] <;> cases z.toBitVec[i] <;> rfl
theorem i32_or_0 {x y : Int32} : x ||| y = 0 ↔ x = 0 ∧ y = 0 := by
  constructor
  · intro h
    have h1 : x.toBitVec ||| y.toBitVec = 0#32 := congrArg Int32.toBitVec h
    have h2 : x.toBitVec = 0#32 ∧ y.toBitVec = 0#32 := by
      refine ⟨?_, ?_⟩ <;> ext i hi <;> (have h3 := congrArg (fun z : BitVec 32 => z[i]) h1; simp at h3 ⊢) <;> simp [h3]
    exact ⟨i32_ext h2.1, i32_ext h2.2⟩
  · rintro ⟨rfl, rfl⟩; rfl
theorem i32_and_not (x y z : Int32) (h : y &&& z = 0) : (x &&& (y ^^^ -1)) &&& z = x &&& z := by
  apply i32_ext
  have h1 : y.toBitVec &&& z.toBitVec = 0#32 := congrArg Int32.toBitVec h
  simp only [Int32.toBitVec_and, Int32.toBitVec_xor]
  ext i hi
  have h3 := congrArg (fun w : BitVec 32 => w[i]) h1
  simp only [BitVec.getElem_and, BitVec.getElem_zero] at h3
  have h4 : (-1 : Int32).toBitVec = BitVec.allOnes 32 := rfl
  simp only [BitVec.getElem_and, BitVec.getElem_xor, h4, BitVec.getElem_allOnes]
  cases hy : y.toBitVec[i] <;> cases hz : z.toBitVec[i] <;> simp_all
theorem i32_and_not_self (x y : Int32) : (x &&& (y ^^^ -1)) &&& y = 0 := by
  apply i32_ext
  have h4 : (-1 : Int32).toBitVec = BitVec.allOnes 32 := rfl
  simp only [Int32.toBitVec_and, Int32.toBitVec_xor, h4]
  show _ = 0#32
  ext i hi
  simp only [BitVec.getElem_and, BitVec.getElem_xor, BitVec.getElem_allOnes, BitVec.getElem_zero]
  cases y.toBitVec[i] <;> simp
theorem i32_and_self (x : Int32) : x &&& x = x := by
  apply i32_ext
  simp
theorem IsSet.zero : IsSet 0 (fun _ => false) := by
  intro t ht
  have : (0 : Int32) &&& s_bitOf (nI (8 + t)) = 0 := by apply i32_ext; simp
  simp [s_isIn, this]
theorem IsSet.or {m : Int32} {S : Nat → Bool} (h : IsSet m S) {t : Nat} (ht : t < 16) : IsSet (m ||| s_bitOf (nI (8 + t))) (va_up S (8 + t) true) := by
  intro u hu
  by_cases hut : u = t
  · subst hut
    rw [va_up_self, s_isIn, i32_or_and, i32_and_self]
    simp only [Bool.not_eq_true', decide_eq_false_iff_not]
    intro e
    exact bit_self hu (i32_or_0.mp e).2
  · rw [va_up_ne _ _ (by omega), ← h u hu, s_isIn, s_isIn, i32_or_and, bit_ne ht hu (Ne.symm hut)]
    congr 2
    rw [i32_or_0]
    simp
theorem IsSet.andn {m : Int32} {S : Nat → Bool} (h : IsSet m S) {t : Nat} (ht : t < 16) : IsSet (m &&& (s_bitOf (nI (8 + t)) ^^^ -1)) (va_up S (8 + t) false) := by
  intro u hu
  by_cases hut : u = t
  · subst hut
    rw [va_up_self, s_isIn, i32_and_not_self]
    rfl
  · rw [va_up_ne _ _ (by omega), ← h u hu, s_isIn, s_isIn, i32_and_not _ _ _ (bit_ne ht hu (Ne.symm hut))]
theorem IsSet.union {m k : Int32} {S T : Nat → Bool} (h : IsSet m S) (h2 : IsSet k T) {t : Nat} (ht : t < 16) : s_isIn (m ||| k) (nI (8 + t)) = (S (8 + t) || T (8 + t)) := by
  rw [← h t ht, ← h2 t ht, s_isIn, s_isIn, s_isIn, i32_or_and]
  by_cases h3 : m &&& s_bitOf (nI (8 + t)) = 0 <;> by_cases h4 : k &&& s_bitOf (nI (8 + t)) = 0 <;> simp [i32_or_0, h3, h4]
theorem isIn_i {m : Int32} {k : Nat} (h : k < 8) : s_isIn m (nI k) = false := by
  have : s_bitOf (nI k) = 0 := by unfold s_bitOf; rw [if_neg (by rw [inT_i h]; decide)]
  have h2 : m &&& (0 : Int32) = 0 := by apply i32_ext; simp
  rw [s_isIn, this, h2]
  rfl
/-! a bit looked at by a shift -/
theorem bk_key : ∀ t : Fin 16, ∀ i : Fin 32, ((1 : Int32) <<< (nI t.val &&& 31)).toBitVec.getLsbD i.val = decide (i.val = t.val) := by decide +kernel
theorem bk_one : ∀ i : Fin 32, (1 : Int32).toBitVec.getLsbD i.val = decide (i.val = 0) := by decide +kernel
theorem bk_l : ∀ n, n < 32 → ((nI n &&& 31).toBitVec.smod 32).toNat = n := by decide +kernel
theorem bk_and {x m : Int32} {t : Nat} (ht : t < 32) (hm : ∀ i, i < 32 → m.toBitVec.getLsbD i = decide (i = t)) : x &&& m = 0 ↔ x.toBitVec.getLsbD t = false := by
  constructor
  · intro h
    have h1 : (x &&& m).toBitVec.getLsbD t = (0 : Int32).toBitVec.getLsbD t := by rw [h]
    rw [Int32.toBitVec_and, BitVec.getLsbD_and, hm t ht, decide_eq_true rfl, Bool.and_true] at h1
    rw [h1]
    exact BitVec.getLsbD_zero
  · intro h
    apply i32_ext
    apply BitVec.eq_of_getLsbD_eq
    intro i hi
    rw [Int32.toBitVec_and, BitVec.getLsbD_and, hm i hi]
    have h0 : (0 : Int32).toBitVec.getLsbD i = false := BitVec.getLsbD_zero
    rw [h0]
    by_cases hit : i = t
    · rw [hit, h]; rfl
    · rw [decide_eq_false hit, Bool.and_false]
theorem bk_and1 {x : Int32} : x &&& 1 = 1 ↔ x.toBitVec.getLsbD 0 = true := by
  have h0 : (1 : Int32).toBitVec.getLsbD 0 = true := by decide
  constructor
  · intro h
    have h1 : (x &&& 1).toBitVec.getLsbD 0 = (1 : Int32).toBitVec.getLsbD 0 := by rw [h]
    rw [Int32.toBitVec_and, BitVec.getLsbD_and, h0, Bool.and_true] at h1
    exact h1
  · intro h
    apply i32_ext
    apply BitVec.eq_of_getLsbD_eq
    intro i hi
    rw [Int32.toBitVec_and, BitVec.getLsbD_and, bk_one ⟨i, hi⟩]
    dsimp only
    by_cases hi0 : i = 0
    · subst hi0; rw [h]; rfl
    · rw [decide_eq_false hi0, Bool.and_false]
theorem bk_shr {t : Nat} (ht : t < 16) (x : Int32) : (x >>> (nI t &&& 31)).toBitVec.getLsbD 0 = x.toBitVec.getLsbD t := by
  rw [Int32.toBitVec_shiftRight]
  show (x.toBitVec.sshiftRight ((nI t &&& 31).toBitVec.smod 32).toNat).getLsbD 0 = _
  rw [bk_l t (by omega), BitVec.getLsbD_sshiftRight]
  have h1 : ¬ 32 ≤ t := by omega
  simp [h1]
theorem bk_isIn (a k : Int32) : s_isIn a k = (s_isTarget k && decide ((a >>> ((k - 8) &&& 31)) &&& 1 = 1)) := by
  by_cases h : s_isTarget k = true
  · obtain ⟨t, ht, rfl⟩ := inT.mp h
    rw [h, Bool.true_and, s_isIn, bitOf_t ht, sub8 ht]
    have hl := bk_and (x := a) (m := (1 : Int32) <<< (nI t &&& 31)) (t := t) (by omega) (fun i hi => bk_key ⟨t, ht⟩ ⟨i, hi⟩)
    have hr := bk_and1 (x := a >>> (nI t &&& 31))
    rw [bk_shr ht] at hr
    cases hb : a.toBitVec.getLsbD t with
    | false =>
      rw [hb] at hl hr
      rw [decide_eq_true (hl.mpr rfl), decide_eq_false (fun e => Bool.false_ne_true (hr.mp e))]
      rfl
    | true =>
      rw [hb] at hl hr
      rw [decide_eq_false (fun e => Bool.false_ne_true (hl.mp e).symm), decide_eq_true (hr.mpr rfl)]
      rfl
  · have h0 : s_bitOf k = 0 := by unfold s_bitOf; rw [if_neg h]
    have h2 : a &&& (0 : Int32) = 0 := by apply i32_ext; simp
    rw [Bool.eq_false_iff.mpr h, Bool.false_and, s_isIn, h0, h2]
    rfl
/-! Builder -/
def bcell (b : Nat) (cn : Nat) (dn op sb st po sp cu wt : Int32) : va_E := .inr (0, [.ref (b + 1), .ref (b + 110), .int (nI cn), .int dn, .int op, .int sb, .int st, .int po, .int sp, .int cu, .int wt])
def IsB (f : Nat → Option va_E) (b : Nat) (sb : Int32) (S : BS) : Prop :=
  ∃ (dn op wt : Int32) (dk : Nat → Int32), f b = some (bcell b S.ord.length dn op sb S.st S.po S.sp S.cu wt) ∧ f (b + 110) = some (.inl (0, 16, .inl dk)) ∧ S.ord.length ≤ 16 ∧ IsSet dn S.dn ∧ IsSet op S.op ∧ (∀ (i x : Nat), S.ord[i]? = some x → dk i = nI x) ∧ IsW f (b + 1) S.A
section M18
variable {B : Nat} {D : va_G} {n w : Nat} {f : Nat → Option va_E} {b : Nat} {cn : Nat} {dn op sb st po sp cu wt : Int32} {dk : Nat → Int32}
theorem c_X0_isIn (a k : Int32) : CT B D 2 mX0_isIn [.int a, .int k] (n, w, f) (some (.int (bi (s_isIn a k)))) (n, w, f) := by
  rw [bk_isIn a k]
  refine CT.of [some (.int a), some (.int k)] rfl (Nat.le_of_ble_eq_true rfl) pl_X0 (bi_01 _) ?_
  refine px_iload_n dX0_isIn_0 rfl ?_
  refine px_callSN1 (ν := mX6_isTarget) lk_X0_178 st_X6_isTarget mok_X6_isTarget dX0_isIn_1 (c_X6_isTarget k) rfl rfl (by omega) (by simp) ?_
  refine px_ifb_eq (tgt := 23) dX0_isIn_4 (by decide) (fun hc4 => ?_) (fun hc4 => ?_)
  · refine px_iconst (v := 0) dX0_isIn_23 (by decide) ?_
    exact px_reti dX0_isIn_24 (by first | (simp [bi, *]; done) | (simp_all [bi]; done)) (by rfl)
  · refine px_iload_n dX0_isIn_7 rfl ?_
    refine px_iload_n dX0_isIn_8 rfl ?_
    refine px_bipush (v := 8) dX0_isIn_9 (by decide) ?_
    refine px_isub dX0_isIn_11 ?_
    refine px_ishr dX0_isIn_12 ?_
    refine px_iconst (v := 1) dX0_isIn_13 (by decide) ?_
    refine px_iand dX0_isIn_14 ?_
    refine px_iconst (v := 1) dX0_isIn_15 (by decide) ?_
    refine px_icmp_ne (tgt := 23) dX0_isIn_16 (by decide) (fun hc16 => ?_) (fun hc16 => ?_)
    · refine px_iconst (v := 0) dX0_isIn_23 (by decide) ?_
      exact px_reti dX0_isIn_24 (by first | (simp [bi, *]; done) | (simp_all [bi]; done)) (by rfl)
    · refine px_iconst (v := 1) dX0_isIn_19 (by decide) ?_
      refine px_goto (tgt := 24) dX0_isIn_20 (by decide) ?_
      exact px_reti dX0_isIn_24 (by first | (simp [bi, *]; done) | (simp_all [bi]; done)) (by rfl)

theorem c_X0_forgetBuild (h : f b = some (bcell b cn dn op sb st po sp cu wt)) : CT B D 0 mX0_forgetBuild [.ref b] (n, w, f) none (n, w, va_up f b (some (bcell b 0 0 0 (-5) st po sp cu wt))) := by
  refine CT.of [some (.ref b)] rfl (Nat.le_of_ble_eq_true rfl) pl_X0 trivial ?_
  refine px_aload_n dX0_forgetBuild_0 rfl ?_
  refine px_iconst (v := 0) dX0_forgetBuild_1 (by decide) ?_
  refine px_putfield fp_X0_26 dX0_forgetBuild_2 (by first | exact h | exact va_up_self _ _ _) rfl rfl (by simp) ?_
  refine px_aload_n dX0_forgetBuild_5 rfl ?_
  refine px_iconst (v := 0) dX0_forgetBuild_6 (by decide) ?_
  refine px_putfield fp_X0_29 dX0_forgetBuild_7 (by first | exact h | exact va_up_self _ _ _) rfl rfl (by simp) ?_
  refine px_aload_n dX0_forgetBuild_10 rfl ?_
  refine px_iconst (v := 0) dX0_forgetBuild_11 (by decide) ?_
  refine px_putfield fp_X0_32 dX0_forgetBuild_12 (by first | exact h | exact va_up_self _ _ _) rfl rfl (by simp) ?_
  refine px_aload_n dX0_forgetBuild_15 rfl ?_
  refine px_bipush (v := (-5)) dX0_forgetBuild_16 (by decide) ?_
  refine px_putfield fp_X0_22 dX0_forgetBuild_18 (by first | exact h | exact va_up_self _ _ _) rfl rfl (by simp) ?_
  exact px_retv dX0_forgetBuild_21 rfl (by simp only [bx_uu]; rfl)

theorem c_X0_doneAt (h : f b = some (bcell b cn dn op sb st po sp cu wt)) (hk : f (b + 110) = some (.inl (0, 16, .inl dk))) (hc : cn ≤ 16) (i : Int32) : CT B D 0 mX0_doneAt [.ref b, .int i] (n, w, f) (some (.int (if i < 0 ∨ nI cn ≤ i then -5 else dk i.toNatClampNeg))) (n, w, f) := by
  refine CT.of [some (.ref b), some (.int i)] rfl (Nat.le_of_ble_eq_true rfl) pl_X0 trivial ?_
  refine px_iload_n dX0_doneAt_0 rfl ?_
  refine px_if_lt (tgt := 21) dX0_doneAt_1 (by decide) (fun hc1 => ?_) (fun hc1 => ?_)
  · refine px_bipush (v := (-5)) dX0_doneAt_21 (by decide) ?_
    exact px_reti dX0_doneAt_23 (by simp [*]) (by rfl)
  · refine px_iload_n dX0_doneAt_4 rfl ?_
    refine px_aload_n dX0_doneAt_5 rfl ?_
    refine px_getfield fl_X0_26 dX0_doneAt_6 (by first | exact h | exact hk) (by rfl) ?_
    refine px_icmp_ge (tgt := 21) dX0_doneAt_9 (by decide) (fun hc9 => ?_) (fun hc9 => ?_)
    · refine px_bipush (v := (-5)) dX0_doneAt_21 (by decide) ?_
      exact px_reti dX0_doneAt_23 (by simp [*]) (by rfl)
    · refine px_aload_n dX0_doneAt_12 rfl ?_
      refine px_getfield fl_X0_18 dX0_doneAt_13 (by first | exact h | exact hk) (by rfl) ?_
      refine px_iload_n dX0_doneAt_16 rfl ?_
      refine px_iaload dX0_doneAt_17 (by first | exact h | exact hk) (by exact ixb (by assumption) (by assumption) (by rw [nI_toInt (by omega)]; omega)) ?_
      refine px_goto (tgt := 23) dX0_doneAt_18 (by decide) ?_
      exact px_reti dX0_doneAt_23 (by simp [*]) (by rfl)

theorem c_X0_noteDone (h : f b = some (bcell b cn dn op sb st po sp cu wt)) (hk : f (b + 110) = some (.inl (0, 16, .inl dk))) (hc : cn < 16) (key : Int32) : CT B D 2 mX0_noteDone [.ref b, .int key] (n, w, f) none (n, w, va_up (va_up f (b + 110) (some (.inl (0, 16, .inl (va_up dk cn key))))) b (some (bcell b (cn + 1) (dn ||| s_bitOf key) op sb st po sp cu wt))) := by
  refine CT.of [some (.ref b), some (.int key)] rfl (Nat.le_of_ble_eq_true rfl) pl_X0 trivial ?_
  refine px_aload_n dX0_noteDone_0 rfl ?_
  refine px_getfield fl_X0_26 dX0_noteDone_1 (by first | exact h | exact hk | (rw [va_up_ne _ _ (by omega)]; exact h) | exact va_up_self _ _ _) (by rfl) ?_
  refine px_if_lt (tgt := 36) dX0_noteDone_4 (by decide) (fun hc4 => ?_) (fun hc4 => ?_)
  · exact absurd hc4 (nI_pos (by omega))
  · refine px_aload_n dX0_noteDone_7 rfl ?_
    refine px_getfield fl_X0_26 dX0_noteDone_8 (by first | exact h | exact hk | (rw [va_up_ne _ _ (by omega)]; exact h) | exact va_up_self _ _ _) (by rfl) ?_
    refine px_bipush (v := 16) dX0_noteDone_11 (by decide) ?_
    refine px_icmp_ge (tgt := 36) dX0_noteDone_13 (by decide) (fun hc13 => ?_) (fun hc13 => ?_)
    · exact absurd hc13 (nI_ge (a := cn) (b := 16) hc (by omega))
    · refine px_aload_n dX0_noteDone_16 rfl ?_
      refine px_getfield fl_X0_18 dX0_noteDone_17 (by first | exact h | exact hk | (rw [va_up_ne _ _ (by omega)]; exact h) | exact va_up_self _ _ _) (by rfl) ?_
      refine px_aload_n dX0_noteDone_20 rfl ?_
      refine px_getfield fl_X0_26 dX0_noteDone_21 (by first | exact h | exact hk | (rw [va_up_ne _ _ (by omega)]; exact h) | exact va_up_self _ _ _) (by rfl) ?_
      refine px_iload_n dX0_noteDone_24 rfl ?_
      refine px_iastore dX0_noteDone_25 (by first | exact h | exact hk | (rw [va_up_ne _ _ (by omega)]; exact h) | exact va_up_self _ _ _) (by exact ixn hc (by omega)) ?_
      refine px_aload_n dX0_noteDone_26 rfl ?_
      refine px_dup dX0_noteDone_27 rfl ?_
      refine px_getfield fl_X0_26 dX0_noteDone_28 (by first | exact h | exact hk | (rw [va_up_ne _ _ (by omega)]; exact h) | exact va_up_self _ _ _) (by rfl) ?_
      refine px_iconst (v := 1) dX0_noteDone_31 (by decide) ?_
      refine px_iadd dX0_noteDone_32 ?_
      refine px_putfield fp_X0_26 dX0_noteDone_33 (by first | exact h | exact hk | (rw [va_up_ne _ _ (by omega)]; exact h) | exact va_up_self _ _ _) rfl rfl (by simp) ?_
      refine px_aload_n dX0_noteDone_36 rfl ?_
      refine px_dup dX0_noteDone_37 rfl ?_
      refine px_getfield fl_X0_29 dX0_noteDone_38 (by first | exact h | exact hk | (rw [va_up_ne _ _ (by omega)]; exact h) | exact va_up_self _ _ _) (by rfl) ?_
      refine px_iload_n dX0_noteDone_41 rfl ?_
      refine px_callS1 (ν := mX0_bitOf) lk_X0_57 st_X0_bitOf mok_X0_bitOf dX0_noteDone_42 (c_X0_bitOf key) rfl rfl (by omega) (by simp) ?_
      refine px_ior dX0_noteDone_45 ?_
      refine px_putfield fp_X0_29 dX0_noteDone_46 (by first | exact h | exact hk | (rw [va_up_ne _ _ (by omega)]; exact h) | exact va_up_self _ _ _) rfl rfl (by simp) ?_
      exact px_retv dX0_noteDone_49 rfl (by simp only [bx_uu]; rw [nI_clamp (by omega)]; simp only [bcell, nI_succ]; rfl)

theorem c_X0_noteDone_full (h : f b = some (bcell b cn dn op sb st po sp cu wt)) (hc : cn = 16) (key : Int32) : CT B D 2 mX0_noteDone [.ref b, .int key] (n, w, f) none (n, w, va_up f b (some (bcell b cn (dn ||| s_bitOf key) op sb st po sp cu wt))) := by
  subst hc
  refine CT.of [some (.ref b), some (.int key)] rfl (Nat.le_of_ble_eq_true rfl) pl_X0 trivial ?_
  refine px_aload_n dX0_noteDone_0 rfl ?_
  refine px_getfield fl_X0_26 dX0_noteDone_1 (by first | exact h) (by rfl) ?_
  refine px_if_lt (tgt := 36) dX0_noteDone_4 (by decide) (fun hc4 => ?_) (fun hc4 => ?_)
  · exact absurd hc4 (by decide)
  · refine px_aload_n dX0_noteDone_7 rfl ?_
    refine px_getfield fl_X0_26 dX0_noteDone_8 (by first | exact h) (by rfl) ?_
    refine px_bipush (v := 16) dX0_noteDone_11 (by decide) ?_
    refine px_icmp_ge (tgt := 36) dX0_noteDone_13 (by decide) (fun hc13 => ?_) (fun hc13 => ?_)
    · refine px_aload_n dX0_noteDone_36 rfl ?_
      refine px_dup dX0_noteDone_37 rfl ?_
      refine px_getfield fl_X0_29 dX0_noteDone_38 (by first | exact h) (by rfl) ?_
      refine px_iload_n dX0_noteDone_41 rfl ?_
      refine px_callS1 (ν := mX0_bitOf) lk_X0_57 st_X0_bitOf mok_X0_bitOf dX0_noteDone_42 (c_X0_bitOf key) rfl rfl (by omega) (by simp) ?_
      refine px_ior dX0_noteDone_45 ?_
      refine px_putfield fp_X0_29 dX0_noteDone_46 (by first | exact h) rfl rfl (by simp) ?_
      exact px_retv dX0_noteDone_49 rfl (by rfl)
    · exact absurd (by decide) hc13

end M18
