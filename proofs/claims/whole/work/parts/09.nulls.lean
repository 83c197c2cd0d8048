/-! references that may be null -/
theorem rf_none : va_rf none = .null := rfl
theorem rf_some (a : Nat) : va_rf (some a) = .ref a := rfl
theorem cat_rf (q : Option Nat) : (va_rf q).category = 1 := by cases q <;> rfl
theorem cat_int (x : Int32) : (Value.int x).category = 1 := rfl
theorem cat_long (x : Int64) : (Value.long x).category = 2 := rfl
theorem cat_null : Value.null.category = 1 := rfl
theorem cat_ref (a : Nat) : (Value.ref a).category = 1 := rfl
theorem nl_rf (q : Option Nat) : pm_nl (some (va_rf q)) = true := by cases q <;> rfl
theorem rok_rf (C : String) (q : Option Nat) : pm_rok (some (.object C)) (some (va_rf q)) := by cases q <;> trivial
section PQ
variable {B : Nat} {D : va_G} {d : Nat} {μ : pm_M} {pc : Nat} {ls : pm_Ls} {st : List Value} {h : pm_H} {r : Option Value} {h1 : pm_H}
theorem px_aload_nQ {k : Fin 4} {q : Option Nat} (hd : decode μ.2.1 pc = .ok (.aload_n k, 1)) (hv : ls[(k : Nat)]? = some (some (va_rf q))) (kk : EX B D d μ (pc + 1) ls (va_rf q :: st) h r h1) : EX B D d μ pc ls st h r h1 := by
  cases q with
  | none => exact px_aload_nN hd hv kk
  | some a => exact px_aload_n hd hv kk
theorem px_aloadQ {i : Nat} {q : Option Nat} (hd : decode μ.2.1 pc = .ok (.aload i, 2)) (hv : ls[i]? = some (some (va_rf q))) (kk : EX B D d μ (pc + 2) ls (va_rf q :: st) h r h1) : EX B D d μ pc ls st h r h1 := by
  cases q with
  | none => exact px_aloadN hd hv kk
  | some a => exact px_aload hd hv kk
theorem px_ifnull_Q {q : Option Nat} {off : Int} {tgt : Nat} (hd : decode μ.2.1 pc = .ok (.ifnull off, 3)) (ht : (pc : Int) + off = (tgt : Int)) (kt : q = none → EX B D d μ tgt ls st h r h1) (kf : ∀ a, q = some a → EX B D d μ (pc + 3) ls st h r h1) : EX B D d μ pc ls (va_rf q :: st) h r h1 := by
  cases q with
  | none => exact px_ifnull_t hd ht (kt rfl)
  | some a => exact px_ifnull_f hd (kf a rfl)
theorem px_ifnonnull_Q {q : Option Nat} {off : Int} {tgt : Nat} (hd : decode μ.2.1 pc = .ok (.ifnonnull off, 3)) (ht : (pc : Int) + off = (tgt : Int)) (kt : ∀ a, q = some a → EX B D d μ tgt ls st h r h1) (kf : q = none → EX B D d μ (pc + 3) ls st h r h1) : EX B D d μ pc ls (va_rf q :: st) h r h1 := by
  cases q with
  | none => exact px_ifnonnull_f hd (kf rfl)
  | some a => exact px_ifnonnull_t hd ht (kt a rfl)
theorem px_astoreQ0 {c : Option Value} {t : pm_Ls} {q : Option Nat} (hd : decode μ.2.1 pc = .ok (.astore_n 0, 1)) (kk : EX B D d μ (pc + 1) (some (va_rf q) :: t) st h r h1) : EX B D d μ pc (c :: t) (va_rf q :: st) h r h1 := by
  cases q with
  | none => exact px_astoreN0 hd kk
  | some a => exact px_astore0 hd kk
theorem px_astoreQ1 {a0 : Option Value} {c : Option Value} {t : pm_Ls} {q : Option Nat} (hb : pm_nl a0 = true) (hd : decode μ.2.1 pc = .ok (.astore_n 1, 1)) (kk : EX B D d μ (pc + 1) (a0 :: some (va_rf q) :: t) st h r h1) : EX B D d μ pc (a0 :: c :: t) (va_rf q :: st) h r h1 := by
  cases q with
  | none => exact px_astoreN1 hb hd kk
  | some a => exact px_astore1 hb hd kk
theorem px_astoreQ2 {a0 a1 : Option Value} {c : Option Value} {t : pm_Ls} {q : Option Nat} (hb : pm_nl a1 = true) (hd : decode μ.2.1 pc = .ok (.astore_n 2, 1)) (kk : EX B D d μ (pc + 1) (a0 :: a1 :: some (va_rf q) :: t) st h r h1) : EX B D d μ pc (a0 :: a1 :: c :: t) (va_rf q :: st) h r h1 := by
  cases q with
  | none => exact px_astoreN2 hb hd kk
  | some a => exact px_astore2 hb hd kk
theorem px_astoreQ3 {a0 a1 a2 : Option Value} {c : Option Value} {t : pm_Ls} {q : Option Nat} (hb : pm_nl a2 = true) (hd : decode μ.2.1 pc = .ok (.astore_n 3, 1)) (kk : EX B D d μ (pc + 1) (a0 :: a1 :: a2 :: some (va_rf q) :: t) st h r h1) : EX B D d μ pc (a0 :: a1 :: a2 :: c :: t) (va_rf q :: st) h r h1 := by
  cases q with
  | none => exact px_astoreN3 hb hd kk
  | some a => exact px_astore3 hb hd kk
theorem px_astoreQ4 {a0 a1 a2 a3 : Option Value} {c : Option Value} {t : pm_Ls} {q : Option Nat} (hb : pm_nl a3 = true) (hd : decode μ.2.1 pc = .ok (.astore 4, 2)) (kk : EX B D d μ (pc + 2) (a0 :: a1 :: a2 :: a3 :: some (va_rf q) :: t) st h r h1) : EX B D d μ pc (a0 :: a1 :: a2 :: a3 :: c :: t) (va_rf q :: st) h r h1 := by
  cases q with
  | none => exact px_astoreN4 hb hd kk
  | some a => exact px_astore4 hb hd kk
theorem px_astoreQ5 {a0 a1 a2 a3 a4 : Option Value} {c : Option Value} {t : pm_Ls} {q : Option Nat} (hb : pm_nl a4 = true) (hd : decode μ.2.1 pc = .ok (.astore 5, 2)) (kk : EX B D d μ (pc + 2) (a0 :: a1 :: a2 :: a3 :: a4 :: some (va_rf q) :: t) st h r h1) : EX B D d μ pc (a0 :: a1 :: a2 :: a3 :: a4 :: c :: t) (va_rf q :: st) h r h1 := by
  cases q with
  | none => exact px_astoreN5 hb hd kk
  | some a => exact px_astore5 hb hd kk
theorem px_astoreQ6 {a0 a1 a2 a3 a4 a5 : Option Value} {c : Option Value} {t : pm_Ls} {q : Option Nat} (hb : pm_nl a5 = true) (hd : decode μ.2.1 pc = .ok (.astore 6, 2)) (kk : EX B D d μ (pc + 2) (a0 :: a1 :: a2 :: a3 :: a4 :: a5 :: some (va_rf q) :: t) st h r h1) : EX B D d μ pc (a0 :: a1 :: a2 :: a3 :: a4 :: a5 :: c :: t) (va_rf q :: st) h r h1 := by
  cases q with
  | none => exact px_astoreN6 hb hd kk
  | some a => exact px_astore6 hb hd kk
theorem px_astoreQ7 {a0 a1 a2 a3 a4 a5 a6 : Option Value} {c : Option Value} {t : pm_Ls} {q : Option Nat} (hb : pm_nl a6 = true) (hd : decode μ.2.1 pc = .ok (.astore 7, 2)) (kk : EX B D d μ (pc + 2) (a0 :: a1 :: a2 :: a3 :: a4 :: a5 :: a6 :: some (va_rf q) :: t) st h r h1) : EX B D d μ pc (a0 :: a1 :: a2 :: a3 :: a4 :: a5 :: a6 :: c :: t) (va_rf q :: st) h r h1 := by
  cases q with
  | none => exact px_astoreN7 hb hd kk
  | some a => exact px_astore7 hb hd kk
theorem px_astoreQ8 {a0 a1 a2 a3 a4 a5 a6 a7 : Option Value} {c : Option Value} {t : pm_Ls} {q : Option Nat} (hb : pm_nl a7 = true) (hd : decode μ.2.1 pc = .ok (.astore 8, 2)) (kk : EX B D d μ (pc + 2) (a0 :: a1 :: a2 :: a3 :: a4 :: a5 :: a6 :: a7 :: some (va_rf q) :: t) st h r h1) : EX B D d μ pc (a0 :: a1 :: a2 :: a3 :: a4 :: a5 :: a6 :: a7 :: c :: t) (va_rf q :: st) h r h1 := by
  cases q with
  | none => exact px_astoreN8 hb hd kk
  | some a => exact px_astore8 hb hd kk
theorem px_astoreQ9 {a0 a1 a2 a3 a4 a5 a6 a7 a8 : Option Value} {c : Option Value} {t : pm_Ls} {q : Option Nat} (hb : pm_nl a8 = true) (hd : decode μ.2.1 pc = .ok (.astore 9, 2)) (kk : EX B D d μ (pc + 2) (a0 :: a1 :: a2 :: a3 :: a4 :: a5 :: a6 :: a7 :: a8 :: some (va_rf q) :: t) st h r h1) : EX B D d μ pc (a0 :: a1 :: a2 :: a3 :: a4 :: a5 :: a6 :: a7 :: a8 :: c :: t) (va_rf q :: st) h r h1 := by
  cases q with
  | none => exact px_astoreN9 hb hd kk
  | some a => exact px_astore9 hb hd kk
theorem px_mmax {i : Nat} {x y : Int32} (hl : Cond.methodLink μ.1.cls i yJ9_max_7cf53 ∈ pm_gw) (hd0 : 1 ≤ d) (hst : st.length ≤ 4) (hd : decode μ.2.1 pc = .ok (.invokestatic i, 3)) (kk : EX B D d μ (pc + 3) ls (.int (if x < y then y else x) :: st) h r h1) : EX B D d μ pc ls (.int y :: .int x :: st) h r h1 := by
  refine ⟨kk.1, fun p l e R s m args below meth c H locs lsA n0 w0 Q cx hl' hR hlo e1 e2 e3 e4 hq => ?_⟩
  have hts := cx.2.2.2.2.2.1
  have h8 := pm_rest4 hst
  have hR1 := cx.2.2.2.2.2.2.2.2.2.1
  have hR2 := cx.2.2.2.2.2.2.2.2.2.2
  have hm := kk.1
  have hcode : (Cond.code Lib.Math.max.name Lib.Math.max.code 2 (some .int)).before args s = true := hts _ co_J9_max_7cf53
  exact va_mmax cx.1 cx.2.1 (by rw [cx.2.2.2.1]; exact hl'.1.symm) cx.2.2.2.2.1 (hts _ hl) (hts _ st_J9_max_7cf53) (hts _ ini_RJ9) hcode (by omega) (by omega) (by omega) (by omega) hd (kk.2 p l e R s m args below meth c H locs lsA n0 w0 Q cx hl' hR hlo e1 e2 e3 e4 hq)
theorem px_mmin {i : Nat} {x y : Int32} (hl : Cond.methodLink μ.1.cls i yJ9_min_7cf53 ∈ pm_gw) (hd0 : 1 ≤ d) (hst : st.length ≤ 4) (hd : decode μ.2.1 pc = .ok (.invokestatic i, 3)) (kk : EX B D d μ (pc + 3) ls (.int (if y < x then y else x) :: st) h r h1) : EX B D d μ pc ls (.int y :: .int x :: st) h r h1 := by
  refine ⟨kk.1, fun p l e R s m args below meth c H locs lsA n0 w0 Q cx hl' hR hlo e1 e2 e3 e4 hq => ?_⟩
  have hts := cx.2.2.2.2.2.1
  have h8 := pm_rest4 hst
  have hR1 := cx.2.2.2.2.2.2.2.2.2.1
  have hR2 := cx.2.2.2.2.2.2.2.2.2.2
  have hm := kk.1
  have hcode : (Cond.code Lib.Math.min.name Lib.Math.min.code 2 (some .int)).before args s = true := hts _ co_J9_min_7cf53
  exact va_mmin cx.1 cx.2.1 (by rw [cx.2.2.2.1]; exact hl'.1.symm) cx.2.2.2.2.1 (hts _ hl) (hts _ st_J9_min_7cf53) (hts _ ini_RJ9) hcode (by omega) (by omega) (by omega) (by omega) hd (kk.2 p l e R s m args below meth c H locs lsA n0 w0 Q cx hl' hR hlo e1 e2 e3 e4 hq)
end PQ
theorem pl_X0 : plainName RX0 = true := by decide +kernel
theorem pl_X1 : plainName RX1 = true := by decide +kernel
theorem pl_X2 : plainName RX2 = true := by decide +kernel
theorem pl_X3 : plainName RX3 = true := by decide +kernel
theorem pl_X4 : plainName RX4 = true := by decide +kernel
theorem pl_X5 : plainName RX5 = true := by decide +kernel
theorem pl_X6 : plainName RX6 = true := by decide +kernel
theorem pl_X7 : plainName RX7 = true := by decide +kernel
theorem pl_J7 : plainName RJ7 = true := by decide +kernel
