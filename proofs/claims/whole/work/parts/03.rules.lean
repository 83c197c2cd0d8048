/-! A method's run, over a heap told as a function of addresses. pm_H: the next address, the slots made, what the cells hold. -/
abbrev pm_M : Type := MethodName × ByteArray × Nat × Option FieldType
abbrev pm_H : Type := Nat × Nat × (Nat → Option va_E)
abbrev pm_Ls : Type := List (Option Value)
def pm_cl : List vw_C := [(RX0, TX0, 11), (RX1, TX1, 5), (RX2, TX2, 3), (RX3, TX3, 2), (RX4, TX4, 7), (RX5, TX5, 4), (RX6, TX6, 7), (RX7, TX7, 29)]
/-- the types of arrays by numbers -/
def pm_ty : Nat → FieldType := fun t => match t with
  | 0 => .int
  | 1 => .long
  | 2 => .boolean
  | 3 => .object RX1
  | 4 => .object RX4
  | _ => .object RX2
abbrev pm_ia (t n : Nat) (f : Nat → Int32) : va_E := .inl (t, n, .inl f)
abbrev pm_la (n : Nat) (f : Nat → Int64) : va_E := .inl (1, n, .inr (.inl f))
abbrev pm_qa (t n : Nat) (f : Nat → Option Nat) : va_E := .inl (t, n, .inr (.inr (.inr (.inr f))))
abbrev pm_ob (ci : Nat) (fs : List Value) : va_E := .inr (ci, fs)
/-- a cell of ours lies from B on; the script (type 9) ahead of B, and is only read -/
def pm_at (B : Nat) (D : va_G) (s : State) (a : Nat) (e : va_E) (H : Heap) : Prop := match e with
  | .inl (t, x) => if t = 9 then a < B ∧ ∃ (L : Nat) (xs : Nat → Int32), x = (L, .inl xs) ∧ va_X a L xs s H
    else B ≤ a ∧ ∃ cA : ClassId, ArrOfT s cA (pm_ty t) ∧ va_RA s cA (pm_ty t) ∧ H[a]? = some (vp_cell cA x)
  | .inr o => B ≤ a ∧ va_at D pm_cl (a, .inr o) H
def pm_R (B : Nat) (D : va_G) (s : State) (H : Heap) (h : pm_H) : Prop := H.size = h.1 ∧ B ≤ h.1 ∧ ∀ (a : Nat) (e : va_E), h.2.2 a = some e → pm_at B D s a e H
theorem pm_at.lt {B : Nat} {D : va_G} {s : State} {a : Nat} {e : va_E} {H : Heap} (h : pm_at B D s a e H) : a < H.size := by
  rcases e with ⟨t, x⟩ | q
  · unfold pm_at at h
    dsimp only at h
    split at h
    · obtain ⟨-, L, xs, -, scr, h1, -⟩ := h
      exact (Array.getElem?_eq_some_iff.mp h1).1
    · obtain ⟨-, cA, -, -, h1⟩ := h
      exact (Array.getElem?_eq_some_iff.mp h1).1
  · exact va_at.lt (D := D) (cl := pm_cl) (q := (a, .inr q)) h.2
theorem pm_at.kept {B : Nat} {D : va_G} {s : State} {a : Nat} {e : va_E} {H H1 : Heap} (h : pm_at B D s a e H) (hq : H1[a]? = H[a]?) : pm_at B D s a e H1 := by
  rcases e with ⟨t, x⟩ | q
  · unfold pm_at at h ⊢
    dsimp only at h ⊢
    split at h
    · next ht =>
      rw [if_pos ht]
      obtain ⟨h0, L, xs, hx, hX⟩ := h
      exact ⟨h0, L, xs, hx, hX.kept hq⟩
    · next ht =>
      rw [if_neg ht]
      obtain ⟨h0, cA, h1, h2, h3⟩ := h
      exact ⟨h0, cA, h1, h2, hq.trans h3⟩
  · exact ⟨h.1, va_at.kept (q := (a, .inr q)) h.2 hq⟩
theorem pm_at.moved {B : Nat} {D : va_G} {u U : State} (hvm : u.vm.Alike U.vm) {a : Nat} {e : va_E} {H : Heap} (h : pm_at B D u a e H) : pm_at B D U a e H := by
  rcases e with ⟨t, x⟩ | q
  · unfold pm_at at h ⊢
    dsimp only at h ⊢
    split at h
    · next ht =>
      rw [if_pos ht]
      obtain ⟨h0, L, xs, hx, hX⟩ := h
      exact ⟨h0, L, xs, hx, hX.moved hvm⟩
    · next ht =>
      rw [if_neg ht]
      obtain ⟨h0, cA, h1, h2, h3⟩ := h
      exact ⟨h0, cA, arrOfT_moved hvm h1, h2.moved hvm, h3⟩
  · exact h
theorem pm_R.moved {B : Nat} {D : va_G} {u U : State} (hvm : u.vm.Alike U.vm) {H : Heap} {h : pm_H} (hR : pm_R B D u H h) : pm_R B D U H h := ⟨hR.1, hR.2.1, fun a e he => (hR.2.2 a e he).moved hvm⟩
theorem pm_R.set {B : Nat} {D : va_G} {s : State} {H H1 : Heap} {n w a : Nat} {f : Nat → Option va_E} {e : va_E} (hR : pm_R B D s H (n, w, f)) (he : pm_at B D s a e H1) (hz : H1.size = H.size) (hq : ∀ q : Nat, q ≠ a → H1[q]? = H[q]?) : pm_R B D s H1 (n, w, va_up f a (some e)) := by
  refine ⟨hz.trans hR.1, hR.2.1, fun b e' hb => ?_⟩
  by_cases hba : b = a
  · subst hba
    rw [show (n, w, va_up f b (some e)).2.2 b = some e from va_up_self f b _] at hb
    cases hb
    exact he
  · rw [show (n, w, va_up f a (some e)).2.2 b = f b from va_up_ne f _ hba] at hb
    exact (hR.2.2 b e' hb).kept (hq b hba)
theorem pm_R.push {B : Nat} {D : va_G} {s : State} {H H1 : Heap} {n w w1 : Nat} {f : Nat → Option va_E} {e : va_E} (hR : pm_R B D s H (n, w, f)) (he : pm_at B D s n e H1) (hz : H1.size = n + 1) (hq : ∀ q : Nat, q < n → H1[q]? = H[q]?) : pm_R B D s H1 (n + 1, w1, va_up f n (some e)) := by
  refine ⟨hz, Nat.le_succ_of_le hR.2.1, fun b e' hb => ?_⟩
  by_cases hba : b = n
  · subst hba
    rw [show (b + 1, w1, va_up f b (some e)).2.2 b = some e from va_up_self f b _] at hb
    cases hb
    exact he
  · rw [show (n + 1, w1, va_up f n (some e)).2.2 b = f b from va_up_ne f _ hba] at hb
    have h1 := hR.2.2 b e' hb
    have h2 := h1.lt
    rw [hR.1] at h2
    exact h1.kept (hq b h2)
/-! the locals: a list of places -/
def pm_L (lsA : Array Slot) (nL : Nat) (ls : pm_Ls) : Prop := lsA.size = nL ∧ lv_wf lsA ∧ ls.length = nL ∧ ∀ (i : Nat) (v : Value), ls[i]? = some (some v) → lsA[i]? = some (.val v)
def pm_lv (ls : pm_Ls) : List (Nat × Value) := (List.range ls.length).filterMap (fun j => (ls.getD j none).map (fun v => (j, v)))
theorem pm_lv_mem {ls : pm_Ls} {j : Nat} {v : Value} : (j, v) ∈ pm_lv ls ↔ ls[j]? = some (some v) := by
  unfold pm_lv
  rw [List.mem_filterMap]
  constructor
  · rintro ⟨k, hk, he⟩
    rw [List.mem_range] at hk
    rw [List.getD_eq_getElem?_getD] at he
    cases hg : ls[k]? with
    | none => rw [hg] at he; simp at he
    | some z =>
      rw [hg] at he
      cases z with
      | none => simp at he
      | some u =>
        simp at he
        obtain ⟨h1, h2⟩ := he
        subst h1; subst h2
        exact hg
  · intro h
    refine ⟨j, List.mem_range.mpr (List.getElem?_eq_some_iff.mp h).1, ?_⟩
    rw [List.getD_eq_getElem?_getD, h]
    rfl
theorem pm_L.has {lsA : Array Slot} {nL : Nat} {ls : pm_Ls} (h : pm_L lsA nL ls) : lv_has lsA nL (pm_lv ls) := ⟨h.1, h.2.1, fun q hq => h.2.2.2 q.1 q.2 (pm_lv_mem.mp hq)⟩
def pm_nl : Option Value → Bool := fun v => match v with
  | some (.long _) => false
  | some (.double _) => false
  | _ => true
theorem pm_nl_cat {v : Value} (h : pm_nl (some v) = true) : ¬ v.category = 2 := by
  cases v <;> simp [pm_nl, Value.category] at h ⊢
/-- a value of one slot at place i -/
theorem pm_L.put1 {lsA lsB : Array Slot} {nL i : Nat} {v : Value} {ls : pm_Ls} (h : pm_L lsA nL ls) (hn : ∀ z, 0 < i → ls[i - 1]? = some z → pm_nl z = true)
    (hB : lv_has lsB nL ((i, v) :: (pm_lv ls).filter (fun q => !(q.1 == i) && !(q.1 + 1 == i && q.2.category == 2)))) : pm_L lsB nL (ls.set i (some v)) := by
  refine ⟨hB.1, hB.2.1, by rw [List.length_set]; exact h.2.2.1, fun j u hj => ?_⟩
  by_cases hji : i = j
  · subst hji
    rw [List.getElem?_set] at hj
    simp only [if_true] at hj
    split at hj
    · cases hj
      exact hB.2.2 (i, v) List.mem_cons_self
    · cases hj
  · rw [List.getElem?_set_ne hji] at hj
    refine hB.2.2 (j, u) (List.mem_cons_of_mem _ (List.mem_filter.mpr ⟨pm_lv_mem.mpr hj, ?_⟩))
    have h1 : (j == i) = false := by simp; exact fun e => hji e.symm
    simp only [h1, Bool.not_false, Bool.true_and]
    by_cases hj1 : j + 1 = i
    · have h2 := hn (some u) (by omega) (by rw [show i - 1 = j by omega]; exact hj)
      have h3 := pm_nl_cat h2
      have h4 : (u.category == 2) = false := by simp; exact h3
      simp [h4]
    · have h4 : (j + 1 == i) = false := by simp; exact hj1
      simp [h4]
/-- a long at place i -/
theorem pm_L.put2 {lsA lsB : Array Slot} {nL i : Nat} {v : Value} {ls : pm_Ls} (h : pm_L lsA nL ls) (hn : ∀ z, 0 < i → ls[i - 1]? = some z → pm_nl z = true)
    (hB : lv_has lsB nL ((i, v) :: (pm_lv ls).filter (fun q => !(q.1 == i) && (!(q.1 == i + 1) && !(q.1 + 1 == i && q.2.category == 2))))) : pm_L lsB nL ((ls.set i (some v)).set (i + 1) none) := by
  refine ⟨hB.1, hB.2.1, by rw [List.length_set, List.length_set]; exact h.2.2.1, fun j u hj => ?_⟩
  by_cases hj2 : i + 1 = j
  · subst hj2
    rw [List.getElem?_set] at hj
    simp only [if_true] at hj
    split at hj <;> cases hj
  rw [List.getElem?_set_ne hj2] at hj
  by_cases hji : i = j
  · subst hji
    rw [List.getElem?_set] at hj
    simp only [if_true] at hj
    split at hj
    · cases hj
      exact hB.2.2 (i, v) List.mem_cons_self
    · cases hj
  · rw [List.getElem?_set_ne hji] at hj
    refine hB.2.2 (j, u) (List.mem_cons_of_mem _ (List.mem_filter.mpr ⟨pm_lv_mem.mpr hj, ?_⟩))
    have h1 : (j == i) = false := by simp; exact fun e => hji e.symm
    have h1b : (j == i + 1) = false := by simp; exact fun e => hj2 e.symm
    simp only [h1, h1b, Bool.not_false, Bool.true_and]
    by_cases hj1 : j + 1 = i
    · have h2 := hn (some u) (by omega) (by rw [show i - 1 = j by omega]; exact hj)
      have h3 := pm_nl_cat h2
      have h4 : (u.category == 2) = false := by simp; exact h3
      simp [h4]
    · have h4 : (j + 1 == i) = false := by simp; exact hj1
      simp [h4]
def pm_sl : List Value → pm_Ls
  | [] => []
  | v :: r => if v.category = 2 then some v :: none :: pm_sl r else some v :: pm_sl r
def pm_ent (n : Nat) (vs : List Value) : pm_Ls := pm_sl vs ++ List.replicate (n - (pm_sl vs).length) none
theorem pm_sl_len (vs : List Value) : (pm_sl vs).length = (lg_sl vs).length := by
  induction vs with
  | nil => rfl
  | cons v r ih =>
    unfold pm_sl
    unfold lg_sl at ih ⊢
    rw [List.flatMap_cons]
    split <;> simp [ih] <;> omega
theorem pm_sl_args : ∀ (vs : List Value) (k i : Nat) (v : Value), (pm_sl vs)[i]? = some (some v) → (k + i, v) ∈ lv_args k vs
  | [], k, i, v, h => by simp [pm_sl] at h
  | u :: r, k, i, v, h => by
    unfold pm_sl at h
    unfold lv_args
    split at h
    · next hc =>
      rw [if_pos hc]
      match i with
      | 0 => simp at h; subst h; simp
      | 1 => simp at h
      | j + 2 =>
        simp at h
        have := pm_sl_args r (k + 2) j v h
        rw [show k + 2 + j = k + (j + 2) by omega] at this
        exact List.mem_cons_of_mem _ this
    · next hc =>
      rw [if_neg hc]
      match i with
      | 0 => simp at h; subst h; simp
      | j + 1 =>
        simp at h
        have := pm_sl_args r (k + 1) j v h
        rw [show k + 1 + j = k + (j + 1) by omega] at this
        exact List.mem_cons_of_mem _ this
theorem pm_L.entry (vs : List Value) {n : Nat} (h : (pm_sl vs).length ≤ n) : pm_L ((lg_sl vs ++ List.replicate (n - (lg_sl vs).length) Slot.unset).toArray) n (pm_ent n vs) := by
  obtain ⟨h1, h2, h3⟩ := lv_entry vs (n := n) (by rw [← pm_sl_len]; exact h)
  refine ⟨h1, h2, by simp [pm_ent]; omega, fun i v hi => ?_⟩
  unfold pm_ent at hi
  by_cases hl : i < (pm_sl vs).length
  · rw [List.getElem?_append_left hl] at hi
    have := pm_sl_args vs 0 i v hi
    rw [Nat.zero_add] at this
    exact h3 (i, v) this
  · rw [List.getElem?_append_right (by omega), List.getElem?_replicate] at hi
    split at hi <;> cases hi
/-! what the tables say, kept while the program runs -/
def pm_K (D : va_G) (s : State) : Prop := va_K D pm_cl [] s ∧ (∀ (own : String) (i : Nat) (x : MethodName) (host : String), Cond.methodLinkNest own i x host ∈ lw_tbl → va_Nw (.methodLinkNest own i x host) s) ∧ (∀ C : String, Cond.arrayOver (.object C) ∈ lw_tbl → va_AO C s)
theorem pm_K.warm {D : va_G} {s U : State} (hW : s.WarmedH U.vm) (h : pm_K D s) : pm_K D U := ⟨va_K.moved hW.alike h.1, fun own i x host hm => va_Nw.warmM hW (h.2.1 own i x host hm), fun C hm => va_AO.moved hW.alike (h.2.2 C hm)⟩
theorem pm_K.same {D : va_G} {s U : State} (hv : s.vm = U.vm) (h : pm_K D s) : pm_K D U := ⟨va_K.moved (by rw [hv]; exact Vm.Alike.refl U.vm) h.1, fun own i x host hm => va_Nw.same rfl hv (h.2.1 own i x host hm), fun C hm => va_AO.moved (by rw [hv]; exact Vm.Alike.refl U.vm) (h.2.2 C hm)⟩
def pm_gw : List Cond := lw_tbl.filter goodWord
def pm_ws (μ : pm_M) : List Cond := Cond.code μ.1 μ.2.1 μ.2.2.1 μ.2.2.2 :: pm_gw
def pm_rm (d mc ms : Nat) : Room := { frames := d, cells := mc, slots := ms, locals := 40 * d }
/-- what a frame of a method stands on -/
def pm_cx (D : va_G) (d : Nat) (μ : pm_M) (p : Program) (R : Room) (s : State) (m : MethodId) (args : Array Value) (meth : Method) (c : Code) : Prop :=
  p.tables.exec = Jvm.exec ∧ c.code = μ.2.1 ∧ meth.sig.returnType = μ.2.2.2 ∧ c.maxLocals = μ.2.2.1 ∧ s.vm.findClass μ.1.cls = some m.cls ∧ (∀ w ∈ pm_gw, w.before args s = true) ∧ meth.locks = false ∧ (μ.1.name = "<init>" → meth.name = "<init>") ∧ pm_K D s ∧ d ≤ R.frames ∧ 40 * d ≤ R.locals
def pm_ret : Option FieldType → Instr := fun t => match t with
  | none => .return_
  | some .long => .lreturn
  | some (.object _) => .areturn
  | some (.array _) => .areturn
  | some _ => .ireturn
def pm_end (B : Nat) (D : va_G) (μ : pm_M) (r : Option Value) (h1 : pm_H) (p : Program) (l : Launch) (e : Env) (R : Room) (s : State) (m : MethodId) (args : Array Value) (below : List Frame) (meth : Method) (c : Code) (n0 w0 : Nat) (Q : State → Prop) : Prop :=
  ∀ (H : Heap) (locs : List Loc) (lsA : Array Slot) (pc : Nat), decode μ.2.1 pc = .ok (pm_ret μ.2.2.2, 1) → pm_R B D s H h1 → (∀ q ∈ locs, B ≤ q.base) → W p l e R s m args below meth c H locs (h1.1 - n0) (h1.2.1 - w0) Q (F0 m pc lsA r.toList)
/-- from here the frame comes to its end: with the answer r, and the heap h1 -/
def EX (B : Nat) (D : va_G) (d : Nat) (μ : pm_M) (pc : Nat) (ls : pm_Ls) (st : List Value) (h : pm_H) (r : Option Value) (h1 : pm_H) : Prop :=
  (h.1 ≤ h1.1 ∧ h.2.1 ≤ h1.2.1) ∧ ∀ (p : Program) (l : Launch) (e : Env) (R : Room) (s : State) (m : MethodId) (args : Array Value) (below : List Frame) (meth : Method) (c : Code) (H : Heap) (locs : List Loc) (lsA : Array Slot) (n0 w0 : Nat) (Q : State → Prop),
    pm_cx D d μ p R s m args meth c → pm_L lsA μ.2.2.1 ls → pm_R B D s H h → (∀ q ∈ locs, B ≤ q.base) → n0 ≤ h.1 → w0 ≤ h.2.1 → h1.1 - n0 ≤ R.cells → h1.2.1 - w0 ≤ R.slots → pm_end B D μ r h1 p l e R s m args below meth c n0 w0 Q →
      W p l e R s m args below meth c H locs (h.1 - n0) (h.2.1 - w0) Q (F0 m pc lsA st)
/-- a method's contract: from the heap h it comes to the heap h1, with the answer r -/
def CT (B : Nat) (D : va_G) (d : Nat) (μ : pm_M) (as : List Value) (h : pm_H) (r : Option Value) (h1 : pm_H) : Prop :=
  (h.1 ≤ h1.1 ∧ h.2.1 ≤ h1.2.1) ∧ ∀ l : Launch, Met l μ.1 (pm_ws μ) (pm_rm d (h1.1 - h.1) (h1.2.1 - h.2.1)) (fun a U => a = as.toArray ∧ pm_K D U ∧ pm_R B D U U.heap h) (fun _ _ o t => o = .returned r ∧ pm_R B D t t.heap h1) (h1.1 - h.1) (h1.2.1 - h.2.1) (fun q => B ≤ q)
/-- the answer is of the kind that the method gives -/
def pm_rok : Option FieldType → Option Value → Prop := fun t r => match t, r with
  | none, none => True
  | some .int, some (.int _) => True
  | some .boolean, some (.int v) => v = 0 ∨ v = 1
  | some .long, some (.long _) => True
  | some (.object _), some .null => True
  | some (.object _), some (.ref _) => True
  | _, _ => False
theorem pm_bool_nar {v : Int32} (h : v = 0 ∨ v = 1) : narrow .boolean (.int v) = .int v := by
  rcases h with rfl | rfl <;> rfl
set_option maxHeartbeats 1000000 in
theorem CT.of {B : Nat} {D : va_G} {d : Nat} {μ : pm_M} {as : List Value} {h h1 : pm_H} {r : Option Value} (ls : pm_Ls) (hls : pm_ent μ.2.2.1 as = ls) (hlen : (pm_sl as).length ≤ μ.2.2.1) (hy : plainName μ.1.cls = true) (hr : pm_rok μ.2.2.2 r) (k : EX B D d μ 0 ls [] h r h1) : CT B D d μ as h r h1 := by
  subst hls
  refine ⟨k.1, fun l => ?_⟩
  refine Met.ofW (cc := μ.2.1) (maxL := μ.2.2.1) (ret := μ.2.2.2) (ws' := pm_gw) hy rfl ?_
  intro p e s m args below meth c s₁ Bd hml hv
  obtain ⟨rfl, hK, hR⟩ := hv
  have hts : ∀ w ∈ pm_ws μ, w.before as.toArray s = true := atoms_spec (ws := pm_ws μ) Bd.pre
  have hown : s.vm.findClass μ.1.cls = some m.cls := findClass_of_methodNamed Bd.named
  have hname : meth.name = μ.1.name := (name_of_methodNamed Bd.named Bd.method).1
  have hl := pm_L.entry as hlen
  rw [lg_entry_eq]
  generalize (lg_sl as ++ List.replicate (μ.2.2.1 - (lg_sl as).length) Slot.unset).toArray = lsA at hl ⊢
  have hx := Bd.exec
  have hb := Bd.bytes
  have hret := Bd.returns
  have hlocks := Bd.notSynchronized
  have key := k.2 p l e (headSpec (pm_ws μ) (pm_rm d (h1.1 - h.1) (h1.2.1 - h.2.1))).room s m as.toArray below meth c s.heap [] lsA h.1 h.2.1
    (MQ below (fun _ _ o t => o = .returned r ∧ pm_R B D t t.heap h1) as.toArray s (h1.1 - h.1) (h1.2.1 - h.2.1) (fun q => B ≤ q))
    ⟨hx, hb, hret, hml, hown, fun w hw => hts w (List.mem_cons_of_mem _ hw), hlocks, fun h => hname.trans h, hK, Nat.le_refl _, Nat.le_refl _⟩ hl hR (fun q hq => by cases hq) (Nat.le_refl _) (Nat.le_refl _) (Nat.le_refl _) (Nat.le_refl _) ?_
  · rw [Nat.sub_self, Nat.sub_self] at key
    exact key
  · intro H locs lsB pc hd hR1 hlo
    have hq : ∀ t : State, t.heap = H → s.WarmedH t.vm → (Outcome.returned r = .returned r ∧ pm_R B D t t.heap h1) := fun t ht hW => ⟨rfl, by rw [ht]; exact hR1.moved hW.alike⟩
    revert hd hret hr
    generalize hμ : μ.2.2.2 = ty
    intro hr hret hd
    match ty, r, hr with
    | none, none, _ => exact W.vret hx hb hret hq hlo hd hlocks
    | some .int, some (.int v), _ => exact W.iret (v := v) hx hb hret hq hlo hd hlocks
    | some .boolean, some (.int v), hr => exact W.zret (v := v) hx hb hret (pm_bool_nar hr) hq hlo hd hlocks
    | some .long, some (.long v), _ => exact W.lret (v := v) hx hb hret hq hlo hd hlocks
    | some (.object n), some .null, _ => exact W.aret (v := .null) hx hb hret (Or.inl ⟨n, rfl⟩) (Or.inl rfl) hq hlo hd hlocks
    | some (.object n), some (.ref a), _ => exact W.aret (v := .ref a) hx hb hret (Or.inl ⟨n, rfl⟩) (Or.inr ⟨a, rfl⟩) hq hlo hd hlocks
section PX
variable {B : Nat} {D : va_G} {d : Nat} {μ : pm_M} {pc : Nat} {ls : pm_Ls} {st : List Value} {h : pm_H} {r : Option Value} {h1 : pm_H}

theorem px_iconst {n : Int} {v : Int32} (hd : decode μ.2.1 pc = .ok (.iconst n, 1)) (hv : Int32.ofInt n = v) (kk : EX B D d μ (pc + 1) ls (.int v :: st) h r h1) : EX B D d μ pc ls (st) h r h1 := by
  refine ⟨kk.1, fun p l e R s m args below meth c H locs lsA n0 w0 Q cx hl hR hlo e1 e2 e3 e4 hq => ?_⟩
  exact lv_iconst cx.1 cx.2.1 hd hv (kk.2 p l e R s m args below meth c H locs lsA n0 w0 Q cx hl hR hlo e1 e2 e3 e4 hq)
theorem px_bipush {n : Int} {v : Int32} (hd : decode μ.2.1 pc = .ok (.bipush n, 2)) (hv : (Int8.ofInt n).toInt32 = v) (kk : EX B D d μ (pc + 2) ls (.int v :: st) h r h1) : EX B D d μ pc ls (st) h r h1 := by
  refine ⟨kk.1, fun p l e R s m args below meth c H locs lsA n0 w0 Q cx hl hR hlo e1 e2 e3 e4 hq => ?_⟩
  exact lv_bipush cx.1 cx.2.1 hd hv (kk.2 p l e R s m args below meth c H locs lsA n0 w0 Q cx hl hR hlo e1 e2 e3 e4 hq)
theorem px_sipush {n : Int} {v : Int32} (hd : decode μ.2.1 pc = .ok (.sipush n, 3)) (hv : (Int16.ofInt n).toInt32 = v) (kk : EX B D d μ (pc + 3) ls (.int v :: st) h r h1) : EX B D d μ pc ls (st) h r h1 := by
  refine ⟨kk.1, fun p l e R s m args below meth c H locs lsA n0 w0 Q cx hl hR hlo e1 e2 e3 e4 hq => ?_⟩
  exact lv_sipush cx.1 cx.2.1 hd hv (kk.2 p l e R s m args below meth c H locs lsA n0 w0 Q cx hl hR hlo e1 e2 e3 e4 hq)
theorem px_lconst {n : Fin 2} {v : Int64} (hd : decode μ.2.1 pc = .ok (.lconst n, 1)) (hv : Int64.ofNat (n : Nat) = v) (kk : EX B D d μ (pc + 1) ls (.long v :: st) h r h1) : EX B D d μ pc ls (st) h r h1 := by
  refine ⟨kk.1, fun p l e R s m args below meth c H locs lsA n0 w0 Q cx hl hR hlo e1 e2 e3 e4 hq => ?_⟩
  exact lv_lconst cx.1 cx.2.1 hd hv (kk.2 p l e R s m args below meth c H locs lsA n0 w0 Q cx hl hR hlo e1 e2 e3 e4 hq)
theorem px_ldc {i : Nat} {v : Int32} (hd : decode μ.2.1 pc = .ok (.ldc i, 2)) (hc : Cond.constant μ.1.cls i v ∈ pm_gw) (kk : EX B D d μ (pc + 2) ls (.int v :: st) h r h1) : EX B D d μ pc ls (st) h r h1 := by
  refine ⟨kk.1, fun p l e R s m args below meth c H locs lsA n0 w0 Q cx hl hR hlo e1 e2 e3 e4 hq => ?_⟩
  exact lv_ldc cx.1 cx.2.1 cx.2.2.2.2.1 (cx.2.2.2.2.2.1 _ hc) hd (kk.2 p l e R s m args below meth c H locs lsA n0 w0 Q cx hl hR hlo e1 e2 e3 e4 hq)
theorem px_ldc2 {i : Nat} {v : Int64} (hd : decode μ.2.1 pc = .ok (.ldc2_w i, 3)) (hc : Cond.constantLong μ.1.cls i v ∈ pm_gw) (kk : EX B D d μ (pc + 3) ls (.long v :: st) h r h1) : EX B D d μ pc ls (st) h r h1 := by
  refine ⟨kk.1, fun p l e R s m args below meth c H locs lsA n0 w0 Q cx hl hR hlo e1 e2 e3 e4 hq => ?_⟩
  exact lv_ldc2 cx.1 cx.2.1 cx.2.2.2.2.1 (cx.2.2.2.2.2.1 _ hc) hd (kk.2 p l e R s m args below meth c H locs lsA n0 w0 Q cx hl hR hlo e1 e2 e3 e4 hq)
theorem px_iload_n {k : Fin 4} {x : Int32} (hd : decode μ.2.1 pc = .ok (.iload_n k, 1)) (hv : ls[(k : Nat)]? = some (some (.int x))) (kk : EX B D d μ (pc + 1) ls (.int x :: st) h r h1) : EX B D d μ pc ls (st) h r h1 := by
  refine ⟨kk.1, fun p l e R s m args below meth c H locs lsA n0 w0 Q cx hl hR hlo e1 e2 e3 e4 hq => ?_⟩
  exact lv_iload_n cx.1 cx.2.1 hd rfl (hl.2.2.2 _ _ hv) (kk.2 p l e R s m args below meth c H locs lsA n0 w0 Q cx hl hR hlo e1 e2 e3 e4 hq)
theorem px_iload {i : Nat} {x : Int32} (hd : decode μ.2.1 pc = .ok (.iload i, 2)) (hv : ls[i]? = some (some (.int x))) (kk : EX B D d μ (pc + 2) ls (.int x :: st) h r h1) : EX B D d μ pc ls (st) h r h1 := by
  refine ⟨kk.1, fun p l e R s m args below meth c H locs lsA n0 w0 Q cx hl hR hlo e1 e2 e3 e4 hq => ?_⟩
  exact lv_iload cx.1 cx.2.1 hd (hl.2.2.2 _ _ hv) (kk.2 p l e R s m args below meth c H locs lsA n0 w0 Q cx hl hR hlo e1 e2 e3 e4 hq)
theorem px_lload_n {k : Fin 4} {x : Int64} (hd : decode μ.2.1 pc = .ok (.lload_n k, 1)) (hv : ls[(k : Nat)]? = some (some (.long x))) (kk : EX B D d μ (pc + 1) ls (.long x :: st) h r h1) : EX B D d μ pc ls (st) h r h1 := by
  refine ⟨kk.1, fun p l e R s m args below meth c H locs lsA n0 w0 Q cx hl hR hlo e1 e2 e3 e4 hq => ?_⟩
  exact lv_lload_n cx.1 cx.2.1 hd rfl (hl.2.2.2 _ _ hv) (kk.2 p l e R s m args below meth c H locs lsA n0 w0 Q cx hl hR hlo e1 e2 e3 e4 hq)
theorem px_lload {i : Nat} {x : Int64} (hd : decode μ.2.1 pc = .ok (.lload i, 2)) (hv : ls[i]? = some (some (.long x))) (kk : EX B D d μ (pc + 2) ls (.long x :: st) h r h1) : EX B D d μ pc ls (st) h r h1 := by
  refine ⟨kk.1, fun p l e R s m args below meth c H locs lsA n0 w0 Q cx hl hR hlo e1 e2 e3 e4 hq => ?_⟩
  exact lv_lload cx.1 cx.2.1 hd (hl.2.2.2 _ _ hv) (kk.2 p l e R s m args below meth c H locs lsA n0 w0 Q cx hl hR hlo e1 e2 e3 e4 hq)
theorem px_aload_n {k : Fin 4} {x : Nat} (hd : decode μ.2.1 pc = .ok (.aload_n k, 1)) (hv : ls[(k : Nat)]? = some (some (.ref x))) (kk : EX B D d μ (pc + 1) ls (.ref x :: st) h r h1) : EX B D d μ pc ls (st) h r h1 := by
  refine ⟨kk.1, fun p l e R s m args below meth c H locs lsA n0 w0 Q cx hl hR hlo e1 e2 e3 e4 hq => ?_⟩
  exact lv_aload_n cx.1 cx.2.1 hd rfl (hl.2.2.2 _ _ hv) (kk.2 p l e R s m args below meth c H locs lsA n0 w0 Q cx hl hR hlo e1 e2 e3 e4 hq)
theorem px_aload {i : Nat} {x : Nat} (hd : decode μ.2.1 pc = .ok (.aload i, 2)) (hv : ls[i]? = some (some (.ref x))) (kk : EX B D d μ (pc + 2) ls (.ref x :: st) h r h1) : EX B D d μ pc ls (st) h r h1 := by
  refine ⟨kk.1, fun p l e R s m args below meth c H locs lsA n0 w0 Q cx hl hR hlo e1 e2 e3 e4 hq => ?_⟩
  exact lv_aload cx.1 cx.2.1 hd (hl.2.2.2 _ _ hv) (kk.2 p l e R s m args below meth c H locs lsA n0 w0 Q cx hl hR hlo e1 e2 e3 e4 hq)
theorem px_aload_nN {k : Fin 4} (hd : decode μ.2.1 pc = .ok (.aload_n k, 1)) (hv : ls[(k : Nat)]? = some (some .null)) (kk : EX B D d μ (pc + 1) ls (.null :: st) h r h1) : EX B D d μ pc ls (st) h r h1 := by
  refine ⟨kk.1, fun p l e R s m args below meth c H locs lsA n0 w0 Q cx hl hR hlo e1 e2 e3 e4 hq => ?_⟩
  exact lv_aload_nN cx.1 cx.2.1 hd rfl (hl.2.2.2 _ _ hv) (kk.2 p l e R s m args below meth c H locs lsA n0 w0 Q cx hl hR hlo e1 e2 e3 e4 hq)
theorem px_aloadN {i : Nat} (hd : decode μ.2.1 pc = .ok (.aload i, 2)) (hv : ls[i]? = some (some .null)) (kk : EX B D d μ (pc + 2) ls (.null :: st) h r h1) : EX B D d μ pc ls (st) h r h1 := by
  refine ⟨kk.1, fun p l e R s m args below meth c H locs lsA n0 w0 Q cx hl hR hlo e1 e2 e3 e4 hq => ?_⟩
  exact lv_aloadN cx.1 cx.2.1 hd (hl.2.2.2 _ _ hv) (kk.2 p l e R s m args below meth c H locs lsA n0 w0 Q cx hl hR hlo e1 e2 e3 e4 hq)
theorem px_null  (hd : decode μ.2.1 pc = .ok (.aconst_null, 1)) (kk : EX B D d μ (pc + 1) ls (.null :: st) h r h1) : EX B D d μ pc ls (st) h r h1 := by
  refine ⟨kk.1, fun p l e R s m args below meth c H locs lsA n0 w0 Q cx hl hR hlo e1 e2 e3 e4 hq => ?_⟩
  exact lv_null cx.1 cx.2.1 hd (kk.2 p l e R s m args below meth c H locs lsA n0 w0 Q cx hl hR hlo e1 e2 e3 e4 hq)
theorem px_iadd {x y : Int32} (hd : decode μ.2.1 pc = .ok (.iadd, 1)) (kk : EX B D d μ (pc + 1) ls (.int (x + y) :: st) h r h1) : EX B D d μ pc ls (.int y :: .int x :: st) h r h1 := by
  refine ⟨kk.1, fun p l e R s m args below meth c H locs lsA n0 w0 Q cx hl hR hlo e1 e2 e3 e4 hq => ?_⟩
  exact lv_iadd cx.1 cx.2.1 hd (kk.2 p l e R s m args below meth c H locs lsA n0 w0 Q cx hl hR hlo e1 e2 e3 e4 hq)
theorem px_isub {x y : Int32} (hd : decode μ.2.1 pc = .ok (.isub, 1)) (kk : EX B D d μ (pc + 1) ls (.int (x - y) :: st) h r h1) : EX B D d μ pc ls (.int y :: .int x :: st) h r h1 := by
  refine ⟨kk.1, fun p l e R s m args below meth c H locs lsA n0 w0 Q cx hl hR hlo e1 e2 e3 e4 hq => ?_⟩
  exact lv_isub cx.1 cx.2.1 hd (kk.2 p l e R s m args below meth c H locs lsA n0 w0 Q cx hl hR hlo e1 e2 e3 e4 hq)
theorem px_imul {x y : Int32} (hd : decode μ.2.1 pc = .ok (.imul, 1)) (kk : EX B D d μ (pc + 1) ls (.int (x * y) :: st) h r h1) : EX B D d μ pc ls (.int y :: .int x :: st) h r h1 := by
  refine ⟨kk.1, fun p l e R s m args below meth c H locs lsA n0 w0 Q cx hl hR hlo e1 e2 e3 e4 hq => ?_⟩
  exact lv_imul cx.1 cx.2.1 hd (kk.2 p l e R s m args below meth c H locs lsA n0 w0 Q cx hl hR hlo e1 e2 e3 e4 hq)
theorem px_iand {x y : Int32} (hd : decode μ.2.1 pc = .ok (.iand, 1)) (kk : EX B D d μ (pc + 1) ls (.int (x &&& y) :: st) h r h1) : EX B D d μ pc ls (.int y :: .int x :: st) h r h1 := by
  refine ⟨kk.1, fun p l e R s m args below meth c H locs lsA n0 w0 Q cx hl hR hlo e1 e2 e3 e4 hq => ?_⟩
  exact lv_iand cx.1 cx.2.1 hd (kk.2 p l e R s m args below meth c H locs lsA n0 w0 Q cx hl hR hlo e1 e2 e3 e4 hq)
theorem px_ior {x y : Int32} (hd : decode μ.2.1 pc = .ok (.ior, 1)) (kk : EX B D d μ (pc + 1) ls (.int (x ||| y) :: st) h r h1) : EX B D d μ pc ls (.int y :: .int x :: st) h r h1 := by
  refine ⟨kk.1, fun p l e R s m args below meth c H locs lsA n0 w0 Q cx hl hR hlo e1 e2 e3 e4 hq => ?_⟩
  exact lv_ior cx.1 cx.2.1 hd (kk.2 p l e R s m args below meth c H locs lsA n0 w0 Q cx hl hR hlo e1 e2 e3 e4 hq)
theorem px_ixor {x y : Int32} (hd : decode μ.2.1 pc = .ok (.ixor, 1)) (kk : EX B D d μ (pc + 1) ls (.int (x ^^^ y) :: st) h r h1) : EX B D d μ pc ls (.int y :: .int x :: st) h r h1 := by
  refine ⟨kk.1, fun p l e R s m args below meth c H locs lsA n0 w0 Q cx hl hR hlo e1 e2 e3 e4 hq => ?_⟩
  exact lv_ixor cx.1 cx.2.1 hd (kk.2 p l e R s m args below meth c H locs lsA n0 w0 Q cx hl hR hlo e1 e2 e3 e4 hq)
theorem px_ishl {x y : Int32} (hd : decode μ.2.1 pc = .ok (.ishl, 1)) (kk : EX B D d μ (pc + 1) ls (.int (x <<< (y &&& 31)) :: st) h r h1) : EX B D d μ pc ls (.int y :: .int x :: st) h r h1 := by
  refine ⟨kk.1, fun p l e R s m args below meth c H locs lsA n0 w0 Q cx hl hR hlo e1 e2 e3 e4 hq => ?_⟩
  exact lv_ishl cx.1 cx.2.1 hd (kk.2 p l e R s m args below meth c H locs lsA n0 w0 Q cx hl hR hlo e1 e2 e3 e4 hq)
theorem px_ishr {x y : Int32} (hd : decode μ.2.1 pc = .ok (.ishr, 1)) (kk : EX B D d μ (pc + 1) ls (.int (x >>> (y &&& 31)) :: st) h r h1) : EX B D d μ pc ls (.int y :: .int x :: st) h r h1 := by
  refine ⟨kk.1, fun p l e R s m args below meth c H locs lsA n0 w0 Q cx hl hR hlo e1 e2 e3 e4 hq => ?_⟩
  exact lv_ishr cx.1 cx.2.1 hd (kk.2 p l e R s m args below meth c H locs lsA n0 w0 Q cx hl hR hlo e1 e2 e3 e4 hq)
theorem px_idiv {x y : Int32} (hd : decode μ.2.1 pc = .ok (.idiv, 1)) (hne : ¬ y = 0) (kk : EX B D d μ (pc + 1) ls (.int (x / y) :: st) h r h1) : EX B D d μ pc ls (.int y :: .int x :: st) h r h1 := by
  refine ⟨kk.1, fun p l e R s m args below meth c H locs lsA n0 w0 Q cx hl hR hlo e1 e2 e3 e4 hq => ?_⟩
  exact lv_idiv cx.1 cx.2.1 hd hne (kk.2 p l e R s m args below meth c H locs lsA n0 w0 Q cx hl hR hlo e1 e2 e3 e4 hq)
theorem px_irem {x y : Int32} (hd : decode μ.2.1 pc = .ok (.irem, 1)) (hne : ¬ y = 0) (kk : EX B D d μ (pc + 1) ls (.int (x - x / y * y) :: st) h r h1) : EX B D d μ pc ls (.int y :: .int x :: st) h r h1 := by
  refine ⟨kk.1, fun p l e R s m args below meth c H locs lsA n0 w0 Q cx hl hR hlo e1 e2 e3 e4 hq => ?_⟩
  exact lv_irem cx.1 cx.2.1 hd hne (kk.2 p l e R s m args below meth c H locs lsA n0 w0 Q cx hl hR hlo e1 e2 e3 e4 hq)
theorem px_ladd {x y : Int64} (hd : decode μ.2.1 pc = .ok (.ladd, 1)) (kk : EX B D d μ (pc + 1) ls (.long (x + y) :: st) h r h1) : EX B D d μ pc ls (.long y :: .long x :: st) h r h1 := by
  refine ⟨kk.1, fun p l e R s m args below meth c H locs lsA n0 w0 Q cx hl hR hlo e1 e2 e3 e4 hq => ?_⟩
  exact lv_ladd cx.1 cx.2.1 hd (kk.2 p l e R s m args below meth c H locs lsA n0 w0 Q cx hl hR hlo e1 e2 e3 e4 hq)
theorem px_lsub {x y : Int64} (hd : decode μ.2.1 pc = .ok (.lsub, 1)) (kk : EX B D d μ (pc + 1) ls (.long (x - y) :: st) h r h1) : EX B D d μ pc ls (.long y :: .long x :: st) h r h1 := by
  refine ⟨kk.1, fun p l e R s m args below meth c H locs lsA n0 w0 Q cx hl hR hlo e1 e2 e3 e4 hq => ?_⟩
  exact lv_lsub cx.1 cx.2.1 hd (kk.2 p l e R s m args below meth c H locs lsA n0 w0 Q cx hl hR hlo e1 e2 e3 e4 hq)
theorem px_lmul {x y : Int64} (hd : decode μ.2.1 pc = .ok (.lmul, 1)) (kk : EX B D d μ (pc + 1) ls (.long (x * y) :: st) h r h1) : EX B D d μ pc ls (.long y :: .long x :: st) h r h1 := by
  refine ⟨kk.1, fun p l e R s m args below meth c H locs lsA n0 w0 Q cx hl hR hlo e1 e2 e3 e4 hq => ?_⟩
  exact lv_lmul cx.1 cx.2.1 hd (kk.2 p l e R s m args below meth c H locs lsA n0 w0 Q cx hl hR hlo e1 e2 e3 e4 hq)
theorem px_land {x y : Int64} (hd : decode μ.2.1 pc = .ok (.land, 1)) (kk : EX B D d μ (pc + 1) ls (.long (x &&& y) :: st) h r h1) : EX B D d μ pc ls (.long y :: .long x :: st) h r h1 := by
  refine ⟨kk.1, fun p l e R s m args below meth c H locs lsA n0 w0 Q cx hl hR hlo e1 e2 e3 e4 hq => ?_⟩
  exact lv_land cx.1 cx.2.1 hd (kk.2 p l e R s m args below meth c H locs lsA n0 w0 Q cx hl hR hlo e1 e2 e3 e4 hq)
theorem px_lor {x y : Int64} (hd : decode μ.2.1 pc = .ok (.lor, 1)) (kk : EX B D d μ (pc + 1) ls (.long (x ||| y) :: st) h r h1) : EX B D d μ pc ls (.long y :: .long x :: st) h r h1 := by
  refine ⟨kk.1, fun p l e R s m args below meth c H locs lsA n0 w0 Q cx hl hR hlo e1 e2 e3 e4 hq => ?_⟩
  exact lv_lor cx.1 cx.2.1 hd (kk.2 p l e R s m args below meth c H locs lsA n0 w0 Q cx hl hR hlo e1 e2 e3 e4 hq)
theorem px_ldiv {x y : Int64} (hd : decode μ.2.1 pc = .ok (.ldiv, 1)) (hne : ¬ y = 0) (kk : EX B D d μ (pc + 1) ls (.long (x / y) :: st) h r h1) : EX B D d μ pc ls (.long y :: .long x :: st) h r h1 := by
  refine ⟨kk.1, fun p l e R s m args below meth c H locs lsA n0 w0 Q cx hl hR hlo e1 e2 e3 e4 hq => ?_⟩
  exact lv_ldiv cx.1 cx.2.1 hd hne (kk.2 p l e R s m args below meth c H locs lsA n0 w0 Q cx hl hR hlo e1 e2 e3 e4 hq)
theorem px_lrem {x y : Int64} (hd : decode μ.2.1 pc = .ok (.lrem, 1)) (hne : ¬ y = 0) (kk : EX B D d μ (pc + 1) ls (.long (x - x / y * y) :: st) h r h1) : EX B D d μ pc ls (.long y :: .long x :: st) h r h1 := by
  refine ⟨kk.1, fun p l e R s m args below meth c H locs lsA n0 w0 Q cx hl hR hlo e1 e2 e3 e4 hq => ?_⟩
  exact lv_lrem cx.1 cx.2.1 hd hne (kk.2 p l e R s m args below meth c H locs lsA n0 w0 Q cx hl hR hlo e1 e2 e3 e4 hq)
theorem px_lshl {x : Int64} {y : Int32} (hd : decode μ.2.1 pc = .ok (.lshl, 1)) (kk : EX B D d μ (pc + 1) ls (.long (x <<< (y.toInt64 &&& 63)) :: st) h r h1) : EX B D d μ pc ls (.int y :: .long x :: st) h r h1 := by
  refine ⟨kk.1, fun p l e R s m args below meth c H locs lsA n0 w0 Q cx hl hR hlo e1 e2 e3 e4 hq => ?_⟩
  exact lv_lshl cx.1 cx.2.1 hd rfl (kk.2 p l e R s m args below meth c H locs lsA n0 w0 Q cx hl hR hlo e1 e2 e3 e4 hq)
theorem px_i2l {x : Int32} (hd : decode μ.2.1 pc = .ok (.i2l, 1)) (kk : EX B D d μ (pc + 1) ls (.long x.toInt64 :: st) h r h1) : EX B D d μ pc ls (.int x :: st) h r h1 := by
  refine ⟨kk.1, fun p l e R s m args below meth c H locs lsA n0 w0 Q cx hl hR hlo e1 e2 e3 e4 hq => ?_⟩
  exact lv_i2l cx.1 cx.2.1 hd rfl (kk.2 p l e R s m args below meth c H locs lsA n0 w0 Q cx hl hR hlo e1 e2 e3 e4 hq)
theorem px_l2i {x : Int64} (hd : decode μ.2.1 pc = .ok (.l2i, 1)) (kk : EX B D d μ (pc + 1) ls (.int x.toInt32 :: st) h r h1) : EX B D d μ pc ls (.long x :: st) h r h1 := by
  refine ⟨kk.1, fun p l e R s m args below meth c H locs lsA n0 w0 Q cx hl hR hlo e1 e2 e3 e4 hq => ?_⟩
  exact lv_l2i cx.1 cx.2.1 hd rfl (kk.2 p l e R s m args below meth c H locs lsA n0 w0 Q cx hl hR hlo e1 e2 e3 e4 hq)
theorem px_lcmp {x y : Int64} (hd : decode μ.2.1 pc = .ok (.lcmp, 1)) (kk : EX B D d μ (pc + 1) ls (.int (lg_cmp x y) :: st) h r h1) : EX B D d μ pc ls (.long y :: .long x :: st) h r h1 := by
  refine ⟨kk.1, fun p l e R s m args below meth c H locs lsA n0 w0 Q cx hl hR hlo e1 e2 e3 e4 hq => ?_⟩
  exact W.lcmp cx.1 cx.2.1 hd (kk.2 p l e R s m args below meth c H locs lsA n0 w0 Q cx hl hR hlo e1 e2 e3 e4 hq)
theorem px_dup {v : Value} (hd : decode μ.2.1 pc = .ok (.dup, 1)) (hc : v.category = 1) (kk : EX B D d μ (pc + 1) ls (v :: v :: st) h r h1) : EX B D d μ pc ls (v :: st) h r h1 := by
  refine ⟨kk.1, fun p l e R s m args below meth c H locs lsA n0 w0 Q cx hl hR hlo e1 e2 e3 e4 hq => ?_⟩
  exact lv_dup cx.1 cx.2.1 hd hc (kk.2 p l e R s m args below meth c H locs lsA n0 w0 Q cx hl hR hlo e1 e2 e3 e4 hq)
theorem px_pop {v : Value} (hd : decode μ.2.1 pc = .ok (.pop, 1)) (hc : v.category = 1) (kk : EX B D d μ (pc + 1) ls (st) h r h1) : EX B D d μ pc ls (v :: st) h r h1 := by
  refine ⟨kk.1, fun p l e R s m args below meth c H locs lsA n0 w0 Q cx hl hR hlo e1 e2 e3 e4 hq => ?_⟩
  exact lv_pop cx.1 cx.2.1 hd hc (kk.2 p l e R s m args below meth c H locs lsA n0 w0 Q cx hl hR hlo e1 e2 e3 e4 hq)
theorem px_if_eq {x : Int32} {off : Int} {tgt : Nat} (hd : decode μ.2.1 pc = .ok (.ifCond .eq off, 3)) (ht : (pc : Int) + off = (tgt : Int)) (kt : x = 0 → EX B D d μ tgt ls st h r h1) (kf : ¬ x = 0 → EX B D d μ (pc + 3) ls st h r h1) : EX B D d μ pc ls (.int x :: st) h r h1 := by
  refine ⟨?_, fun p l e R s m args below meth c H locs lsA n0 w0 Q cx hl hR hlo e1 e2 e3 e4 hq => ?_⟩
  · by_cases hc : x = 0
    · exact (kt hc).1
    · exact (kf hc).1
  · exact lv_if_eq cx.1 cx.2.1 hd ht (fun hc => (kt hc).2 p l e R s m args below meth c H locs lsA n0 w0 Q cx hl hR hlo e1 e2 e3 e4 hq) (fun hc => (kf hc).2 p l e R s m args below meth c H locs lsA n0 w0 Q cx hl hR hlo e1 e2 e3 e4 hq)
theorem px_icmp_eq {x y : Int32} {off : Int} {tgt : Nat} (hd : decode μ.2.1 pc = .ok (.if_icmp .eq off, 3)) (ht : (pc : Int) + off = (tgt : Int)) (kt : x = y → EX B D d μ tgt ls st h r h1) (kf : ¬ x = y → EX B D d μ (pc + 3) ls st h r h1) : EX B D d μ pc ls (.int y :: .int x :: st) h r h1 := by
  refine ⟨?_, fun p l e R s m args below meth c H locs lsA n0 w0 Q cx hl hR hlo e1 e2 e3 e4 hq => ?_⟩
  · by_cases hc : x = y
    · exact (kt hc).1
    · exact (kf hc).1
  · exact lv_icmp_eq cx.1 cx.2.1 hd ht (fun hc => (kt hc).2 p l e R s m args below meth c H locs lsA n0 w0 Q cx hl hR hlo e1 e2 e3 e4 hq) (fun hc => (kf hc).2 p l e R s m args below meth c H locs lsA n0 w0 Q cx hl hR hlo e1 e2 e3 e4 hq)
theorem px_if_ne {x : Int32} {off : Int} {tgt : Nat} (hd : decode μ.2.1 pc = .ok (.ifCond .ne off, 3)) (ht : (pc : Int) + off = (tgt : Int)) (kt : ¬ x = 0 → EX B D d μ tgt ls st h r h1) (kf : x = 0 → EX B D d μ (pc + 3) ls st h r h1) : EX B D d μ pc ls (.int x :: st) h r h1 := by
  refine ⟨?_, fun p l e R s m args below meth c H locs lsA n0 w0 Q cx hl hR hlo e1 e2 e3 e4 hq => ?_⟩
  · by_cases hc : x = 0
    · exact (kf hc).1
    · exact (kt hc).1
  · exact lv_if_ne cx.1 cx.2.1 hd ht (fun hc => (kt hc).2 p l e R s m args below meth c H locs lsA n0 w0 Q cx hl hR hlo e1 e2 e3 e4 hq) (fun hc => (kf hc).2 p l e R s m args below meth c H locs lsA n0 w0 Q cx hl hR hlo e1 e2 e3 e4 hq)
theorem px_icmp_ne {x y : Int32} {off : Int} {tgt : Nat} (hd : decode μ.2.1 pc = .ok (.if_icmp .ne off, 3)) (ht : (pc : Int) + off = (tgt : Int)) (kt : ¬ x = y → EX B D d μ tgt ls st h r h1) (kf : x = y → EX B D d μ (pc + 3) ls st h r h1) : EX B D d μ pc ls (.int y :: .int x :: st) h r h1 := by
  refine ⟨?_, fun p l e R s m args below meth c H locs lsA n0 w0 Q cx hl hR hlo e1 e2 e3 e4 hq => ?_⟩
  · by_cases hc : x = y
    · exact (kf hc).1
    · exact (kt hc).1
  · exact lv_icmp_ne cx.1 cx.2.1 hd ht (fun hc => (kt hc).2 p l e R s m args below meth c H locs lsA n0 w0 Q cx hl hR hlo e1 e2 e3 e4 hq) (fun hc => (kf hc).2 p l e R s m args below meth c H locs lsA n0 w0 Q cx hl hR hlo e1 e2 e3 e4 hq)
theorem px_if_lt {x : Int32} {off : Int} {tgt : Nat} (hd : decode μ.2.1 pc = .ok (.ifCond .lt off, 3)) (ht : (pc : Int) + off = (tgt : Int)) (kt : x < 0 → EX B D d μ tgt ls st h r h1) (kf : ¬ x < 0 → EX B D d μ (pc + 3) ls st h r h1) : EX B D d μ pc ls (.int x :: st) h r h1 := by
  refine ⟨?_, fun p l e R s m args below meth c H locs lsA n0 w0 Q cx hl hR hlo e1 e2 e3 e4 hq => ?_⟩
  · by_cases hc : x < 0
    · exact (kt hc).1
    · exact (kf hc).1
  · exact lv_if_lt cx.1 cx.2.1 hd ht (fun hc => (kt hc).2 p l e R s m args below meth c H locs lsA n0 w0 Q cx hl hR hlo e1 e2 e3 e4 hq) (fun hc => (kf hc).2 p l e R s m args below meth c H locs lsA n0 w0 Q cx hl hR hlo e1 e2 e3 e4 hq)
theorem px_icmp_lt {x y : Int32} {off : Int} {tgt : Nat} (hd : decode μ.2.1 pc = .ok (.if_icmp .lt off, 3)) (ht : (pc : Int) + off = (tgt : Int)) (kt : x < y → EX B D d μ tgt ls st h r h1) (kf : ¬ x < y → EX B D d μ (pc + 3) ls st h r h1) : EX B D d μ pc ls (.int y :: .int x :: st) h r h1 := by
  refine ⟨?_, fun p l e R s m args below meth c H locs lsA n0 w0 Q cx hl hR hlo e1 e2 e3 e4 hq => ?_⟩
  · by_cases hc : x < y
    · exact (kt hc).1
    · exact (kf hc).1
  · exact lv_icmp_lt cx.1 cx.2.1 hd ht (fun hc => (kt hc).2 p l e R s m args below meth c H locs lsA n0 w0 Q cx hl hR hlo e1 e2 e3 e4 hq) (fun hc => (kf hc).2 p l e R s m args below meth c H locs lsA n0 w0 Q cx hl hR hlo e1 e2 e3 e4 hq)
theorem px_if_ge {x : Int32} {off : Int} {tgt : Nat} (hd : decode μ.2.1 pc = .ok (.ifCond .ge off, 3)) (ht : (pc : Int) + off = (tgt : Int)) (kt : 0 ≤ x → EX B D d μ tgt ls st h r h1) (kf : ¬ 0 ≤ x → EX B D d μ (pc + 3) ls st h r h1) : EX B D d μ pc ls (.int x :: st) h r h1 := by
  refine ⟨?_, fun p l e R s m args below meth c H locs lsA n0 w0 Q cx hl hR hlo e1 e2 e3 e4 hq => ?_⟩
  · by_cases hc : 0 ≤ x
    · exact (kt hc).1
    · exact (kf hc).1
  · exact lv_if_ge cx.1 cx.2.1 hd ht (fun hc => (kt hc).2 p l e R s m args below meth c H locs lsA n0 w0 Q cx hl hR hlo e1 e2 e3 e4 hq) (fun hc => (kf hc).2 p l e R s m args below meth c H locs lsA n0 w0 Q cx hl hR hlo e1 e2 e3 e4 hq)
theorem px_icmp_ge {x y : Int32} {off : Int} {tgt : Nat} (hd : decode μ.2.1 pc = .ok (.if_icmp .ge off, 3)) (ht : (pc : Int) + off = (tgt : Int)) (kt : y ≤ x → EX B D d μ tgt ls st h r h1) (kf : ¬ y ≤ x → EX B D d μ (pc + 3) ls st h r h1) : EX B D d μ pc ls (.int y :: .int x :: st) h r h1 := by
  refine ⟨?_, fun p l e R s m args below meth c H locs lsA n0 w0 Q cx hl hR hlo e1 e2 e3 e4 hq => ?_⟩
  · by_cases hc : y ≤ x
    · exact (kt hc).1
    · exact (kf hc).1
  · exact lv_icmp_ge cx.1 cx.2.1 hd ht (fun hc => (kt hc).2 p l e R s m args below meth c H locs lsA n0 w0 Q cx hl hR hlo e1 e2 e3 e4 hq) (fun hc => (kf hc).2 p l e R s m args below meth c H locs lsA n0 w0 Q cx hl hR hlo e1 e2 e3 e4 hq)
theorem px_if_gt {x : Int32} {off : Int} {tgt : Nat} (hd : decode μ.2.1 pc = .ok (.ifCond .gt off, 3)) (ht : (pc : Int) + off = (tgt : Int)) (kt : 0 < x → EX B D d μ tgt ls st h r h1) (kf : ¬ 0 < x → EX B D d μ (pc + 3) ls st h r h1) : EX B D d μ pc ls (.int x :: st) h r h1 := by
  refine ⟨?_, fun p l e R s m args below meth c H locs lsA n0 w0 Q cx hl hR hlo e1 e2 e3 e4 hq => ?_⟩
  · by_cases hc : 0 < x
    · exact (kt hc).1
    · exact (kf hc).1
  · exact lv_if_gt cx.1 cx.2.1 hd ht (fun hc => (kt hc).2 p l e R s m args below meth c H locs lsA n0 w0 Q cx hl hR hlo e1 e2 e3 e4 hq) (fun hc => (kf hc).2 p l e R s m args below meth c H locs lsA n0 w0 Q cx hl hR hlo e1 e2 e3 e4 hq)
theorem px_icmp_gt {x y : Int32} {off : Int} {tgt : Nat} (hd : decode μ.2.1 pc = .ok (.if_icmp .gt off, 3)) (ht : (pc : Int) + off = (tgt : Int)) (kt : y < x → EX B D d μ tgt ls st h r h1) (kf : ¬ y < x → EX B D d μ (pc + 3) ls st h r h1) : EX B D d μ pc ls (.int y :: .int x :: st) h r h1 := by
  refine ⟨?_, fun p l e R s m args below meth c H locs lsA n0 w0 Q cx hl hR hlo e1 e2 e3 e4 hq => ?_⟩
  · by_cases hc : y < x
    · exact (kt hc).1
    · exact (kf hc).1
  · exact lv_icmp_gt cx.1 cx.2.1 hd ht (fun hc => (kt hc).2 p l e R s m args below meth c H locs lsA n0 w0 Q cx hl hR hlo e1 e2 e3 e4 hq) (fun hc => (kf hc).2 p l e R s m args below meth c H locs lsA n0 w0 Q cx hl hR hlo e1 e2 e3 e4 hq)
theorem px_if_le {x : Int32} {off : Int} {tgt : Nat} (hd : decode μ.2.1 pc = .ok (.ifCond .le off, 3)) (ht : (pc : Int) + off = (tgt : Int)) (kt : x ≤ 0 → EX B D d μ tgt ls st h r h1) (kf : ¬ x ≤ 0 → EX B D d μ (pc + 3) ls st h r h1) : EX B D d μ pc ls (.int x :: st) h r h1 := by
  refine ⟨?_, fun p l e R s m args below meth c H locs lsA n0 w0 Q cx hl hR hlo e1 e2 e3 e4 hq => ?_⟩
  · by_cases hc : x ≤ 0
    · exact (kt hc).1
    · exact (kf hc).1
  · exact lv_if_le cx.1 cx.2.1 hd ht (fun hc => (kt hc).2 p l e R s m args below meth c H locs lsA n0 w0 Q cx hl hR hlo e1 e2 e3 e4 hq) (fun hc => (kf hc).2 p l e R s m args below meth c H locs lsA n0 w0 Q cx hl hR hlo e1 e2 e3 e4 hq)
theorem px_icmp_le {x y : Int32} {off : Int} {tgt : Nat} (hd : decode μ.2.1 pc = .ok (.if_icmp .le off, 3)) (ht : (pc : Int) + off = (tgt : Int)) (kt : x ≤ y → EX B D d μ tgt ls st h r h1) (kf : ¬ x ≤ y → EX B D d μ (pc + 3) ls st h r h1) : EX B D d μ pc ls (.int y :: .int x :: st) h r h1 := by
  refine ⟨?_, fun p l e R s m args below meth c H locs lsA n0 w0 Q cx hl hR hlo e1 e2 e3 e4 hq => ?_⟩
  · by_cases hc : x ≤ y
    · exact (kt hc).1
    · exact (kf hc).1
  · exact lv_icmp_le cx.1 cx.2.1 hd ht (fun hc => (kt hc).2 p l e R s m args below meth c H locs lsA n0 w0 Q cx hl hR hlo e1 e2 e3 e4 hq) (fun hc => (kf hc).2 p l e R s m args below meth c H locs lsA n0 w0 Q cx hl hR hlo e1 e2 e3 e4 hq)
theorem px_goto  {off : Int} {tgt : Nat} (hd : decode μ.2.1 pc = .ok (.goto off, 3)) (ht : (pc : Int) + off = (tgt : Int)) (kk : EX B D d μ tgt ls st h r h1) : EX B D d μ pc ls (st) h r h1 := by
  refine ⟨kk.1, fun p l e R s m args below meth c H locs lsA n0 w0 Q cx hl hR hlo e1 e2 e3 e4 hq => ?_⟩
  exact lv_goto cx.1 cx.2.1 hd ht (kk.2 p l e R s m args below meth c H locs lsA n0 w0 Q cx hl hR hlo e1 e2 e3 e4 hq)
theorem px_ifnull_t  {off : Int} {tgt : Nat} (hd : decode μ.2.1 pc = .ok (.ifnull off, 3)) (ht : (pc : Int) + off = (tgt : Int)) (kk : EX B D d μ tgt ls st h r h1) : EX B D d μ pc ls (.null :: st) h r h1 := by
  refine ⟨kk.1, fun p l e R s m args below meth c H locs lsA n0 w0 Q cx hl hR hlo e1 e2 e3 e4 hq => ?_⟩
  exact lv_ifnullN cx.1 cx.2.1 hd ht (kk.2 p l e R s m args below meth c H locs lsA n0 w0 Q cx hl hR hlo e1 e2 e3 e4 hq)
theorem px_ifnull_f {a : Nat} {off : Int} (hd : decode μ.2.1 pc = .ok (.ifnull off, 3)) (kk : EX B D d μ (pc + 3) ls st h r h1) : EX B D d μ pc ls (.ref a :: st) h r h1 := by
  refine ⟨kk.1, fun p l e R s m args below meth c H locs lsA n0 w0 Q cx hl hR hlo e1 e2 e3 e4 hq => ?_⟩
  exact lv_ifnull cx.1 cx.2.1 hd (kk.2 p l e R s m args below meth c H locs lsA n0 w0 Q cx hl hR hlo e1 e2 e3 e4 hq)
theorem px_ifnonnull_t {a : Nat} {off : Int} {tgt : Nat} (hd : decode μ.2.1 pc = .ok (.ifnonnull off, 3)) (ht : (pc : Int) + off = (tgt : Int)) (kk : EX B D d μ tgt ls st h r h1) : EX B D d μ pc ls (.ref a :: st) h r h1 := by
  refine ⟨kk.1, fun p l e R s m args below meth c H locs lsA n0 w0 Q cx hl hR hlo e1 e2 e3 e4 hq => ?_⟩
  exact lv_ifnonnull cx.1 cx.2.1 hd ht (kk.2 p l e R s m args below meth c H locs lsA n0 w0 Q cx hl hR hlo e1 e2 e3 e4 hq)
theorem px_ifnonnull_f  {off : Int} (hd : decode μ.2.1 pc = .ok (.ifnonnull off, 3)) (kk : EX B D d μ (pc + 3) ls st h r h1) : EX B D d μ pc ls (.null :: st) h r h1 := by
  refine ⟨kk.1, fun p l e R s m args below meth c H locs lsA n0 w0 Q cx hl hR hlo e1 e2 e3 e4 hq => ?_⟩
  exact lv_ifnonnullN cx.1 cx.2.1 hd (kk.2 p l e R s m args below meth c H locs lsA n0 w0 Q cx hl hR hlo e1 e2 e3 e4 hq)
theorem px_tableOut {dflt lo hi : Int} {offs : Array Int} {len : Nat} {x : Int32} {tgt : Nat} (hd : decode μ.2.1 pc = .ok (.tableswitch dflt lo hi offs, len)) (hx : x.toInt < lo ∨ hi < x.toInt) (ht : (pc : Int) + dflt = (tgt : Int)) (kk : EX B D d μ tgt ls st h r h1) : EX B D d μ pc ls (.int x :: st) h r h1 := by
  refine ⟨kk.1, fun p l e R s m args below meth c H locs lsA n0 w0 Q cx hl hR hlo e1 e2 e3 e4 hq => ?_⟩
  exact lv_tableOut cx.1 cx.2.1 hd hx ht (kk.2 p l e R s m args below meth c H locs lsA n0 w0 Q cx hl hR hlo e1 e2 e3 e4 hq)
theorem px_tableIn {dflt lo hi : Int} {offs : Array Int} {len : Nat} {x : Int32} {off : Int} {tgt : Nat} (hd : decode μ.2.1 pc = .ok (.tableswitch dflt lo hi offs, len)) (hx1 : ¬ x.toInt < lo) (hx2 : ¬ hi < x.toInt) (ho : offs[(x.toInt - lo).toNat]? = some off) (ht : (pc : Int) + off = (tgt : Int)) (kk : EX B D d μ tgt ls st h r h1) : EX B D d μ pc ls (.int x :: st) h r h1 := by
  refine ⟨kk.1, fun p l e R s m args below meth c H locs lsA n0 w0 Q cx hl hR hlo e1 e2 e3 e4 hq => ?_⟩
  exact lv_tableIn cx.1 cx.2.1 hd hx1 hx2 ho ht (kk.2 p l e R s m args below meth c H locs lsA n0 w0 Q cx hl hR hlo e1 e2 e3 e4 hq)

theorem px_istore_n {k : Fin 4} {x : Int32} (hn : ∀ z, 0 < (k : Nat) → ls[(k : Nat) - 1]? = some z → pm_nl z = true) (hi : (k : Nat) < ls.length) (hd : decode μ.2.1 pc = .ok (.istore_n k, 1)) (kk : EX B D d μ (pc + 1) (ls.set (k : Nat) (some (.int x))) st h r h1) : EX B D d μ pc ls (.int x :: st) h r h1 := by
  refine ⟨kk.1, fun p l e R s m args below meth c H locs lsA n0 w0 Q cx hl hR hlo e1 e2 e3 e4 hq => ?_⟩
  exact lv_istore_n cx.1 cx.2.1 hd rfl hl.has (by rw [← hl.2.2.1]; exact hi) rfl (fun lsB hB => kk.2 p l e R s m args below meth c H locs lsB n0 w0 Q cx (pm_L.put1 hl hn hB) hR hlo e1 e2 e3 e4 hq)
theorem px_istore {i : Nat} {x : Int32} (hn : ∀ z, 0 < i → ls[i - 1]? = some z → pm_nl z = true) (hi : i < ls.length) (hd : decode μ.2.1 pc = .ok (.istore i, 2)) (kk : EX B D d μ (pc + 2) (ls.set i (some (.int x))) st h r h1) : EX B D d μ pc ls (.int x :: st) h r h1 := by
  refine ⟨kk.1, fun p l e R s m args below meth c H locs lsA n0 w0 Q cx hl hR hlo e1 e2 e3 e4 hq => ?_⟩
  exact lv_istore cx.1 cx.2.1 hd hl.has (by rw [← hl.2.2.1]; exact hi) rfl (fun lsB hB => kk.2 p l e R s m args below meth c H locs lsB n0 w0 Q cx (pm_L.put1 hl hn hB) hR hlo e1 e2 e3 e4 hq)

theorem px_lstore_n {k : Fin 4} {x : Int64} (hn : ∀ z, 0 < (k : Nat) → ls[(k : Nat) - 1]? = some z → pm_nl z = true) (hi : (k : Nat) + 1 < ls.length) (hd : decode μ.2.1 pc = .ok (.lstore_n k, 1)) (kk : EX B D d μ (pc + 1) ((ls.set (k : Nat) (some (.long x))).set ((k : Nat) + 1) none) st h r h1) : EX B D d μ pc ls (.long x :: st) h r h1 := by
  refine ⟨kk.1, fun p l e R s m args below meth c H locs lsA n0 w0 Q cx hl hR hlo e1 e2 e3 e4 hq => ?_⟩
  exact lv_lstore_n cx.1 cx.2.1 hd rfl hl.has (by rw [← hl.2.2.1]; exact hi) rfl (fun lsB hB => kk.2 p l e R s m args below meth c H locs lsB n0 w0 Q cx (pm_L.put2 hl hn hB) hR hlo e1 e2 e3 e4 hq)
theorem px_lstore {i : Nat} {x : Int64} (hn : ∀ z, 0 < i → ls[i - 1]? = some z → pm_nl z = true) (hi : i + 1 < ls.length) (hd : decode μ.2.1 pc = .ok (.lstore i, 2)) (kk : EX B D d μ (pc + 2) ((ls.set i (some (.long x))).set (i + 1) none) st h r h1) : EX B D d μ pc ls (.long x :: st) h r h1 := by
  refine ⟨kk.1, fun p l e R s m args below meth c H locs lsA n0 w0 Q cx hl hR hlo e1 e2 e3 e4 hq => ?_⟩
  exact lv_lstore cx.1 cx.2.1 hd hl.has (by rw [← hl.2.2.1]; exact hi) rfl (fun lsB hB => kk.2 p l e R s m args below meth c H locs lsB n0 w0 Q cx (pm_L.put2 hl hn hB) hR hlo e1 e2 e3 e4 hq)

theorem px_astore_n {k : Fin 4} {x : Nat} (hn : ∀ z, 0 < (k : Nat) → ls[(k : Nat) - 1]? = some z → pm_nl z = true) (hi : (k : Nat) < ls.length) (hd : decode μ.2.1 pc = .ok (.astore_n k, 1)) (kk : EX B D d μ (pc + 1) (ls.set (k : Nat) (some (.ref x))) st h r h1) : EX B D d μ pc ls (.ref x :: st) h r h1 := by
  refine ⟨kk.1, fun p l e R s m args below meth c H locs lsA n0 w0 Q cx hl hR hlo e1 e2 e3 e4 hq => ?_⟩
  exact lv_astore_n cx.1 cx.2.1 hd rfl hl.has (by rw [← hl.2.2.1]; exact hi) rfl (fun lsB hB => kk.2 p l e R s m args below meth c H locs lsB n0 w0 Q cx (pm_L.put1 hl hn hB) hR hlo e1 e2 e3 e4 hq)
theorem px_astore {i : Nat} {x : Nat} (hn : ∀ z, 0 < i → ls[i - 1]? = some z → pm_nl z = true) (hi : i < ls.length) (hd : decode μ.2.1 pc = .ok (.astore i, 2)) (kk : EX B D d μ (pc + 2) (ls.set i (some (.ref x))) st h r h1) : EX B D d μ pc ls (.ref x :: st) h r h1 := by
  refine ⟨kk.1, fun p l e R s m args below meth c H locs lsA n0 w0 Q cx hl hR hlo e1 e2 e3 e4 hq => ?_⟩
  exact lv_astore cx.1 cx.2.1 hd hl.has (by rw [← hl.2.2.1]; exact hi) rfl (fun lsB hB => kk.2 p l e R s m args below meth c H locs lsB n0 w0 Q cx (pm_L.put1 hl hn hB) hR hlo e1 e2 e3 e4 hq)

theorem px_astoreN_n {k : Fin 4}  (hn : ∀ z, 0 < (k : Nat) → ls[(k : Nat) - 1]? = some z → pm_nl z = true) (hi : (k : Nat) < ls.length) (hd : decode μ.2.1 pc = .ok (.astore_n k, 1)) (kk : EX B D d μ (pc + 1) (ls.set (k : Nat) (some (.null))) st h r h1) : EX B D d μ pc ls (.null :: st) h r h1 := by
  refine ⟨kk.1, fun p l e R s m args below meth c H locs lsA n0 w0 Q cx hl hR hlo e1 e2 e3 e4 hq => ?_⟩
  exact lv_astore_nN cx.1 cx.2.1 hd rfl hl.has (by rw [← hl.2.2.1]; exact hi) rfl (fun lsB hB => kk.2 p l e R s m args below meth c H locs lsB n0 w0 Q cx (pm_L.put1 hl hn hB) hR hlo e1 e2 e3 e4 hq)
theorem px_astoreN {i : Nat}  (hn : ∀ z, 0 < i → ls[i - 1]? = some z → pm_nl z = true) (hi : i < ls.length) (hd : decode μ.2.1 pc = .ok (.astore i, 2)) (kk : EX B D d μ (pc + 2) (ls.set i (some (.null))) st h r h1) : EX B D d μ pc ls (.null :: st) h r h1 := by
  refine ⟨kk.1, fun p l e R s m args below meth c H locs lsA n0 w0 Q cx hl hR hlo e1 e2 e3 e4 hq => ?_⟩
  exact lv_astoreN cx.1 cx.2.1 hd hl.has (by rw [← hl.2.2.1]; exact hi) rfl (fun lsB hB => kk.2 p l e R s m args below meth c H locs lsB n0 w0 Q cx (pm_L.put1 hl hn hB) hR hlo e1 e2 e3 e4 hq)
theorem px_iinc {i : Nat} {n : Int} {x v : Int32} (hn : ∀ z, 0 < i → ls[i - 1]? = some z → pm_nl z = true) (hv : ls[i]? = some (some (.int x))) (hc : x + Int32.ofInt n = v) (hd : decode μ.2.1 pc = .ok (.iinc i n, 3)) (kk : EX B D d μ (pc + 3) (ls.set i (some (.int v))) st h r h1) : EX B D d μ pc ls st h r h1 := by
  refine ⟨kk.1, fun p l e R s m args below meth c H locs lsA n0 w0 Q cx hl hR hlo e1 e2 e3 e4 hq => ?_⟩
  obtain ⟨k, hk⟩ := List.getElem?_of_mem (pm_lv_mem.mpr hv)
  exact lv_iinc cx.1 cx.2.1 hd hl.has hk hc (by rw [← hl.2.2.1]; exact (List.getElem?_eq_some_iff.mp hv).1) rfl (fun lsB hB => kk.2 p l e R s m args below meth c H locs lsB n0 w0 Q cx (pm_L.put1 hl hn hB) hR hlo e1 e2 e3 e4 hq)
theorem px_istore0 {c : Option Value} {t : pm_Ls} {x : Int32} (hd : decode μ.2.1 pc = .ok (.istore_n 0, 1)) (kk : EX B D d μ (pc + 1) (some (.int x) :: t) st h r h1) : EX B D d μ pc (c :: t) (.int x :: st) h r h1 :=
  px_istore_n (k := 0) (ls := c :: t) (fun z hz => absurd hz (by decide)) (by show 0 < _; simp) hd kk
theorem px_lstore0 {c c2 : Option Value} {t : pm_Ls} {x : Int64} (hd : decode μ.2.1 pc = .ok (.lstore_n 0, 1)) (kk : EX B D d μ (pc + 1) (some (.long x) :: none :: t) st h r h1) : EX B D d μ pc (c :: c2 :: t) (.long x :: st) h r h1 :=
  px_lstore_n (k := 0) (ls := c :: c2 :: t) (fun z hz => absurd hz (by decide)) (by show 0 + 1 < _; simp) hd kk
theorem px_astore0 {c : Option Value} {t : pm_Ls} {x : Nat} (hd : decode μ.2.1 pc = .ok (.astore_n 0, 1)) (kk : EX B D d μ (pc + 1) (some (.ref x) :: t) st h r h1) : EX B D d μ pc (c :: t) (.ref x :: st) h r h1 :=
  px_astore_n (k := 0) (ls := c :: t) (fun z hz => absurd hz (by decide)) (by show 0 < _; simp) hd kk
theorem px_astoreN0 {c : Option Value} {t : pm_Ls}  (hd : decode μ.2.1 pc = .ok (.astore_n 0, 1)) (kk : EX B D d μ (pc + 1) (some (.null) :: t) st h r h1) : EX B D d μ pc (c :: t) (.null :: st) h r h1 :=
  px_astoreN_n (k := 0) (ls := c :: t) (fun z hz => absurd hz (by decide)) (by show 0 < _; simp) hd kk
theorem px_iinc0 {t : pm_Ls} {n : Int} {x v : Int32} (hc : x + Int32.ofInt n = v) (hd : decode μ.2.1 pc = .ok (.iinc 0 n, 3)) (kk : EX B D d μ (pc + 3) (some (.int v) :: t) st h r h1) : EX B D d μ pc (some (.int x) :: t) st h r h1 :=
  px_iinc (i := 0) (ls := some (.int x) :: t) (fun z hz => absurd hz (by decide)) (by simp) hc hd kk
theorem px_istore1 {a0 : Option Value} {c : Option Value} {t : pm_Ls} {x : Int32} (hb : pm_nl a0 = true) (hd : decode μ.2.1 pc = .ok (.istore_n 1, 1)) (kk : EX B D d μ (pc + 1) (a0 :: some (.int x) :: t) st h r h1) : EX B D d μ pc (a0 :: c :: t) (.int x :: st) h r h1 :=
  px_istore_n (k := 1) (ls := a0 :: c :: t) (fun z hz he => by cases he; exact hb) (by show 1 < _; simp) hd kk
theorem px_lstore1 {a0 : Option Value} {c c2 : Option Value} {t : pm_Ls} {x : Int64} (hb : pm_nl a0 = true) (hd : decode μ.2.1 pc = .ok (.lstore_n 1, 1)) (kk : EX B D d μ (pc + 1) (a0 :: some (.long x) :: none :: t) st h r h1) : EX B D d μ pc (a0 :: c :: c2 :: t) (.long x :: st) h r h1 :=
  px_lstore_n (k := 1) (ls := a0 :: c :: c2 :: t) (fun z hz he => by cases he; exact hb) (by show 1 + 1 < _; simp) hd kk
theorem px_astore1 {a0 : Option Value} {c : Option Value} {t : pm_Ls} {x : Nat} (hb : pm_nl a0 = true) (hd : decode μ.2.1 pc = .ok (.astore_n 1, 1)) (kk : EX B D d μ (pc + 1) (a0 :: some (.ref x) :: t) st h r h1) : EX B D d μ pc (a0 :: c :: t) (.ref x :: st) h r h1 :=
  px_astore_n (k := 1) (ls := a0 :: c :: t) (fun z hz he => by cases he; exact hb) (by show 1 < _; simp) hd kk
theorem px_astoreN1 {a0 : Option Value} {c : Option Value} {t : pm_Ls}  (hb : pm_nl a0 = true) (hd : decode μ.2.1 pc = .ok (.astore_n 1, 1)) (kk : EX B D d μ (pc + 1) (a0 :: some (.null) :: t) st h r h1) : EX B D d μ pc (a0 :: c :: t) (.null :: st) h r h1 :=
  px_astoreN_n (k := 1) (ls := a0 :: c :: t) (fun z hz he => by cases he; exact hb) (by show 1 < _; simp) hd kk
theorem px_iinc1 {a0 : Option Value} {t : pm_Ls} {n : Int} {x v : Int32} (hb : pm_nl a0 = true) (hc : x + Int32.ofInt n = v) (hd : decode μ.2.1 pc = .ok (.iinc 1 n, 3)) (kk : EX B D d μ (pc + 3) (a0 :: some (.int v) :: t) st h r h1) : EX B D d μ pc (a0 :: some (.int x) :: t) st h r h1 :=
  px_iinc (i := 1) (ls := a0 :: some (.int x) :: t) (fun z hz he => by cases he; exact hb) (by simp) hc hd kk
theorem px_istore2 {a0 a1 : Option Value} {c : Option Value} {t : pm_Ls} {x : Int32} (hb : pm_nl a1 = true) (hd : decode μ.2.1 pc = .ok (.istore_n 2, 1)) (kk : EX B D d μ (pc + 1) (a0 :: a1 :: some (.int x) :: t) st h r h1) : EX B D d μ pc (a0 :: a1 :: c :: t) (.int x :: st) h r h1 :=
  px_istore_n (k := 2) (ls := a0 :: a1 :: c :: t) (fun z hz he => by cases he; exact hb) (by show 2 < _; simp) hd kk
theorem px_lstore2 {a0 a1 : Option Value} {c c2 : Option Value} {t : pm_Ls} {x : Int64} (hb : pm_nl a1 = true) (hd : decode μ.2.1 pc = .ok (.lstore_n 2, 1)) (kk : EX B D d μ (pc + 1) (a0 :: a1 :: some (.long x) :: none :: t) st h r h1) : EX B D d μ pc (a0 :: a1 :: c :: c2 :: t) (.long x :: st) h r h1 :=
  px_lstore_n (k := 2) (ls := a0 :: a1 :: c :: c2 :: t) (fun z hz he => by cases he; exact hb) (by show 2 + 1 < _; simp) hd kk
theorem px_astore2 {a0 a1 : Option Value} {c : Option Value} {t : pm_Ls} {x : Nat} (hb : pm_nl a1 = true) (hd : decode μ.2.1 pc = .ok (.astore_n 2, 1)) (kk : EX B D d μ (pc + 1) (a0 :: a1 :: some (.ref x) :: t) st h r h1) : EX B D d μ pc (a0 :: a1 :: c :: t) (.ref x :: st) h r h1 :=
  px_astore_n (k := 2) (ls := a0 :: a1 :: c :: t) (fun z hz he => by cases he; exact hb) (by show 2 < _; simp) hd kk
theorem px_astoreN2 {a0 a1 : Option Value} {c : Option Value} {t : pm_Ls}  (hb : pm_nl a1 = true) (hd : decode μ.2.1 pc = .ok (.astore_n 2, 1)) (kk : EX B D d μ (pc + 1) (a0 :: a1 :: some (.null) :: t) st h r h1) : EX B D d μ pc (a0 :: a1 :: c :: t) (.null :: st) h r h1 :=
  px_astoreN_n (k := 2) (ls := a0 :: a1 :: c :: t) (fun z hz he => by cases he; exact hb) (by show 2 < _; simp) hd kk
theorem px_iinc2 {a0 a1 : Option Value} {t : pm_Ls} {n : Int} {x v : Int32} (hb : pm_nl a1 = true) (hc : x + Int32.ofInt n = v) (hd : decode μ.2.1 pc = .ok (.iinc 2 n, 3)) (kk : EX B D d μ (pc + 3) (a0 :: a1 :: some (.int v) :: t) st h r h1) : EX B D d μ pc (a0 :: a1 :: some (.int x) :: t) st h r h1 :=
  px_iinc (i := 2) (ls := a0 :: a1 :: some (.int x) :: t) (fun z hz he => by cases he; exact hb) (by simp) hc hd kk
theorem px_istore3 {a0 a1 a2 : Option Value} {c : Option Value} {t : pm_Ls} {x : Int32} (hb : pm_nl a2 = true) (hd : decode μ.2.1 pc = .ok (.istore_n 3, 1)) (kk : EX B D d μ (pc + 1) (a0 :: a1 :: a2 :: some (.int x) :: t) st h r h1) : EX B D d μ pc (a0 :: a1 :: a2 :: c :: t) (.int x :: st) h r h1 :=
  px_istore_n (k := 3) (ls := a0 :: a1 :: a2 :: c :: t) (fun z hz he => by cases he; exact hb) (by show 3 < _; simp) hd kk
theorem px_lstore3 {a0 a1 a2 : Option Value} {c c2 : Option Value} {t : pm_Ls} {x : Int64} (hb : pm_nl a2 = true) (hd : decode μ.2.1 pc = .ok (.lstore_n 3, 1)) (kk : EX B D d μ (pc + 1) (a0 :: a1 :: a2 :: some (.long x) :: none :: t) st h r h1) : EX B D d μ pc (a0 :: a1 :: a2 :: c :: c2 :: t) (.long x :: st) h r h1 :=
  px_lstore_n (k := 3) (ls := a0 :: a1 :: a2 :: c :: c2 :: t) (fun z hz he => by cases he; exact hb) (by show 3 + 1 < _; simp) hd kk
theorem px_astore3 {a0 a1 a2 : Option Value} {c : Option Value} {t : pm_Ls} {x : Nat} (hb : pm_nl a2 = true) (hd : decode μ.2.1 pc = .ok (.astore_n 3, 1)) (kk : EX B D d μ (pc + 1) (a0 :: a1 :: a2 :: some (.ref x) :: t) st h r h1) : EX B D d μ pc (a0 :: a1 :: a2 :: c :: t) (.ref x :: st) h r h1 :=
  px_astore_n (k := 3) (ls := a0 :: a1 :: a2 :: c :: t) (fun z hz he => by cases he; exact hb) (by show 3 < _; simp) hd kk
theorem px_astoreN3 {a0 a1 a2 : Option Value} {c : Option Value} {t : pm_Ls}  (hb : pm_nl a2 = true) (hd : decode μ.2.1 pc = .ok (.astore_n 3, 1)) (kk : EX B D d μ (pc + 1) (a0 :: a1 :: a2 :: some (.null) :: t) st h r h1) : EX B D d μ pc (a0 :: a1 :: a2 :: c :: t) (.null :: st) h r h1 :=
  px_astoreN_n (k := 3) (ls := a0 :: a1 :: a2 :: c :: t) (fun z hz he => by cases he; exact hb) (by show 3 < _; simp) hd kk
theorem px_iinc3 {a0 a1 a2 : Option Value} {t : pm_Ls} {n : Int} {x v : Int32} (hb : pm_nl a2 = true) (hc : x + Int32.ofInt n = v) (hd : decode μ.2.1 pc = .ok (.iinc 3 n, 3)) (kk : EX B D d μ (pc + 3) (a0 :: a1 :: a2 :: some (.int v) :: t) st h r h1) : EX B D d μ pc (a0 :: a1 :: a2 :: some (.int x) :: t) st h r h1 :=
  px_iinc (i := 3) (ls := a0 :: a1 :: a2 :: some (.int x) :: t) (fun z hz he => by cases he; exact hb) (by simp) hc hd kk
theorem px_istore4 {a0 a1 a2 a3 : Option Value} {c : Option Value} {t : pm_Ls} {x : Int32} (hb : pm_nl a3 = true) (hd : decode μ.2.1 pc = .ok (.istore 4, 2)) (kk : EX B D d μ (pc + 2) (a0 :: a1 :: a2 :: a3 :: some (.int x) :: t) st h r h1) : EX B D d μ pc (a0 :: a1 :: a2 :: a3 :: c :: t) (.int x :: st) h r h1 :=
  px_istore (i := 4) (ls := a0 :: a1 :: a2 :: a3 :: c :: t) (fun z hz he => by cases he; exact hb) (by show 4 < _; simp) hd kk
theorem px_lstore4 {a0 a1 a2 a3 : Option Value} {c c2 : Option Value} {t : pm_Ls} {x : Int64} (hb : pm_nl a3 = true) (hd : decode μ.2.1 pc = .ok (.lstore 4, 2)) (kk : EX B D d μ (pc + 2) (a0 :: a1 :: a2 :: a3 :: some (.long x) :: none :: t) st h r h1) : EX B D d μ pc (a0 :: a1 :: a2 :: a3 :: c :: c2 :: t) (.long x :: st) h r h1 :=
  px_lstore (i := 4) (ls := a0 :: a1 :: a2 :: a3 :: c :: c2 :: t) (fun z hz he => by cases he; exact hb) (by show 4 + 1 < _; simp) hd kk
theorem px_astore4 {a0 a1 a2 a3 : Option Value} {c : Option Value} {t : pm_Ls} {x : Nat} (hb : pm_nl a3 = true) (hd : decode μ.2.1 pc = .ok (.astore 4, 2)) (kk : EX B D d μ (pc + 2) (a0 :: a1 :: a2 :: a3 :: some (.ref x) :: t) st h r h1) : EX B D d μ pc (a0 :: a1 :: a2 :: a3 :: c :: t) (.ref x :: st) h r h1 :=
  px_astore (i := 4) (ls := a0 :: a1 :: a2 :: a3 :: c :: t) (fun z hz he => by cases he; exact hb) (by show 4 < _; simp) hd kk
theorem px_astoreN4 {a0 a1 a2 a3 : Option Value} {c : Option Value} {t : pm_Ls}  (hb : pm_nl a3 = true) (hd : decode μ.2.1 pc = .ok (.astore 4, 2)) (kk : EX B D d μ (pc + 2) (a0 :: a1 :: a2 :: a3 :: some (.null) :: t) st h r h1) : EX B D d μ pc (a0 :: a1 :: a2 :: a3 :: c :: t) (.null :: st) h r h1 :=
  px_astoreN (i := 4) (ls := a0 :: a1 :: a2 :: a3 :: c :: t) (fun z hz he => by cases he; exact hb) (by show 4 < _; simp) hd kk
theorem px_iinc4 {a0 a1 a2 a3 : Option Value} {t : pm_Ls} {n : Int} {x v : Int32} (hb : pm_nl a3 = true) (hc : x + Int32.ofInt n = v) (hd : decode μ.2.1 pc = .ok (.iinc 4 n, 3)) (kk : EX B D d μ (pc + 3) (a0 :: a1 :: a2 :: a3 :: some (.int v) :: t) st h r h1) : EX B D d μ pc (a0 :: a1 :: a2 :: a3 :: some (.int x) :: t) st h r h1 :=
  px_iinc (i := 4) (ls := a0 :: a1 :: a2 :: a3 :: some (.int x) :: t) (fun z hz he => by cases he; exact hb) (by simp) hc hd kk
theorem px_istore5 {a0 a1 a2 a3 a4 : Option Value} {c : Option Value} {t : pm_Ls} {x : Int32} (hb : pm_nl a4 = true) (hd : decode μ.2.1 pc = .ok (.istore 5, 2)) (kk : EX B D d μ (pc + 2) (a0 :: a1 :: a2 :: a3 :: a4 :: some (.int x) :: t) st h r h1) : EX B D d μ pc (a0 :: a1 :: a2 :: a3 :: a4 :: c :: t) (.int x :: st) h r h1 :=
  px_istore (i := 5) (ls := a0 :: a1 :: a2 :: a3 :: a4 :: c :: t) (fun z hz he => by cases he; exact hb) (by show 5 < _; simp) hd kk
theorem px_lstore5 {a0 a1 a2 a3 a4 : Option Value} {c c2 : Option Value} {t : pm_Ls} {x : Int64} (hb : pm_nl a4 = true) (hd : decode μ.2.1 pc = .ok (.lstore 5, 2)) (kk : EX B D d μ (pc + 2) (a0 :: a1 :: a2 :: a3 :: a4 :: some (.long x) :: none :: t) st h r h1) : EX B D d μ pc (a0 :: a1 :: a2 :: a3 :: a4 :: c :: c2 :: t) (.long x :: st) h r h1 :=
  px_lstore (i := 5) (ls := a0 :: a1 :: a2 :: a3 :: a4 :: c :: c2 :: t) (fun z hz he => by cases he; exact hb) (by show 5 + 1 < _; simp) hd kk
theorem px_astore5 {a0 a1 a2 a3 a4 : Option Value} {c : Option Value} {t : pm_Ls} {x : Nat} (hb : pm_nl a4 = true) (hd : decode μ.2.1 pc = .ok (.astore 5, 2)) (kk : EX B D d μ (pc + 2) (a0 :: a1 :: a2 :: a3 :: a4 :: some (.ref x) :: t) st h r h1) : EX B D d μ pc (a0 :: a1 :: a2 :: a3 :: a4 :: c :: t) (.ref x :: st) h r h1 :=
  px_astore (i := 5) (ls := a0 :: a1 :: a2 :: a3 :: a4 :: c :: t) (fun z hz he => by cases he; exact hb) (by show 5 < _; simp) hd kk
theorem px_astoreN5 {a0 a1 a2 a3 a4 : Option Value} {c : Option Value} {t : pm_Ls}  (hb : pm_nl a4 = true) (hd : decode μ.2.1 pc = .ok (.astore 5, 2)) (kk : EX B D d μ (pc + 2) (a0 :: a1 :: a2 :: a3 :: a4 :: some (.null) :: t) st h r h1) : EX B D d μ pc (a0 :: a1 :: a2 :: a3 :: a4 :: c :: t) (.null :: st) h r h1 :=
  px_astoreN (i := 5) (ls := a0 :: a1 :: a2 :: a3 :: a4 :: c :: t) (fun z hz he => by cases he; exact hb) (by show 5 < _; simp) hd kk
theorem px_iinc5 {a0 a1 a2 a3 a4 : Option Value} {t : pm_Ls} {n : Int} {x v : Int32} (hb : pm_nl a4 = true) (hc : x + Int32.ofInt n = v) (hd : decode μ.2.1 pc = .ok (.iinc 5 n, 3)) (kk : EX B D d μ (pc + 3) (a0 :: a1 :: a2 :: a3 :: a4 :: some (.int v) :: t) st h r h1) : EX B D d μ pc (a0 :: a1 :: a2 :: a3 :: a4 :: some (.int x) :: t) st h r h1 :=
  px_iinc (i := 5) (ls := a0 :: a1 :: a2 :: a3 :: a4 :: some (.int x) :: t) (fun z hz he => by cases he; exact hb) (by simp) hc hd kk
theorem px_istore6 {a0 a1 a2 a3 a4 a5 : Option Value} {c : Option Value} {t : pm_Ls} {x : Int32} (hb : pm_nl a5 = true) (hd : decode μ.2.1 pc = .ok (.istore 6, 2)) (kk : EX B D d μ (pc + 2) (a0 :: a1 :: a2 :: a3 :: a4 :: a5 :: some (.int x) :: t) st h r h1) : EX B D d μ pc (a0 :: a1 :: a2 :: a3 :: a4 :: a5 :: c :: t) (.int x :: st) h r h1 :=
  px_istore (i := 6) (ls := a0 :: a1 :: a2 :: a3 :: a4 :: a5 :: c :: t) (fun z hz he => by cases he; exact hb) (by show 6 < _; simp) hd kk
theorem px_lstore6 {a0 a1 a2 a3 a4 a5 : Option Value} {c c2 : Option Value} {t : pm_Ls} {x : Int64} (hb : pm_nl a5 = true) (hd : decode μ.2.1 pc = .ok (.lstore 6, 2)) (kk : EX B D d μ (pc + 2) (a0 :: a1 :: a2 :: a3 :: a4 :: a5 :: some (.long x) :: none :: t) st h r h1) : EX B D d μ pc (a0 :: a1 :: a2 :: a3 :: a4 :: a5 :: c :: c2 :: t) (.long x :: st) h r h1 :=
  px_lstore (i := 6) (ls := a0 :: a1 :: a2 :: a3 :: a4 :: a5 :: c :: c2 :: t) (fun z hz he => by cases he; exact hb) (by show 6 + 1 < _; simp) hd kk
theorem px_astore6 {a0 a1 a2 a3 a4 a5 : Option Value} {c : Option Value} {t : pm_Ls} {x : Nat} (hb : pm_nl a5 = true) (hd : decode μ.2.1 pc = .ok (.astore 6, 2)) (kk : EX B D d μ (pc + 2) (a0 :: a1 :: a2 :: a3 :: a4 :: a5 :: some (.ref x) :: t) st h r h1) : EX B D d μ pc (a0 :: a1 :: a2 :: a3 :: a4 :: a5 :: c :: t) (.ref x :: st) h r h1 :=
  px_astore (i := 6) (ls := a0 :: a1 :: a2 :: a3 :: a4 :: a5 :: c :: t) (fun z hz he => by cases he; exact hb) (by show 6 < _; simp) hd kk
theorem px_astoreN6 {a0 a1 a2 a3 a4 a5 : Option Value} {c : Option Value} {t : pm_Ls}  (hb : pm_nl a5 = true) (hd : decode μ.2.1 pc = .ok (.astore 6, 2)) (kk : EX B D d μ (pc + 2) (a0 :: a1 :: a2 :: a3 :: a4 :: a5 :: some (.null) :: t) st h r h1) : EX B D d μ pc (a0 :: a1 :: a2 :: a3 :: a4 :: a5 :: c :: t) (.null :: st) h r h1 :=
  px_astoreN (i := 6) (ls := a0 :: a1 :: a2 :: a3 :: a4 :: a5 :: c :: t) (fun z hz he => by cases he; exact hb) (by show 6 < _; simp) hd kk
theorem px_iinc6 {a0 a1 a2 a3 a4 a5 : Option Value} {t : pm_Ls} {n : Int} {x v : Int32} (hb : pm_nl a5 = true) (hc : x + Int32.ofInt n = v) (hd : decode μ.2.1 pc = .ok (.iinc 6 n, 3)) (kk : EX B D d μ (pc + 3) (a0 :: a1 :: a2 :: a3 :: a4 :: a5 :: some (.int v) :: t) st h r h1) : EX B D d μ pc (a0 :: a1 :: a2 :: a3 :: a4 :: a5 :: some (.int x) :: t) st h r h1 :=
  px_iinc (i := 6) (ls := a0 :: a1 :: a2 :: a3 :: a4 :: a5 :: some (.int x) :: t) (fun z hz he => by cases he; exact hb) (by simp) hc hd kk
theorem px_istore7 {a0 a1 a2 a3 a4 a5 a6 : Option Value} {c : Option Value} {t : pm_Ls} {x : Int32} (hb : pm_nl a6 = true) (hd : decode μ.2.1 pc = .ok (.istore 7, 2)) (kk : EX B D d μ (pc + 2) (a0 :: a1 :: a2 :: a3 :: a4 :: a5 :: a6 :: some (.int x) :: t) st h r h1) : EX B D d μ pc (a0 :: a1 :: a2 :: a3 :: a4 :: a5 :: a6 :: c :: t) (.int x :: st) h r h1 :=
  px_istore (i := 7) (ls := a0 :: a1 :: a2 :: a3 :: a4 :: a5 :: a6 :: c :: t) (fun z hz he => by cases he; exact hb) (by show 7 < _; simp) hd kk
theorem px_lstore7 {a0 a1 a2 a3 a4 a5 a6 : Option Value} {c c2 : Option Value} {t : pm_Ls} {x : Int64} (hb : pm_nl a6 = true) (hd : decode μ.2.1 pc = .ok (.lstore 7, 2)) (kk : EX B D d μ (pc + 2) (a0 :: a1 :: a2 :: a3 :: a4 :: a5 :: a6 :: some (.long x) :: none :: t) st h r h1) : EX B D d μ pc (a0 :: a1 :: a2 :: a3 :: a4 :: a5 :: a6 :: c :: c2 :: t) (.long x :: st) h r h1 :=
  px_lstore (i := 7) (ls := a0 :: a1 :: a2 :: a3 :: a4 :: a5 :: a6 :: c :: c2 :: t) (fun z hz he => by cases he; exact hb) (by show 7 + 1 < _; simp) hd kk
theorem px_astore7 {a0 a1 a2 a3 a4 a5 a6 : Option Value} {c : Option Value} {t : pm_Ls} {x : Nat} (hb : pm_nl a6 = true) (hd : decode μ.2.1 pc = .ok (.astore 7, 2)) (kk : EX B D d μ (pc + 2) (a0 :: a1 :: a2 :: a3 :: a4 :: a5 :: a6 :: some (.ref x) :: t) st h r h1) : EX B D d μ pc (a0 :: a1 :: a2 :: a3 :: a4 :: a5 :: a6 :: c :: t) (.ref x :: st) h r h1 :=
  px_astore (i := 7) (ls := a0 :: a1 :: a2 :: a3 :: a4 :: a5 :: a6 :: c :: t) (fun z hz he => by cases he; exact hb) (by show 7 < _; simp) hd kk
theorem px_astoreN7 {a0 a1 a2 a3 a4 a5 a6 : Option Value} {c : Option Value} {t : pm_Ls}  (hb : pm_nl a6 = true) (hd : decode μ.2.1 pc = .ok (.astore 7, 2)) (kk : EX B D d μ (pc + 2) (a0 :: a1 :: a2 :: a3 :: a4 :: a5 :: a6 :: some (.null) :: t) st h r h1) : EX B D d μ pc (a0 :: a1 :: a2 :: a3 :: a4 :: a5 :: a6 :: c :: t) (.null :: st) h r h1 :=
  px_astoreN (i := 7) (ls := a0 :: a1 :: a2 :: a3 :: a4 :: a5 :: a6 :: c :: t) (fun z hz he => by cases he; exact hb) (by show 7 < _; simp) hd kk
theorem px_iinc7 {a0 a1 a2 a3 a4 a5 a6 : Option Value} {t : pm_Ls} {n : Int} {x v : Int32} (hb : pm_nl a6 = true) (hc : x + Int32.ofInt n = v) (hd : decode μ.2.1 pc = .ok (.iinc 7 n, 3)) (kk : EX B D d μ (pc + 3) (a0 :: a1 :: a2 :: a3 :: a4 :: a5 :: a6 :: some (.int v) :: t) st h r h1) : EX B D d μ pc (a0 :: a1 :: a2 :: a3 :: a4 :: a5 :: a6 :: some (.int x) :: t) st h r h1 :=
  px_iinc (i := 7) (ls := a0 :: a1 :: a2 :: a3 :: a4 :: a5 :: a6 :: some (.int x) :: t) (fun z hz he => by cases he; exact hb) (by simp) hc hd kk
theorem px_istore8 {a0 a1 a2 a3 a4 a5 a6 a7 : Option Value} {c : Option Value} {t : pm_Ls} {x : Int32} (hb : pm_nl a7 = true) (hd : decode μ.2.1 pc = .ok (.istore 8, 2)) (kk : EX B D d μ (pc + 2) (a0 :: a1 :: a2 :: a3 :: a4 :: a5 :: a6 :: a7 :: some (.int x) :: t) st h r h1) : EX B D d μ pc (a0 :: a1 :: a2 :: a3 :: a4 :: a5 :: a6 :: a7 :: c :: t) (.int x :: st) h r h1 :=
  px_istore (i := 8) (ls := a0 :: a1 :: a2 :: a3 :: a4 :: a5 :: a6 :: a7 :: c :: t) (fun z hz he => by cases he; exact hb) (by show 8 < _; simp) hd kk
theorem px_lstore8 {a0 a1 a2 a3 a4 a5 a6 a7 : Option Value} {c c2 : Option Value} {t : pm_Ls} {x : Int64} (hb : pm_nl a7 = true) (hd : decode μ.2.1 pc = .ok (.lstore 8, 2)) (kk : EX B D d μ (pc + 2) (a0 :: a1 :: a2 :: a3 :: a4 :: a5 :: a6 :: a7 :: some (.long x) :: none :: t) st h r h1) : EX B D d μ pc (a0 :: a1 :: a2 :: a3 :: a4 :: a5 :: a6 :: a7 :: c :: c2 :: t) (.long x :: st) h r h1 :=
  px_lstore (i := 8) (ls := a0 :: a1 :: a2 :: a3 :: a4 :: a5 :: a6 :: a7 :: c :: c2 :: t) (fun z hz he => by cases he; exact hb) (by show 8 + 1 < _; simp) hd kk
theorem px_astore8 {a0 a1 a2 a3 a4 a5 a6 a7 : Option Value} {c : Option Value} {t : pm_Ls} {x : Nat} (hb : pm_nl a7 = true) (hd : decode μ.2.1 pc = .ok (.astore 8, 2)) (kk : EX B D d μ (pc + 2) (a0 :: a1 :: a2 :: a3 :: a4 :: a5 :: a6 :: a7 :: some (.ref x) :: t) st h r h1) : EX B D d μ pc (a0 :: a1 :: a2 :: a3 :: a4 :: a5 :: a6 :: a7 :: c :: t) (.ref x :: st) h r h1 :=
  px_astore (i := 8) (ls := a0 :: a1 :: a2 :: a3 :: a4 :: a5 :: a6 :: a7 :: c :: t) (fun z hz he => by cases he; exact hb) (by show 8 < _; simp) hd kk
theorem px_astoreN8 {a0 a1 a2 a3 a4 a5 a6 a7 : Option Value} {c : Option Value} {t : pm_Ls}  (hb : pm_nl a7 = true) (hd : decode μ.2.1 pc = .ok (.astore 8, 2)) (kk : EX B D d μ (pc + 2) (a0 :: a1 :: a2 :: a3 :: a4 :: a5 :: a6 :: a7 :: some (.null) :: t) st h r h1) : EX B D d μ pc (a0 :: a1 :: a2 :: a3 :: a4 :: a5 :: a6 :: a7 :: c :: t) (.null :: st) h r h1 :=
  px_astoreN (i := 8) (ls := a0 :: a1 :: a2 :: a3 :: a4 :: a5 :: a6 :: a7 :: c :: t) (fun z hz he => by cases he; exact hb) (by show 8 < _; simp) hd kk
theorem px_iinc8 {a0 a1 a2 a3 a4 a5 a6 a7 : Option Value} {t : pm_Ls} {n : Int} {x v : Int32} (hb : pm_nl a7 = true) (hc : x + Int32.ofInt n = v) (hd : decode μ.2.1 pc = .ok (.iinc 8 n, 3)) (kk : EX B D d μ (pc + 3) (a0 :: a1 :: a2 :: a3 :: a4 :: a5 :: a6 :: a7 :: some (.int v) :: t) st h r h1) : EX B D d μ pc (a0 :: a1 :: a2 :: a3 :: a4 :: a5 :: a6 :: a7 :: some (.int x) :: t) st h r h1 :=
  px_iinc (i := 8) (ls := a0 :: a1 :: a2 :: a3 :: a4 :: a5 :: a6 :: a7 :: some (.int x) :: t) (fun z hz he => by cases he; exact hb) (by simp) hc hd kk
theorem px_istore9 {a0 a1 a2 a3 a4 a5 a6 a7 a8 : Option Value} {c : Option Value} {t : pm_Ls} {x : Int32} (hb : pm_nl a8 = true) (hd : decode μ.2.1 pc = .ok (.istore 9, 2)) (kk : EX B D d μ (pc + 2) (a0 :: a1 :: a2 :: a3 :: a4 :: a5 :: a6 :: a7 :: a8 :: some (.int x) :: t) st h r h1) : EX B D d μ pc (a0 :: a1 :: a2 :: a3 :: a4 :: a5 :: a6 :: a7 :: a8 :: c :: t) (.int x :: st) h r h1 :=
  px_istore (i := 9) (ls := a0 :: a1 :: a2 :: a3 :: a4 :: a5 :: a6 :: a7 :: a8 :: c :: t) (fun z hz he => by cases he; exact hb) (by show 9 < _; simp) hd kk
theorem px_lstore9 {a0 a1 a2 a3 a4 a5 a6 a7 a8 : Option Value} {c c2 : Option Value} {t : pm_Ls} {x : Int64} (hb : pm_nl a8 = true) (hd : decode μ.2.1 pc = .ok (.lstore 9, 2)) (kk : EX B D d μ (pc + 2) (a0 :: a1 :: a2 :: a3 :: a4 :: a5 :: a6 :: a7 :: a8 :: some (.long x) :: none :: t) st h r h1) : EX B D d μ pc (a0 :: a1 :: a2 :: a3 :: a4 :: a5 :: a6 :: a7 :: a8 :: c :: c2 :: t) (.long x :: st) h r h1 :=
  px_lstore (i := 9) (ls := a0 :: a1 :: a2 :: a3 :: a4 :: a5 :: a6 :: a7 :: a8 :: c :: c2 :: t) (fun z hz he => by cases he; exact hb) (by show 9 + 1 < _; simp) hd kk
theorem px_astore9 {a0 a1 a2 a3 a4 a5 a6 a7 a8 : Option Value} {c : Option Value} {t : pm_Ls} {x : Nat} (hb : pm_nl a8 = true) (hd : decode μ.2.1 pc = .ok (.astore 9, 2)) (kk : EX B D d μ (pc + 2) (a0 :: a1 :: a2 :: a3 :: a4 :: a5 :: a6 :: a7 :: a8 :: some (.ref x) :: t) st h r h1) : EX B D d μ pc (a0 :: a1 :: a2 :: a3 :: a4 :: a5 :: a6 :: a7 :: a8 :: c :: t) (.ref x :: st) h r h1 :=
  px_astore (i := 9) (ls := a0 :: a1 :: a2 :: a3 :: a4 :: a5 :: a6 :: a7 :: a8 :: c :: t) (fun z hz he => by cases he; exact hb) (by show 9 < _; simp) hd kk
theorem px_astoreN9 {a0 a1 a2 a3 a4 a5 a6 a7 a8 : Option Value} {c : Option Value} {t : pm_Ls}  (hb : pm_nl a8 = true) (hd : decode μ.2.1 pc = .ok (.astore 9, 2)) (kk : EX B D d μ (pc + 2) (a0 :: a1 :: a2 :: a3 :: a4 :: a5 :: a6 :: a7 :: a8 :: some (.null) :: t) st h r h1) : EX B D d μ pc (a0 :: a1 :: a2 :: a3 :: a4 :: a5 :: a6 :: a7 :: a8 :: c :: t) (.null :: st) h r h1 :=
  px_astoreN (i := 9) (ls := a0 :: a1 :: a2 :: a3 :: a4 :: a5 :: a6 :: a7 :: a8 :: c :: t) (fun z hz he => by cases he; exact hb) (by show 9 < _; simp) hd kk
theorem px_iinc9 {a0 a1 a2 a3 a4 a5 a6 a7 a8 : Option Value} {t : pm_Ls} {n : Int} {x v : Int32} (hb : pm_nl a8 = true) (hc : x + Int32.ofInt n = v) (hd : decode μ.2.1 pc = .ok (.iinc 9 n, 3)) (kk : EX B D d μ (pc + 3) (a0 :: a1 :: a2 :: a3 :: a4 :: a5 :: a6 :: a7 :: a8 :: some (.int v) :: t) st h r h1) : EX B D d μ pc (a0 :: a1 :: a2 :: a3 :: a4 :: a5 :: a6 :: a7 :: a8 :: some (.int x) :: t) st h r h1 :=
  px_iinc (i := 9) (ls := a0 :: a1 :: a2 :: a3 :: a4 :: a5 :: a6 :: a7 :: a8 :: some (.int x) :: t) (fun z hz he => by cases he; exact hb) (by simp) hc hd kk
theorem px_istore10 {a0 a1 a2 a3 a4 a5 a6 a7 a8 a9 : Option Value} {c : Option Value} {t : pm_Ls} {x : Int32} (hb : pm_nl a9 = true) (hd : decode μ.2.1 pc = .ok (.istore 10, 2)) (kk : EX B D d μ (pc + 2) (a0 :: a1 :: a2 :: a3 :: a4 :: a5 :: a6 :: a7 :: a8 :: a9 :: some (.int x) :: t) st h r h1) : EX B D d μ pc (a0 :: a1 :: a2 :: a3 :: a4 :: a5 :: a6 :: a7 :: a8 :: a9 :: c :: t) (.int x :: st) h r h1 :=
  px_istore (i := 10) (ls := a0 :: a1 :: a2 :: a3 :: a4 :: a5 :: a6 :: a7 :: a8 :: a9 :: c :: t) (fun z hz he => by cases he; exact hb) (by show 10 < _; simp) hd kk
theorem px_lstore10 {a0 a1 a2 a3 a4 a5 a6 a7 a8 a9 : Option Value} {c c2 : Option Value} {t : pm_Ls} {x : Int64} (hb : pm_nl a9 = true) (hd : decode μ.2.1 pc = .ok (.lstore 10, 2)) (kk : EX B D d μ (pc + 2) (a0 :: a1 :: a2 :: a3 :: a4 :: a5 :: a6 :: a7 :: a8 :: a9 :: some (.long x) :: none :: t) st h r h1) : EX B D d μ pc (a0 :: a1 :: a2 :: a3 :: a4 :: a5 :: a6 :: a7 :: a8 :: a9 :: c :: c2 :: t) (.long x :: st) h r h1 :=
  px_lstore (i := 10) (ls := a0 :: a1 :: a2 :: a3 :: a4 :: a5 :: a6 :: a7 :: a8 :: a9 :: c :: c2 :: t) (fun z hz he => by cases he; exact hb) (by show 10 + 1 < _; simp) hd kk
theorem px_astore10 {a0 a1 a2 a3 a4 a5 a6 a7 a8 a9 : Option Value} {c : Option Value} {t : pm_Ls} {x : Nat} (hb : pm_nl a9 = true) (hd : decode μ.2.1 pc = .ok (.astore 10, 2)) (kk : EX B D d μ (pc + 2) (a0 :: a1 :: a2 :: a3 :: a4 :: a5 :: a6 :: a7 :: a8 :: a9 :: some (.ref x) :: t) st h r h1) : EX B D d μ pc (a0 :: a1 :: a2 :: a3 :: a4 :: a5 :: a6 :: a7 :: a8 :: a9 :: c :: t) (.ref x :: st) h r h1 :=
  px_astore (i := 10) (ls := a0 :: a1 :: a2 :: a3 :: a4 :: a5 :: a6 :: a7 :: a8 :: a9 :: c :: t) (fun z hz he => by cases he; exact hb) (by show 10 < _; simp) hd kk
theorem px_astoreN10 {a0 a1 a2 a3 a4 a5 a6 a7 a8 a9 : Option Value} {c : Option Value} {t : pm_Ls}  (hb : pm_nl a9 = true) (hd : decode μ.2.1 pc = .ok (.astore 10, 2)) (kk : EX B D d μ (pc + 2) (a0 :: a1 :: a2 :: a3 :: a4 :: a5 :: a6 :: a7 :: a8 :: a9 :: some (.null) :: t) st h r h1) : EX B D d μ pc (a0 :: a1 :: a2 :: a3 :: a4 :: a5 :: a6 :: a7 :: a8 :: a9 :: c :: t) (.null :: st) h r h1 :=
  px_astoreN (i := 10) (ls := a0 :: a1 :: a2 :: a3 :: a4 :: a5 :: a6 :: a7 :: a8 :: a9 :: c :: t) (fun z hz he => by cases he; exact hb) (by show 10 < _; simp) hd kk
theorem px_iinc10 {a0 a1 a2 a3 a4 a5 a6 a7 a8 a9 : Option Value} {t : pm_Ls} {n : Int} {x v : Int32} (hb : pm_nl a9 = true) (hc : x + Int32.ofInt n = v) (hd : decode μ.2.1 pc = .ok (.iinc 10 n, 3)) (kk : EX B D d μ (pc + 3) (a0 :: a1 :: a2 :: a3 :: a4 :: a5 :: a6 :: a7 :: a8 :: a9 :: some (.int v) :: t) st h r h1) : EX B D d μ pc (a0 :: a1 :: a2 :: a3 :: a4 :: a5 :: a6 :: a7 :: a8 :: a9 :: some (.int x) :: t) st h r h1 :=
  px_iinc (i := 10) (ls := a0 :: a1 :: a2 :: a3 :: a4 :: a5 :: a6 :: a7 :: a8 :: a9 :: some (.int x) :: t) (fun z hz he => by cases he; exact hb) (by simp) hc hd kk
theorem px_istore11 {a0 a1 a2 a3 a4 a5 a6 a7 a8 a9 a10 : Option Value} {c : Option Value} {t : pm_Ls} {x : Int32} (hb : pm_nl a10 = true) (hd : decode μ.2.1 pc = .ok (.istore 11, 2)) (kk : EX B D d μ (pc + 2) (a0 :: a1 :: a2 :: a3 :: a4 :: a5 :: a6 :: a7 :: a8 :: a9 :: a10 :: some (.int x) :: t) st h r h1) : EX B D d μ pc (a0 :: a1 :: a2 :: a3 :: a4 :: a5 :: a6 :: a7 :: a8 :: a9 :: a10 :: c :: t) (.int x :: st) h r h1 :=
  px_istore (i := 11) (ls := a0 :: a1 :: a2 :: a3 :: a4 :: a5 :: a6 :: a7 :: a8 :: a9 :: a10 :: c :: t) (fun z hz he => by cases he; exact hb) (by show 11 < _; simp) hd kk
theorem px_lstore11 {a0 a1 a2 a3 a4 a5 a6 a7 a8 a9 a10 : Option Value} {c c2 : Option Value} {t : pm_Ls} {x : Int64} (hb : pm_nl a10 = true) (hd : decode μ.2.1 pc = .ok (.lstore 11, 2)) (kk : EX B D d μ (pc + 2) (a0 :: a1 :: a2 :: a3 :: a4 :: a5 :: a6 :: a7 :: a8 :: a9 :: a10 :: some (.long x) :: none :: t) st h r h1) : EX B D d μ pc (a0 :: a1 :: a2 :: a3 :: a4 :: a5 :: a6 :: a7 :: a8 :: a9 :: a10 :: c :: c2 :: t) (.long x :: st) h r h1 :=
  px_lstore (i := 11) (ls := a0 :: a1 :: a2 :: a3 :: a4 :: a5 :: a6 :: a7 :: a8 :: a9 :: a10 :: c :: c2 :: t) (fun z hz he => by cases he; exact hb) (by show 11 + 1 < _; simp) hd kk
theorem px_astore11 {a0 a1 a2 a3 a4 a5 a6 a7 a8 a9 a10 : Option Value} {c : Option Value} {t : pm_Ls} {x : Nat} (hb : pm_nl a10 = true) (hd : decode μ.2.1 pc = .ok (.astore 11, 2)) (kk : EX B D d μ (pc + 2) (a0 :: a1 :: a2 :: a3 :: a4 :: a5 :: a6 :: a7 :: a8 :: a9 :: a10 :: some (.ref x) :: t) st h r h1) : EX B D d μ pc (a0 :: a1 :: a2 :: a3 :: a4 :: a5 :: a6 :: a7 :: a8 :: a9 :: a10 :: c :: t) (.ref x :: st) h r h1 :=
  px_astore (i := 11) (ls := a0 :: a1 :: a2 :: a3 :: a4 :: a5 :: a6 :: a7 :: a8 :: a9 :: a10 :: c :: t) (fun z hz he => by cases he; exact hb) (by show 11 < _; simp) hd kk
theorem px_astoreN11 {a0 a1 a2 a3 a4 a5 a6 a7 a8 a9 a10 : Option Value} {c : Option Value} {t : pm_Ls}  (hb : pm_nl a10 = true) (hd : decode μ.2.1 pc = .ok (.astore 11, 2)) (kk : EX B D d μ (pc + 2) (a0 :: a1 :: a2 :: a3 :: a4 :: a5 :: a6 :: a7 :: a8 :: a9 :: a10 :: some (.null) :: t) st h r h1) : EX B D d μ pc (a0 :: a1 :: a2 :: a3 :: a4 :: a5 :: a6 :: a7 :: a8 :: a9 :: a10 :: c :: t) (.null :: st) h r h1 :=
  px_astoreN (i := 11) (ls := a0 :: a1 :: a2 :: a3 :: a4 :: a5 :: a6 :: a7 :: a8 :: a9 :: a10 :: c :: t) (fun z hz he => by cases he; exact hb) (by show 11 < _; simp) hd kk
theorem px_iinc11 {a0 a1 a2 a3 a4 a5 a6 a7 a8 a9 a10 : Option Value} {t : pm_Ls} {n : Int} {x v : Int32} (hb : pm_nl a10 = true) (hc : x + Int32.ofInt n = v) (hd : decode μ.2.1 pc = .ok (.iinc 11 n, 3)) (kk : EX B D d μ (pc + 3) (a0 :: a1 :: a2 :: a3 :: a4 :: a5 :: a6 :: a7 :: a8 :: a9 :: a10 :: some (.int v) :: t) st h r h1) : EX B D d μ pc (a0 :: a1 :: a2 :: a3 :: a4 :: a5 :: a6 :: a7 :: a8 :: a9 :: a10 :: some (.int x) :: t) st h r h1 :=
  px_iinc (i := 11) (ls := a0 :: a1 :: a2 :: a3 :: a4 :: a5 :: a6 :: a7 :: a8 :: a9 :: a10 :: some (.int x) :: t) (fun z hz he => by cases he; exact hb) (by simp) hc hd kk
theorem px_istore12 {a0 a1 a2 a3 a4 a5 a6 a7 a8 a9 a10 a11 : Option Value} {c : Option Value} {t : pm_Ls} {x : Int32} (hb : pm_nl a11 = true) (hd : decode μ.2.1 pc = .ok (.istore 12, 2)) (kk : EX B D d μ (pc + 2) (a0 :: a1 :: a2 :: a3 :: a4 :: a5 :: a6 :: a7 :: a8 :: a9 :: a10 :: a11 :: some (.int x) :: t) st h r h1) : EX B D d μ pc (a0 :: a1 :: a2 :: a3 :: a4 :: a5 :: a6 :: a7 :: a8 :: a9 :: a10 :: a11 :: c :: t) (.int x :: st) h r h1 :=
  px_istore (i := 12) (ls := a0 :: a1 :: a2 :: a3 :: a4 :: a5 :: a6 :: a7 :: a8 :: a9 :: a10 :: a11 :: c :: t) (fun z hz he => by cases he; exact hb) (by show 12 < _; simp) hd kk
theorem px_lstore12 {a0 a1 a2 a3 a4 a5 a6 a7 a8 a9 a10 a11 : Option Value} {c c2 : Option Value} {t : pm_Ls} {x : Int64} (hb : pm_nl a11 = true) (hd : decode μ.2.1 pc = .ok (.lstore 12, 2)) (kk : EX B D d μ (pc + 2) (a0 :: a1 :: a2 :: a3 :: a4 :: a5 :: a6 :: a7 :: a8 :: a9 :: a10 :: a11 :: some (.long x) :: none :: t) st h r h1) : EX B D d μ pc (a0 :: a1 :: a2 :: a3 :: a4 :: a5 :: a6 :: a7 :: a8 :: a9 :: a10 :: a11 :: c :: c2 :: t) (.long x :: st) h r h1 :=
  px_lstore (i := 12) (ls := a0 :: a1 :: a2 :: a3 :: a4 :: a5 :: a6 :: a7 :: a8 :: a9 :: a10 :: a11 :: c :: c2 :: t) (fun z hz he => by cases he; exact hb) (by show 12 + 1 < _; simp) hd kk
theorem px_astore12 {a0 a1 a2 a3 a4 a5 a6 a7 a8 a9 a10 a11 : Option Value} {c : Option Value} {t : pm_Ls} {x : Nat} (hb : pm_nl a11 = true) (hd : decode μ.2.1 pc = .ok (.astore 12, 2)) (kk : EX B D d μ (pc + 2) (a0 :: a1 :: a2 :: a3 :: a4 :: a5 :: a6 :: a7 :: a8 :: a9 :: a10 :: a11 :: some (.ref x) :: t) st h r h1) : EX B D d μ pc (a0 :: a1 :: a2 :: a3 :: a4 :: a5 :: a6 :: a7 :: a8 :: a9 :: a10 :: a11 :: c :: t) (.ref x :: st) h r h1 :=
  px_astore (i := 12) (ls := a0 :: a1 :: a2 :: a3 :: a4 :: a5 :: a6 :: a7 :: a8 :: a9 :: a10 :: a11 :: c :: t) (fun z hz he => by cases he; exact hb) (by show 12 < _; simp) hd kk
theorem px_astoreN12 {a0 a1 a2 a3 a4 a5 a6 a7 a8 a9 a10 a11 : Option Value} {c : Option Value} {t : pm_Ls}  (hb : pm_nl a11 = true) (hd : decode μ.2.1 pc = .ok (.astore 12, 2)) (kk : EX B D d μ (pc + 2) (a0 :: a1 :: a2 :: a3 :: a4 :: a5 :: a6 :: a7 :: a8 :: a9 :: a10 :: a11 :: some (.null) :: t) st h r h1) : EX B D d μ pc (a0 :: a1 :: a2 :: a3 :: a4 :: a5 :: a6 :: a7 :: a8 :: a9 :: a10 :: a11 :: c :: t) (.null :: st) h r h1 :=
  px_astoreN (i := 12) (ls := a0 :: a1 :: a2 :: a3 :: a4 :: a5 :: a6 :: a7 :: a8 :: a9 :: a10 :: a11 :: c :: t) (fun z hz he => by cases he; exact hb) (by show 12 < _; simp) hd kk
theorem px_iinc12 {a0 a1 a2 a3 a4 a5 a6 a7 a8 a9 a10 a11 : Option Value} {t : pm_Ls} {n : Int} {x v : Int32} (hb : pm_nl a11 = true) (hc : x + Int32.ofInt n = v) (hd : decode μ.2.1 pc = .ok (.iinc 12 n, 3)) (kk : EX B D d μ (pc + 3) (a0 :: a1 :: a2 :: a3 :: a4 :: a5 :: a6 :: a7 :: a8 :: a9 :: a10 :: a11 :: some (.int v) :: t) st h r h1) : EX B D d μ pc (a0 :: a1 :: a2 :: a3 :: a4 :: a5 :: a6 :: a7 :: a8 :: a9 :: a10 :: a11 :: some (.int x) :: t) st h r h1 :=
  px_iinc (i := 12) (ls := a0 :: a1 :: a2 :: a3 :: a4 :: a5 :: a6 :: a7 :: a8 :: a9 :: a10 :: a11 :: some (.int x) :: t) (fun z hz he => by cases he; exact hb) (by simp) hc hd kk
theorem px_istore13 {a0 a1 a2 a3 a4 a5 a6 a7 a8 a9 a10 a11 a12 : Option Value} {c : Option Value} {t : pm_Ls} {x : Int32} (hb : pm_nl a12 = true) (hd : decode μ.2.1 pc = .ok (.istore 13, 2)) (kk : EX B D d μ (pc + 2) (a0 :: a1 :: a2 :: a3 :: a4 :: a5 :: a6 :: a7 :: a8 :: a9 :: a10 :: a11 :: a12 :: some (.int x) :: t) st h r h1) : EX B D d μ pc (a0 :: a1 :: a2 :: a3 :: a4 :: a5 :: a6 :: a7 :: a8 :: a9 :: a10 :: a11 :: a12 :: c :: t) (.int x :: st) h r h1 :=
  px_istore (i := 13) (ls := a0 :: a1 :: a2 :: a3 :: a4 :: a5 :: a6 :: a7 :: a8 :: a9 :: a10 :: a11 :: a12 :: c :: t) (fun z hz he => by cases he; exact hb) (by show 13 < _; simp) hd kk
theorem px_lstore13 {a0 a1 a2 a3 a4 a5 a6 a7 a8 a9 a10 a11 a12 : Option Value} {c c2 : Option Value} {t : pm_Ls} {x : Int64} (hb : pm_nl a12 = true) (hd : decode μ.2.1 pc = .ok (.lstore 13, 2)) (kk : EX B D d μ (pc + 2) (a0 :: a1 :: a2 :: a3 :: a4 :: a5 :: a6 :: a7 :: a8 :: a9 :: a10 :: a11 :: a12 :: some (.long x) :: none :: t) st h r h1) : EX B D d μ pc (a0 :: a1 :: a2 :: a3 :: a4 :: a5 :: a6 :: a7 :: a8 :: a9 :: a10 :: a11 :: a12 :: c :: c2 :: t) (.long x :: st) h r h1 :=
  px_lstore (i := 13) (ls := a0 :: a1 :: a2 :: a3 :: a4 :: a5 :: a6 :: a7 :: a8 :: a9 :: a10 :: a11 :: a12 :: c :: c2 :: t) (fun z hz he => by cases he; exact hb) (by show 13 + 1 < _; simp) hd kk
theorem px_astore13 {a0 a1 a2 a3 a4 a5 a6 a7 a8 a9 a10 a11 a12 : Option Value} {c : Option Value} {t : pm_Ls} {x : Nat} (hb : pm_nl a12 = true) (hd : decode μ.2.1 pc = .ok (.astore 13, 2)) (kk : EX B D d μ (pc + 2) (a0 :: a1 :: a2 :: a3 :: a4 :: a5 :: a6 :: a7 :: a8 :: a9 :: a10 :: a11 :: a12 :: some (.ref x) :: t) st h r h1) : EX B D d μ pc (a0 :: a1 :: a2 :: a3 :: a4 :: a5 :: a6 :: a7 :: a8 :: a9 :: a10 :: a11 :: a12 :: c :: t) (.ref x :: st) h r h1 :=
  px_astore (i := 13) (ls := a0 :: a1 :: a2 :: a3 :: a4 :: a5 :: a6 :: a7 :: a8 :: a9 :: a10 :: a11 :: a12 :: c :: t) (fun z hz he => by cases he; exact hb) (by show 13 < _; simp) hd kk
theorem px_astoreN13 {a0 a1 a2 a3 a4 a5 a6 a7 a8 a9 a10 a11 a12 : Option Value} {c : Option Value} {t : pm_Ls}  (hb : pm_nl a12 = true) (hd : decode μ.2.1 pc = .ok (.astore 13, 2)) (kk : EX B D d μ (pc + 2) (a0 :: a1 :: a2 :: a3 :: a4 :: a5 :: a6 :: a7 :: a8 :: a9 :: a10 :: a11 :: a12 :: some (.null) :: t) st h r h1) : EX B D d μ pc (a0 :: a1 :: a2 :: a3 :: a4 :: a5 :: a6 :: a7 :: a8 :: a9 :: a10 :: a11 :: a12 :: c :: t) (.null :: st) h r h1 :=
  px_astoreN (i := 13) (ls := a0 :: a1 :: a2 :: a3 :: a4 :: a5 :: a6 :: a7 :: a8 :: a9 :: a10 :: a11 :: a12 :: c :: t) (fun z hz he => by cases he; exact hb) (by show 13 < _; simp) hd kk
theorem px_iinc13 {a0 a1 a2 a3 a4 a5 a6 a7 a8 a9 a10 a11 a12 : Option Value} {t : pm_Ls} {n : Int} {x v : Int32} (hb : pm_nl a12 = true) (hc : x + Int32.ofInt n = v) (hd : decode μ.2.1 pc = .ok (.iinc 13 n, 3)) (kk : EX B D d μ (pc + 3) (a0 :: a1 :: a2 :: a3 :: a4 :: a5 :: a6 :: a7 :: a8 :: a9 :: a10 :: a11 :: a12 :: some (.int v) :: t) st h r h1) : EX B D d μ pc (a0 :: a1 :: a2 :: a3 :: a4 :: a5 :: a6 :: a7 :: a8 :: a9 :: a10 :: a11 :: a12 :: some (.int x) :: t) st h r h1 :=
  px_iinc (i := 13) (ls := a0 :: a1 :: a2 :: a3 :: a4 :: a5 :: a6 :: a7 :: a8 :: a9 :: a10 :: a11 :: a12 :: some (.int x) :: t) (fun z hz he => by cases he; exact hb) (by simp) hc hd kk
end PX
