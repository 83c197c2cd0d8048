/-! what is made; calls -/
theorem pm_gw_good : ∀ w ∈ pm_gw, (w.onTables && w.keeps) = true ∨ ∃ ty, w = .arrayClass ty := fun _ h => good_of_word (List.mem_filter.mp h).2
/-- a method's own words -/
def pm_mok (ν : pm_M) (k : Nat) : Prop := Cond.code ν.1 ν.2.1 ν.2.2.1 ν.2.2.2 ∈ pm_gw ∧ Cond.initialized ν.1.cls ∈ pm_gw ∧ (ν.1.cls ≠ "java/lang/invoke/MethodHandle" ∧ ν.1.cls ≠ "java/lang/invoke/VarHandle") ∧ (parseMethodDescriptor ν.1.desc).map (fun d => d.parameters.length) = some k ∧ ν.2.2.1 ≤ 20
def pm_lkN (own : String) (i : Nat) (y : MethodName) : Prop := ∃ host : String, Cond.methodLinkNest own i y host ∈ lw_tbl
theorem pm_defq (N : Nat) : (fun j => Value.int ((fun _ : Nat => (0 : Int32)) j)) = (fun _ : Nat => defaultValue .int) := rfl
section PZ
variable {B : Nat} {D : va_G} {d : Nat} {μ : pm_M} {pc : Nat} {ls : pm_Ls} {st : List Value} {n w : Nat} {f : Nat → Option va_E} {r : Option Value} {h1 : pm_H}
theorem px_new {i ci N : Nat} {C : String} {T : u_T} {fs : List Value} (hc : pm_cl[ci]? = some (C, T, N)) (hl : Cond.classLink μ.1.cls i C ∈ pm_gw) (hi : Cond.instantiable C N ∈ pm_gw) (hini : Cond.initialized C ∈ pm_gw) (ty : Nat → FieldType) (hty : ∀ k, k < N → parseFieldDescriptor (T k).2.2.1 = some (ty k)) (hfs : ∀ j, j < N → defaultValue (ty j) = vp_V fs j) (hd : decode μ.2.1 pc = .ok (.new i, 3))
    (kk : EX B D d μ (pc + 3) ls (.ref n :: st) (n + 1, w + N, va_up f n (some (.inr (ci, fs)))) r h1) : EX B D d μ pc ls st (n, w, f) r h1 := by
  have k1 : n + 1 ≤ h1.1 := kk.1.1
  have k2 : w + N ≤ h1.2.1 := kk.1.2
  refine ⟨⟨by show n ≤ h1.1; omega, by show w ≤ h1.2.1; omega⟩, fun p l e R s m args below meth c H locs lsA n0 w0 Q cx hl' hR hlo e1 e2 e3 e4 hq => ?_⟩
  have hKn := cx.2.2.2.2.2.2.2.2.1.1.1 ci _ hc
  have hts := cx.2.2.2.2.2.1
  dsimp only at e1 e2 ⊢
  refine W.newcK cx.1 cx.2.1 cx.2.2.2.2.1 (hts _ hl) (hts _ hi) (hts _ hini) rfl hd (by omega) (by omega) hKn.2.1 hR.1 fun H1 kC hkC g1 z1 o1 => ?_
  refine W.cs (cells' := (n + 1) - n0) (slots' := (w + N) - w0) (by omega) (by omega) ?_
  refine kk.2 p l e R s m args below meth c H1 locs lsA n0 w0 Q cx hl' (hR.push ⟨hR.2.1, _, hc, (u_born ty hts (pm_cl_ok hc).1 hKn hkC g1 hty).to hfs⟩ z1 o1) hlo (by show n0 ≤ n + 1; omega) (by show w0 ≤ w + N; omega) e3 e4 hq
theorem px_newarr {at_ : ArrayType} {t k : Nat} {g : vp_A} {x : Int32} (ht : newarray.typeOf at_ = pm_ty t) (ht9 : t ≠ 9) (hA : Cond.arrayClass (newarray.typeOf at_) ∈ pm_gw) (hg : ∀ cA : ClassId, vp_cell cA g = arrV cA k (fun _ => defaultValue (newarray.typeOf at_))) (hRA : ∀ (s : State) (cA : ClassId), s.vm.findClass ("[" ++ (newarray.typeOf at_).toString) = some cA → va_RA s cA (newarray.typeOf at_)) (hx0 : ¬ x < 0) (hxk : x.toNatClampNeg = k) (hby : k * componentBytes (newarray.typeOf at_) ≤ 536870912) (hd : decode μ.2.1 pc = .ok (.newarray at_, 2))
    (kk : EX B D d μ (pc + 2) ls (.ref n :: st) (n + 1, w + k, va_up f n (some (.inl (t, g)))) r h1) : EX B D d μ pc ls (.int x :: st) (n, w, f) r h1 := by
  have k1 : n + 1 ≤ h1.1 := kk.1.1
  have k2 : w + k ≤ h1.2.1 := kk.1.2
  refine ⟨⟨by show n ≤ h1.1; omega, by show w ≤ h1.2.1; omega⟩, fun p l e R s m args below meth c H locs lsA n0 w0 Q cx hl' hR hlo e1 e2 e3 e4 hq => ?_⟩
  have hts := cx.2.2.2.2.2.1
  dsimp only at e1 e2 ⊢
  refine va_newaK cx.1 cx.2.1 (hts _ hA) rfl hd rfl hx0 hxk hby (by omega) (by omega) hR.1 fun H1 cA g1 z1 o1 hAr hNm => ?_
  refine W.cs (cells' := (n + 1) - n0) (slots' := (w + k) - w0) (by omega) (by omega) ?_
  refine kk.2 p l e R s m args below meth c H1 locs lsA n0 w0 Q cx hl' (hR.push (pm_arr' ht9 ⟨hR.2.1, cA, by rw [← ht]; exact hAr, by rw [← ht]; exact hRA s cA hNm, by rw [hg]; exact g1⟩) z1 o1) hlo (by show n0 ≤ n + 1; omega) (by show w0 ≤ w + k; omega) e3 e4 hq
theorem px_newint {k : Nat} {x : Int32} (hA : Cond.arrayClass .int ∈ pm_gw) (hx0 : ¬ x < 0) (hxk : x.toNatClampNeg = k) (hby : k * 4 ≤ 536870912) (hd : decode μ.2.1 pc = .ok (.newarray .int, 2))
    (kk : EX B D d μ (pc + 2) ls (.ref n :: st) (n + 1, w + k, va_up f n (some (.inl (0, k, .inl (fun _ => 0))))) r h1) : EX B D d μ pc ls (.int x :: st) (n, w, f) r h1 :=
  px_newarr (at_ := .int) (t := 0) rfl (by decide) hA (fun _ => rfl) (fun _ _ h => h) hx0 hxk hby hd kk
theorem px_newbool {k : Nat} {x : Int32} (hA : Cond.arrayClass .boolean ∈ pm_gw) (hx0 : ¬ x < 0) (hxk : x.toNatClampNeg = k) (hby : k * 1 ≤ 536870912) (hd : decode μ.2.1 pc = .ok (.newarray .boolean, 2))
    (kk : EX B D d μ (pc + 2) ls (.ref n :: st) (n + 1, w + k, va_up f n (some (.inl (2, k, .inl (fun _ => 0))))) r h1) : EX B D d μ pc ls (.int x :: st) (n, w, f) r h1 :=
  px_newarr (at_ := .boolean) (t := 2) rfl (by decide) hA (fun _ => rfl) (fun _ _ h => h) hx0 hxk hby hd kk
theorem px_newlong {k : Nat} {x : Int32} (hA : Cond.arrayClass .long ∈ pm_gw) (hx0 : ¬ x < 0) (hxk : x.toNatClampNeg = k) (hby : k * 8 ≤ 536870912) (hd : decode μ.2.1 pc = .ok (.newarray .long, 2))
    (kk : EX B D d μ (pc + 2) ls (.ref n :: st) (n + 1, w + k, va_up f n (some (.inl (1, k, .inr (.inl (fun _ => 0)))))) r h1) : EX B D d μ pc ls (.int x :: st) (n, w, f) r h1 :=
  px_newarr (at_ := .long) (t := 1) rfl (by decide) hA (fun _ => rfl) (fun _ _ h => h) hx0 hxk hby hd kk
theorem px_anew {i t k : Nat} {C : String} {x : Int32} (hC : pm_ty t = .object C) (ht9 : t ≠ 9) (hl : Cond.classLink μ.1.cls i C ∈ pm_gw) (hov : Cond.arrayOver (.object C) ∈ lw_tbl) (hx0 : ¬ x < 0) (hxk : x.toNatClampNeg = k) (hby : k * 4 ≤ 536870912) (hd : decode μ.2.1 pc = .ok (.anewarray i, 3))
    (kk : EX B D d μ (pc + 3) ls (.ref n :: st) (n + 1, w + k, va_up f n (some (.inl (t, k, .inr (.inr (.inr (.inr (fun _ => none)))))))) r h1) : EX B D d μ pc ls (.int x :: st) (n, w, f) r h1 := by
  have k1 : n + 1 ≤ h1.1 := kk.1.1
  have k2 : w + k ≤ h1.2.1 := kk.1.2
  refine ⟨⟨by show n ≤ h1.1; omega, by show w ≤ h1.2.1; omega⟩, fun p l e R s m args below meth c H locs lsA n0 w0 Q cx hl' hR hlo e1 e2 e3 e4 hq => ?_⟩
  have hts := cx.2.2.2.2.2.1
  have hover := cx.2.2.2.2.2.2.2.2.1.2.2 C hov
  dsimp only at e1 e2 ⊢
  subst hxk
  refine W.anew cx.1 cx.2.1 cx.2.2.2.2.1 (hts _ hl) (va_AO.use hover) rfl hd rfl hx0 hby (by omega) (by omega) fun cA kA comp f1 f2 f3 f4 => ?_
  have hsz := hR.1
  dsimp only at hsz
  generalize hH1 : H.push ({ cls := cA, slots := Array.replicate x.toNatClampNeg .null, vm := .none } : Cell) = H1
  have z1 : H1.size = n + 1 := by rw [← hH1, Array.size_push, hsz]
  have g1 : H1[n]? = some (arrV cA x.toNatClampNeg (fun _ => .null)) := by rw [← hH1, ← hsz, Array.getElem?_push_size, ← arrV_new]
  have o1 : ∀ q : Nat, q < n → H1[q]? = H[q]? := fun q hq => by rw [← hH1, Array.getElem?_push, if_neg (by omega)]
  have hAr : ArrOfT s cA (.object C) := fun N z => ⟨(fun k h => by cases h), kA, f2, comp, f3⟩
  rw [hsz]
  refine W.cs (cells' := (n + 1) - n0) (slots' := (w + x.toNatClampNeg) - w0) (by omega) (by omega) ?_
  refine kk.2 p l e R s m args below meth c H1 locs lsA n0 w0 Q cx hl' (hR.push (pm_arr' ht9 ⟨hR.2.1, cA, by rw [hC]; exact hAr, by rw [hC]; exact ⟨kA, comp, f2, f3, f4, f1⟩, by rw [vp_cell_q]; exact g1⟩) z1 o1) hlo (by show n0 ≤ n + 1; omega) (by show w0 ≤ w + _; omega) e3 e4 hq
theorem pm_rest4 {st : List Value} (h : st.length ≤ 4) : (st.map fun v => v.category).sum ≤ 8 := by
  have key : ∀ (l : List Value), (l.map fun v => v.category).sum ≤ 2 * l.length := by
    intro l
    induction l with
    | nil => exact Nat.le_refl _
    | cons a t ih =>
      have : a.category ≤ 2 := by cases a <;> simp [Value.category]
      simp only [List.map_cons, List.sum_cons, List.length_cons]
      omega
  have := key st
  omega
theorem px_objinit {i a : Nat} (hl : Cond.methodLink μ.1.cls i objectInit ∈ pm_gw) (hin : Cond.instanceMethod objectInit ∈ pm_gw) (hco : Cond.code objectInit ⟨#[0xb1]⟩ 1 none ∈ pm_gw) (hd0 : 1 ≤ d) (hst : st.length ≤ 4) (hd : decode μ.2.1 pc = .ok (.invokespecial i, 3)) (kk : EX B D d μ (pc + 3) ls st (n, w, f) r h1) : EX B D d μ pc ls (.ref a :: st) (n, w, f) r h1 := by
  refine ⟨kk.1, fun p l e R s m args below meth c H locs lsA n0 w0 Q cx hl' hR hlo e1 e2 e3 e4 hq => ?_⟩
  have hts := cx.2.2.2.2.2.1
  have h8 := pm_rest4 hst
  have hR1 := cx.2.2.2.2.2.2.2.2.2.1
  have hR2 := cx.2.2.2.2.2.2.2.2.2.2
  exact W.objInit cx.1 cx.2.1 cx.2.2.2.2.1 (hts _ hl) (hts _ hin) (hts _ hco) rfl (by rw [cx.2.2.2.1]; exact hl'.1) rfl hd (by omega) (by show 2 * 0 + _ + 12 ≤ _; omega) (W.eq (g2 := F0 m (pc + 3) lsA st) rfl (kk.2 p l e R s m args below meth c H locs lsA n0 w0 Q cx hl' hR hlo e1 e2 e3 e4 hq))
/-- behind a call -/
theorem pm_after {p : Program} {l : Launch} {e : Env} {R : Room} {s : State} {m : MethodId} {args : Array Value} {below : List Frame} {meth : Method} {c : Code} {H : Heap} {locs : List Loc} {lsA : Array Slot} {n0 w0 : Nat} {Q : State → Prop} {h h2 : pm_H} {v : Option Value} {st0 : List Value} (hr : va_Run p l e R s m args below meth c H locs (h.1 - n0) (h.2.1 - w0) (h2.1 - h.1) (h2.2.1 - h.2.1) (F0 m pc lsA st0) st (fun _ o t => o = .returned v ∧ pm_R B D t t.heap h2) (fun q => B ≤ q)) (hm : h.1 ≤ h2.1 ∧ h.2.1 ≤ h2.2.1) (hlo : ∀ q ∈ locs, B ≤ q.base) (e1 : n0 ≤ h.1) (e2 : w0 ≤ h.2.1)
    (kk : EX B D d μ (pc + 3) ls (v.toList ++ st) h2 r h1) (cx : pm_cx D d μ p R s m args meth c) (hl : pm_L lsA μ.2.2.1 ls) (e3 : h1.1 - n0 ≤ R.cells) (e4 : h1.2.1 - w0 ≤ R.slots) (hq : pm_end B D μ r h1 p l e R s m args below meth c n0 w0 Q) : W p l e R s m args below meth c H locs (h.1 - n0) (h.2.1 - w0) Q (F0 m pc lsA st0) := by
  intro T hT X
  obtain ⟨v', st₀, t, T', L, g0, X', hL, f1, f2, ⟨hv, hR1⟩, stp⟩ := hr T hT X
  cases hv
  rw [show h.1 - n0 + (h2.1 - h.1) = h2.1 - n0 by omega, show h.2.1 - w0 + (h2.2.1 - h.2.1) = h2.2.1 - w0 by omega] at X'
  obtain ⟨t2, a1, b1⟩ := kk.2 p l e R s m args below meth c T'.heap (locs ++ L) lsA n0 w0 Q cx hl (by
      rw [f1]
      exact hR1.moved (by rw [← f2]; exact X'.warmed.alike.symm)) (fun q hq => by
      rcases List.mem_append.mp hq with h | h
      · exact hlo q h
      · exact hL q h) (by omega) (by omega) e3 e4 hq T' rfl X'
  exact ⟨t2, stp t2 a1, b1⟩
theorem pm_pay {s : State} {args : Array Value} {ν : pm_M} {k : Nat} (hts : ∀ w ∈ pm_gw, w.before args s = true) (hν : pm_mok ν k) : ∀ w ∈ pm_ws ν, ∀ (a' : Array Value) (U : State), s.WarmedH U.vm → w.before a' U = true := by
  intro w hw a' U hW
  have h1 : w ∈ pm_gw := by
    rcases List.mem_cons.mp hw with h | h
    · rw [h]; exact hν.1
    · exact h
  exact word_at hW (pm_gw_good w h1) (hts w h1)
theorem pm_blind {as : List Value} {h : pm_H} : FrameBlind (fun a U => a = as.toArray ∧ pm_K D U ∧ pm_R B D U U.heap h) := by
  intro a U g mk q
  exact ⟨q.1, q.2.1.same rfl, q.2.2.moved (u := U) (U := U.calling g mk a) (Vm.Alike.refl U.vm)⟩
theorem px_callV {ν : pm_M} {i ci b k d1 : Nat} {q : vw_C} {As sk : List Value} {v : Option Value} {fs : List Value} {h2 : pm_H} (hq0 : pm_cl[ci]? = some q) (hqc : q.1 = ν.1.cls) (hl : Cond.methodLink μ.1.cls i ν.1 ∈ pm_gw) (hin : Cond.instanceMethod ν.1 ∈ pm_gw) (hse : Cond.selects ν.1.cls ν.1 ν.1 ∈ pm_gw) (hν : pm_mok ν k) (hd : decode μ.2.1 pc = .ok (.invokevirtual i, 3)) (hC : CT B D d1 ν (.ref b :: As) (n, w, f) v h2) (hb : f b = some (.inr (ci, fs))) (hk : As.length = k) (hsk : sk = As.reverse ++ .ref b :: st) (hdd : d1 + 1 ≤ d) (hst : st.length ≤ 4)
    (kk : EX B D d μ (pc + 3) ls (v.toList ++ st) h2 r h1) : EX B D d μ pc ls sk (n, w, f) r h1 := by
  refine ⟨⟨Nat.le_trans hC.1.1 kk.1.1, Nat.le_trans hC.1.2 kk.1.2⟩, fun p l e R s m args below meth c H locs lsA n0 w0 Q cx hl' hR hlo e1 e2 e3 e4 hq => ?_⟩
  have hts := cx.2.2.2.2.2.1
  have hm := hC.1
  have hm2 := kk.1
  have hR1 := cx.2.2.2.2.2.2.2.2.2.1
  have hR2 := cx.2.2.2.2.2.2.2.2.2.2
  have hν5 := hν.2.2.2.2
  refine pm_after (h := (n, w, f)) (h2 := h2) (st0 := sk) ?_ hm hlo e1 e2 kk cx hl' e3 e4 hq
  subst hsk
  refine va_runV (cc := μ.2.1) (nL := μ.2.2.1) (Ts := pm_gw) (own := μ.1.cls) (C := ν.1.cls) (y := ν.1) (bytes := ν.2.1) (maxL := ν.2.2.1) (ret := ν.2.2.2) (n := k) (b := b) (As := As) ⟨cx.1, cx.2.1, cx.2.2.2.1, cx.2.2.2.2.1, hts⟩ (hC.2 l) ⟨⟨rfl, rfl, ?_, ?_, pm_pay hts hν, List.mem_cons_self, hts _ hν.1, hts _ hν.2.1, hν.2.2.1, ?_, hts _ hl⟩, hts _ hin, hts _ hse⟩ ⟨pm_blind, ?_, ?_⟩ rfl hk hl'.1 rfl ?_ hd ⟨?_, ?_⟩
  · show d1 + 1 ≤ R.frames; omega
  · show 8 + (ν.2.2.1 + 11) + 40 * d1 ≤ R.locals; omega
  · intro sig hs
    have := hν.2.2.2.1
    rw [hs] at this
    exact (Option.some.inj this).symm
  · obtain ⟨q', h1', cell, g1, g2, g3, -⟩ := (hR.2.2 b _ hb).2
    have hr : q' = q := Option.some.inj (h1'.symm.trans hq0)
    subst hr
    exact ⟨cell, g1, by rw [g3]; rfl, by rw [g2, ← hqc]; exact (cx.2.2.2.2.2.2.2.2.1.1.1 ci _ hq0).2.1⟩
  · intro U hU hW
    exact ⟨rfl, cx.2.2.2.2.2.2.2.2.1.warm hW, by rw [hU]; exact hR.moved hW.alike⟩
  · exact lv_room (pm_rest4 hst)
  · show n - n0 + (h2.1 - n) ≤ R.cells
    have := hm2.1; dsimp only at hm e1; omega
  · show w - w0 + (h2.2.1 - w) ≤ R.slots
    have := hm2.2; dsimp only at hm e2; omega
theorem px_callS {ν : pm_M} {i k d1 : Nat} {As sk : List Value} {v : Option Value} {h2 : pm_H} (hl : Cond.methodLink μ.1.cls i ν.1 ∈ pm_gw) (hstt : Cond.static ν.1 ∈ pm_gw) (hν : pm_mok ν k) (hd : decode μ.2.1 pc = .ok (.invokestatic i, 3)) (hC : CT B D d1 ν As (n, w, f) v h2) (hk : As.length = k) (hsk : sk = As.reverse ++ st) (hdd : d1 + 1 ≤ d) (hst : st.length ≤ 4)
    (kk : EX B D d μ (pc + 3) ls (v.toList ++ st) h2 r h1) : EX B D d μ pc ls sk (n, w, f) r h1 := by
  refine ⟨⟨Nat.le_trans hC.1.1 kk.1.1, Nat.le_trans hC.1.2 kk.1.2⟩, fun p l e R s m args below meth c H locs lsA n0 w0 Q cx hl' hR hlo e1 e2 e3 e4 hq => ?_⟩
  have hts := cx.2.2.2.2.2.1
  have hm := hC.1
  have hm2 := kk.1
  have hR1 := cx.2.2.2.2.2.2.2.2.2.1
  have hR2 := cx.2.2.2.2.2.2.2.2.2.2
  have hν5 := hν.2.2.2.2
  refine pm_after (h := (n, w, f)) (h2 := h2) (st0 := sk) ?_ hm hlo e1 e2 kk cx hl' e3 e4 hq
  subst hsk
  refine va_runS (cc := μ.2.1) (nL := μ.2.2.1) (Ts := pm_gw) (own := μ.1.cls) (y := ν.1) (bytes := ν.2.1) (maxL := ν.2.2.1) (ret := ν.2.2.2) (n := k) (As := As) ⟨cx.1, cx.2.1, cx.2.2.2.1, cx.2.2.2.2.1, hts⟩ (hC.2 l) ⟨⟨rfl, rfl, ?_, ?_, pm_pay hts hν, List.mem_cons_self, hts _ hν.1, hts _ hν.2.1, hν.2.2.1, ?_, hts _ hl⟩, hts _ hstt⟩ ⟨pm_blind, ?_⟩ rfl hk hl'.1 rfl ?_ hd ⟨?_, ?_⟩
  · show d1 + 1 ≤ R.frames; omega
  · show 8 + (ν.2.2.1 + 11) + 40 * d1 ≤ R.locals; omega
  · intro sig hs
    have := hν.2.2.2.1
    rw [hs] at this
    exact (Option.some.inj this).symm
  · intro U hU hW
    exact ⟨rfl, cx.2.2.2.2.2.2.2.2.1.warm hW, by rw [hU]; exact hR.moved hW.alike⟩
  · exact lv_room (pm_rest4 hst)
  · show n - n0 + (h2.1 - n) ≤ R.cells
    have := hm2.1; dsimp only at hm e1; omega
  · show w - w0 + (h2.2.1 - w) ≤ R.slots
    have := hm2.2; dsimp only at hm e2; omega
theorem px_callSN {ν : pm_M} {i k d1 : Nat} {As sk : List Value} {v : Option Value} {h2 : pm_H} (hl : pm_lkN μ.1.cls i ν.1) (hstt : Cond.static ν.1 ∈ pm_gw) (hν : pm_mok ν k) (hd : decode μ.2.1 pc = .ok (.invokestatic i, 3)) (hC : CT B D d1 ν As (n, w, f) v h2) (hk : As.length = k) (hsk : sk = As.reverse ++ st) (hdd : d1 + 1 ≤ d) (hst : st.length ≤ 4)
    (kk : EX B D d μ (pc + 3) ls (v.toList ++ st) h2 r h1) : EX B D d μ pc ls sk (n, w, f) r h1 := by
  refine ⟨⟨Nat.le_trans hC.1.1 kk.1.1, Nat.le_trans hC.1.2 kk.1.2⟩, fun p l e R s m args below meth c H locs lsA n0 w0 Q cx hl' hR hlo e1 e2 e3 e4 hq => ?_⟩
  have hts := cx.2.2.2.2.2.1
  have hm := hC.1
  have hm2 := kk.1
  have hR1 := cx.2.2.2.2.2.2.2.2.2.1
  have hR2 := cx.2.2.2.2.2.2.2.2.2.2
  have hν5 := hν.2.2.2.2
  obtain ⟨host, hln⟩ := hl
  refine pm_after (h := (n, w, f)) (h2 := h2) (st0 := sk) ?_ hm hlo e1 e2 kk cx hl' e3 e4 hq
  subst hsk
  refine va_runSN (cc := μ.2.1) (nL := μ.2.2.1) (Ts := pm_gw) (own := μ.1.cls) (host := host) (y := ν.1) (bytes := ν.2.1) (maxL := ν.2.2.1) (ret := ν.2.2.2) (n := k) (As := As) ⟨cx.1, cx.2.1, cx.2.2.2.1, cx.2.2.2.2.1, hts⟩ (hC.2 l) ⟨⟨⟨rfl, rfl, ?_, ?_, pm_pay hts hν, List.mem_cons_self⟩, hts _ hν.1, hts _ hν.2.1, hν.2.2.1, ?_, va_Nw.use rfl (cx.2.2.2.2.2.2.2.2.1.2.1 _ _ _ _ hln)⟩, hts _ hstt, trivial⟩ ⟨pm_blind, ?_⟩ rfl hk hl'.1 rfl ?_ hd ⟨?_, ?_⟩
  · show d1 + 1 ≤ R.frames; omega
  · show 8 + (ν.2.2.1 + 11) + 40 * d1 ≤ R.locals; omega
  · intro sig hs
    have := hν.2.2.2.1
    rw [hs] at this
    exact (Option.some.inj this).symm
  · intro U hU hW
    exact ⟨rfl, cx.2.2.2.2.2.2.2.2.1.warm hW, by rw [hU]; exact hR.moved hW.alike⟩
  · exact lv_room (pm_rest4 hst)
  · show n - n0 + (h2.1 - n) ≤ R.cells
    have := hm2.1; dsimp only at hm e1; omega
  · show w - w0 + (h2.2.1 - w) ≤ R.slots
    have := hm2.2; dsimp only at hm e2; omega
theorem px_callI {ν : pm_M} {i b k d1 : Nat} {As sk : List Value} {h2 : pm_H} (hret : ν.2.2.2 = none) (hini : ν.1.name = "<init>") (hl : Cond.methodLink μ.1.cls i ν.1 ∈ pm_gw) (hin : Cond.instanceMethod ν.1 ∈ pm_gw) (hν : pm_mok ν k) (hd : decode μ.2.1 pc = .ok (.invokespecial i, 3)) (hC : CT B D d1 ν (.ref b :: As) (n, w, f) none h2) (hk : As.length = k) (hsk : sk = As.reverse ++ .ref b :: st) (hdd : d1 + 1 ≤ d) (hst : st.length ≤ 4)
    (kk : EX B D d μ (pc + 3) ls st h2 r h1) : EX B D d μ pc ls sk (n, w, f) r h1 := by
  refine ⟨⟨Nat.le_trans hC.1.1 kk.1.1, Nat.le_trans hC.1.2 kk.1.2⟩, fun p l e R s m args below meth c H locs lsA n0 w0 Q cx hl' hR hlo e1 e2 e3 e4 hq => ?_⟩
  have hts := cx.2.2.2.2.2.1
  have hm := hC.1
  have hm2 := kk.1
  have hR1 := cx.2.2.2.2.2.2.2.2.2.1
  have hR2 := cx.2.2.2.2.2.2.2.2.2.2
  have hν5 := hν.2.2.2.2
  refine pm_after (h := (n, w, f)) (h2 := h2) (st0 := sk) (v := none) ?_ hm hlo e1 e2 kk cx hl' e3 e4 hq
  subst hsk
  refine va_runI (cc := μ.2.1) (nL := μ.2.2.1) (Ts := pm_gw) (own := μ.1.cls) (y := ν.1) (bytes := ν.2.1) (maxL := ν.2.2.1) (n := k) (b := b) (As := As) ⟨cx.1, cx.2.1, cx.2.2.2.1, cx.2.2.2.2.1, hts⟩ (hC.2 l) ⟨⟨rfl, rfl, ?_, ?_, pm_pay hts hν, by rw [← hret]; exact List.mem_cons_self, by rw [← hret]; exact hts _ hν.1, hts _ hν.2.1, hν.2.2.1, ?_, hts _ hl⟩, hini, hts _ hin⟩ ⟨pm_blind, ?_⟩ rfl hk hl'.1 rfl ?_ hd ⟨?_, ?_⟩
  · show d1 + 1 ≤ R.frames; omega
  · show 8 + (ν.2.2.1 + 11) + 40 * d1 ≤ R.locals; omega
  · intro sig hs
    have := hν.2.2.2.1
    rw [hs] at this
    exact (Option.some.inj this).symm
  · intro U hU hW
    exact ⟨rfl, cx.2.2.2.2.2.2.2.2.1.warm hW, by rw [hU]; exact hR.moved hW.alike⟩
  · exact lv_room (pm_rest4 hst)
  · show n - n0 + (h2.1 - n) ≤ R.cells
    have := hm2.1; dsimp only at hm e1; omega
  · show w - w0 + (h2.2.1 - w) ≤ R.slots
    have := hm2.2; dsimp only at hm e2; omega
theorem px_callIN {ν : pm_M} {i b k d1 : Nat} {As sk : List Value} {h2 : pm_H} (hret : ν.2.2.2 = none) (hini : ν.1.name = "<init>") (hl : pm_lkN μ.1.cls i ν.1) (hin : Cond.instanceMethod ν.1 ∈ pm_gw) (hν : pm_mok ν k) (hd : decode μ.2.1 pc = .ok (.invokespecial i, 3)) (hC : CT B D d1 ν (.ref b :: As) (n, w, f) none h2) (hk : As.length = k) (hsk : sk = As.reverse ++ .ref b :: st) (hdd : d1 + 1 ≤ d) (hst : st.length ≤ 4)
    (kk : EX B D d μ (pc + 3) ls st h2 r h1) : EX B D d μ pc ls sk (n, w, f) r h1 := by
  refine ⟨⟨Nat.le_trans hC.1.1 kk.1.1, Nat.le_trans hC.1.2 kk.1.2⟩, fun p l e R s m args below meth c H locs lsA n0 w0 Q cx hl' hR hlo e1 e2 e3 e4 hq => ?_⟩
  have hts := cx.2.2.2.2.2.1
  have hm := hC.1
  have hm2 := kk.1
  have hR1 := cx.2.2.2.2.2.2.2.2.2.1
  have hR2 := cx.2.2.2.2.2.2.2.2.2.2
  have hν5 := hν.2.2.2.2
  obtain ⟨host, hln⟩ := hl
  refine pm_after (h := (n, w, f)) (h2 := h2) (st0 := sk) (v := none) ?_ hm hlo e1 e2 kk cx hl' e3 e4 hq
  subst hsk
  refine va_runIN (cc := μ.2.1) (nL := μ.2.2.1) (Ts := pm_gw) (own := μ.1.cls) (host := host) (y := ν.1) (bytes := ν.2.1) (maxL := ν.2.2.1) (n := k) (b := b) (As := As) ⟨cx.1, cx.2.1, cx.2.2.2.1, cx.2.2.2.2.1, hts⟩ (hC.2 l) ⟨⟨⟨rfl, rfl, ?_, ?_, pm_pay hts hν, by rw [← hret]; exact List.mem_cons_self⟩, by rw [← hret]; exact hts _ hν.1, hts _ hν.2.1, hν.2.2.1, ?_, va_Nw.use rfl (cx.2.2.2.2.2.2.2.2.1.2.1 _ _ _ _ hln)⟩, hini, hts _ hin⟩ ⟨pm_blind, ?_⟩ rfl hk hl'.1 rfl ?_ hd ⟨?_, ?_⟩
  · show d1 + 1 ≤ R.frames; omega
  · show 8 + (ν.2.2.1 + 11) + 40 * d1 ≤ R.locals; omega
  · intro sig hs
    have := hν.2.2.2.1
    rw [hs] at this
    exact (Option.some.inj this).symm
  · intro U hU hW
    exact ⟨rfl, cx.2.2.2.2.2.2.2.2.1.warm hW, by rw [hU]; exact hR.moved hW.alike⟩
  · exact lv_room (pm_rest4 hst)
  · show n - n0 + (h2.1 - n) ≤ R.cells
    have := hm2.1; dsimp only at hm e1; omega
  · show w - w0 + (h2.2.1 - w) ≤ R.slots
    have := hm2.2; dsimp only at hm e2; omega
/-! returns -/
theorem px_ret {rv : Option Value} (hr : rv.toList = st) (hd : decode μ.2.1 pc = .ok (pm_ret μ.2.2.2, 1)) : EX B D d μ pc ls st (n, w, f) rv (n, w, f) := by
  subst hr
  refine ⟨⟨Nat.le_refl _, Nat.le_refl _⟩, fun p l e R s m args below meth c H locs lsA n0 w0 Q cx hl' hR hlo e1 e2 e3 e4 hq => ?_⟩
  exact hq H locs lsA pc hd hR hlo
/-- the locals may be forgotten -/
theorem px_less {h : pm_H} {ls2 : pm_Ls} (hlen : ls2.length = ls.length) (hle : ∀ (i : Nat) (v : Value), ls2[i]? = some (some v) → ls[i]? = some (some v)) (kk : EX B D d μ pc ls2 st h r h1) : EX B D d μ pc ls st h r h1 := by
  refine ⟨kk.1, fun p l e R s m args below meth c H locs lsA n0 w0 Q cx hl hR hlo e1 e2 e3 e4 hq => ?_⟩
  exact kk.2 p l e R s m args below meth c H locs lsA n0 w0 Q cx ⟨hl.1, hl.2.1, hlen.trans hl.2.2.1, fun i v h => hl.2.2.2 i v (hle i v h)⟩ hR hlo e1 e2 e3 e4 hq
/-- a heap told otherwise -/
theorem px_heap {h h' : pm_H} (he : h = h') (kk : EX B D d μ pc ls st h' r h1) : EX B D d μ pc ls st h r h1 := he ▸ kk
end PZ
