/-! rules for the heap and for calls -/
theorem pm_gw_of {w : Cond} (i : Nat) (h : lw_tbl[i]? = some w) (hg : goodWord w = true) : w ∈ pm_gw := List.mem_filter.mpr ⟨List.mem_of_getElem? h, hg⟩
def pm_okc (q : vw_C) : Prop := (∀ w ∈ u_ws q.1 q.2.1 q.2.2, w ∈ pm_gw) ∧ (∀ a, a < q.2.2 → ∀ b, b < q.2.2 → a ≠ b → (q.2.1 a).2.1 ≠ (q.2.1 b).2.1) ∧ ∃ ty : Nat → FieldType, ∀ k, k < q.2.2 → parseFieldDescriptor (q.2.1 k).2.2.1 = some (ty k)
theorem pm_ok0 : pm_okc (RX0, TX0, 11) := ⟨by decide +kernel, nmX0, tyX0, tyX0_ok⟩
theorem pm_ok1 : pm_okc (RX1, TX1, 5) := ⟨by decide +kernel, nmX1, tyX1, tyX1_ok⟩
theorem pm_ok2 : pm_okc (RX2, TX2, 3) := ⟨by decide +kernel, nmX2, tyX2, tyX2_ok⟩
theorem pm_ok3 : pm_okc (RX3, TX3, 2) := ⟨by decide +kernel, nmX3, tyX3, tyX3_ok⟩
theorem pm_ok4 : pm_okc (RX4, TX4, 7) := ⟨by decide +kernel, nmX4, tyX4, tyX4_ok⟩
theorem pm_ok5 : pm_okc (RX5, TX5, 4) := ⟨by decide +kernel, nmX5, tyX5, tyX5_ok⟩
theorem pm_ok6 : pm_okc (RX6, TX6, 7) := ⟨by decide +kernel, nmX6, tyX6, tyX6_ok⟩
theorem pm_ok7 : pm_okc (RX7, TX7, 29) := ⟨by decide +kernel, nmX7, tyX7, tyX7_ok⟩
theorem pm_cl_ok {ci : Nat} {q : vw_C} (h : pm_cl[ci]? = some q) : pm_okc q := by
  match ci with
  | 0 => cases h; exact pm_ok0
  | 1 => cases h; exact pm_ok1
  | 2 => cases h; exact pm_ok2
  | 3 => cases h; exact pm_ok3
  | 4 => cases h; exact pm_ok4
  | 5 => cases h; exact pm_ok5
  | 6 => cases h; exact pm_ok6
  | 7 => cases h; exact pm_ok7
  | _ + 8 => cases h
/-- place k of an object of class ci, as the class 'own' reads it by its entry i -/
def pm_fl (own : String) (i ci k : Nat) : Prop := ∃ q : vw_C, pm_cl[ci]? = some q ∧ k < q.2.2 ∧ (q.2.1 k).1 = q.1 ∧ Cond.fieldLink own i q.1 (q.2.1 k).2.1 (q.2.1 k).2.2.1 ∈ pm_gw
/-- and writes it: of type ty; fin: it is final -/
def pm_fp (own : String) (i ci k : Nat) (fin : Bool) (ty : FieldType) : Prop := ∃ q : vw_C, pm_cl[ci]? = some q ∧ k < q.2.2 ∧ (q.2.1 k).1 = q.1 ∧ Cond.fieldLink own i q.1 (q.2.1 k).2.1 (q.2.1 k).2.2.1 ∈ pm_gw ∧ (q.2.1 k).2.2.2 = fin ∧ parseFieldDescriptor (q.2.1 k).2.2.1 = some ty
theorem pm_one {D : va_G} {a : Nat} {e : va_E} {H : Heap} (h : va_at D pm_cl (a, e) H) : va_P D pm_cl [(a, e)] H := by
  intro k q hk
  match k with
  | 0 => cases hk; exact h
  | _ + 1 => cases hk
theorem pm_rin {i : Int32} {n : Nat} (h : 0 ≤ i.toInt ∧ i.toInt < n) : vp_in i n := vp_in_iff.mpr h
theorem pm_arr {B : Nat} {D : va_G} {s : State} {a t : Nat} {x : vp_A} {H : Heap} (h : pm_at B D s a (.inl (t, x)) H) (ht : t ≠ 9) : B ≤ a ∧ ∃ cA : ClassId, ArrOfT s cA (pm_ty t) ∧ va_RA s cA (pm_ty t) ∧ H[a]? = some (vp_cell cA x) := by
  unfold pm_at at h
  dsimp only at h
  rw [if_neg ht] at h
  exact h
theorem pm_arr' {B : Nat} {D : va_G} {s : State} {a t : Nat} {x : vp_A} {H : Heap} (ht : t ≠ 9) (h : B ≤ a ∧ ∃ cA : ClassId, ArrOfT s cA (pm_ty t) ∧ va_RA s cA (pm_ty t) ∧ H[a]? = some (vp_cell cA x)) : pm_at B D s a (.inl (t, x)) H := by
  unfold pm_at
  dsimp only
  rw [if_neg ht]
  exact h
theorem pm_scr {B : Nat} {D : va_G} {s : State} {a L : Nat} {xs : Nat → Int32} {H : Heap} (h : pm_at B D s a (.inl (9, L, .inl xs)) H) : va_X a L xs s H := by
  unfold pm_at at h
  dsimp only at h
  rw [if_pos rfl] at h
  obtain ⟨-, L', xs', he, hX⟩ := h
  cases he
  exact hX
theorem pm_K1 {D : va_G} {s : State} {cA : ClassId} {ty : FieldType} (hK : va_K D pm_cl [] s) (h1 : ArrOfT s cA ty) (h2 : va_RA s cA ty) : va_K D pm_cl [(cA, ty)] s := by
  refine ⟨hK.1, fun k q hk => ?_⟩
  match k with
  | 0 => cases hk; exact ⟨h1, h2⟩
  | _ + 1 => cases hk
section PY
variable {B : Nat} {D : va_G} {d : Nat} {μ : pm_M} {pc : Nat} {ls : pm_Ls} {st : List Value} {n w : Nat} {f : Nat → Option va_E} {r : Option Value} {h1 : pm_H}
theorem px_getfield {i ci k a : Nat} {fs : List Value} {v : Value} (hF : pm_fl μ.1.cls i ci k) (hd : decode μ.2.1 pc = .ok (.getfield i, 3)) (ha : f a = some (.inr (ci, fs))) (hv : fs[k]? = some v) (kk : EX B D d μ (pc + 3) ls (v :: st) (n, w, f) r h1) : EX B D d μ pc ls (.ref a :: st) (n, w, f) r h1 := by
  refine ⟨kk.1, fun p l e R s m args below meth c H locs lsA n0 w0 Q cx hl hR hlo e1 e2 e3 e4 hq => ?_⟩
  obtain ⟨q, hqq, hk, hO, hlk⟩ := hF
  have hP := pm_one (hR.2.2 a _ ha).2
  exact va_get cx.1 cx.2.1 cx.2.2.2.2.2.1 (pm_cl_ok hqq).1 cx.2.2.2.2.1 cx.2.2.2.2.2.2.2.2.1.1 hP 0 rfl hqq k hk (cx.2.2.2.2.2.1 _ hlk) (fun x hx => by rw [hO] at hx; exact hx) hv hd (kk.2 p l e R s m args below meth c H locs lsA n0 w0 Q cx hl hR hlo e1 e2 e3 e4 hq)
theorem px_putfield {i ci k a : Nat} {fs : List Value} {v : Value} {ty : FieldType} (hF : pm_fp μ.1.cls i ci k false ty) (hd : decode μ.2.1 pc = .ok (.putfield i, 3)) (ha : f a = some (.inr (ci, fs))) (hn : narrow ty v = v) (hfit : fits ty v = true) (hlen : k < fs.length) (kk : EX B D d μ (pc + 3) ls st (n, w, va_up f a (some (.inr (ci, fs.set k v)))) r h1) : EX B D d μ pc ls (v :: .ref a :: st) (n, w, f) r h1 := by
  refine ⟨kk.1, fun p l e R s m args below meth c H locs lsA n0 w0 Q cx hl hR hlo e1 e2 e3 e4 hq => ?_⟩
  obtain ⟨⟨C, T, N⟩, hc, hk, hO, hlk, hfin, hdty⟩ := hF
  dsimp only at hk hO hlk hfin hdty
  obtain ⟨hin, hnm, ty0, hty⟩ := pm_cl_ok hc
  have hx := cx.1
  have hb := cx.2.1
  have hown := cx.2.2.2.2.1
  have hts := cx.2.2.2.2.2.1
  have hK := cx.2.2.2.2.2.2.2.2.1.1
  obtain ⟨hBa, hat⟩ := hR.2.2 a _ ha
  obtain ⟨q', h1', cell, q1, q2, q3, q4⟩ := hat
  have hr : q' = (C, T, N) := Option.some.inj (h1'.symm.trans hc)
  subst hr
  have hap := va_apart (own := μ.1.cls) hts hin ty0 hty hnm hK hc
  obtain ⟨hS, hfc, kC, hkC, hkind⟩ := hK.1 ci _ hc
  obtain ⟨cf, kf, fi, fd, hi, hsl⟩ := hS k hk
  have hlay := hts _ (hin _ (u_in_lay hk))
  unfold u_lay at hlay
  rw [if_neg (by rw [hfin]; decide)] at hlay
  have hst := (u_facts hfc hkC (u_lays hts hin hk) hi).1
  have h6 := u_store hfc hkC hkind hlay hi hdty hn hfit
  refine W.putK hx hb (f := fd) ⟨hown, hts _ hlk, ⟨_, _, _, by rw [hO] at hi; exact hi⟩, hst⟩ (by rw [q2]; exact h6) q1 q3 (by rw [hsl]; exact k2_hasslot (q4 k hk)) rfl rfl hd fun H' g1 g2 g3 => ?_
  rw [hsl] at g1 ⊢
  refine kk.2 p l e R s m args below meth c H' _ lsA n0 w0 Q cx hl (hR.set ⟨hBa, _, hc, t_OB.to (V := updV (vp_V fs) k v) ⟨_, g1, q2, q3, t_set q4 hap hk v⟩ (fun j _ => vp_updV_set hlen v j)⟩ g2 g3) (fun q hq => ?_) e1 e2 e3 e4 hq
  rcases List.mem_append.mp hq with h | h
  · exact hlo q h
  · rw [List.mem_singleton.mp h]; exact hBa
theorem px_putfieldF {i ci k a : Nat} {fs : List Value} {v : Value} {ty : FieldType} (hF : pm_fp μ.1.cls i ci k true ty) (hin2 : μ.1.name = "<init>") (hcc : (pm_cl[ci]?).map (fun q => q.1) = some μ.1.cls) (hd : decode μ.2.1 pc = .ok (.putfield i, 3)) (ha : f a = some (.inr (ci, fs))) (hn : narrow ty v = v) (hfit : fits ty v = true) (hlen : k < fs.length) (kk : EX B D d μ (pc + 3) ls st (n, w, va_up f a (some (.inr (ci, fs.set k v)))) r h1) : EX B D d μ pc ls (v :: .ref a :: st) (n, w, f) r h1 := by
  refine ⟨kk.1, fun p l e R s m args below meth c H locs lsA n0 w0 Q cx hl hR hlo e1 e2 e3 e4 hq => ?_⟩
  obtain ⟨⟨C, T, N⟩, hc, hk, hO, hlk, hfin, hdty⟩ := hF
  dsimp only at hk hO hlk hfin hdty
  rw [hc] at hcc
  have hCown : C = μ.1.cls := Option.some.inj hcc
  obtain ⟨hin, hnm, ty0, hty⟩ := pm_cl_ok hc
  have hx := cx.1
  have hb := cx.2.1
  have hown := cx.2.2.2.2.1
  have hts := cx.2.2.2.2.2.1
  have hname := cx.2.2.2.2.2.2.2.1
  have hK := cx.2.2.2.2.2.2.2.2.1.1
  obtain ⟨hBa, hat⟩ := hR.2.2 a _ ha
  obtain ⟨q', h1', cell, q1, q2, q3, q4⟩ := hat
  have hr : q' = (C, T, N) := Option.some.inj (h1'.symm.trans hc)
  subst hr
  have hap := va_apart (own := μ.1.cls) hts hin ty0 hty hnm hK hc
  obtain ⟨hS, hfc, kC, hkC, hkind⟩ := hK.1 ci _ hc
  obtain ⟨cf, kf, fi, fd, hi, hsl⟩ := hS k hk
  have hlay := hts _ (hin _ (u_in_lay hk))
  unfold u_lay at hlay
  rw [if_pos hfin] at hlay
  have hst := (u_facts hfc hkC (u_lays hts hin hk) hi).1
  have hcf : m.cls = cf := by
    obtain ⟨_, _, c', _, _, _, -, -, hf', -, -, -, hown2, -⟩ := Cond.laysFinal_spec hlay
    have e1 : c' = cf := by have := hi.symm.trans hf'; simp at this; exact this.1.symm
    rw [hO, hCown] at hown2
    rw [← e1]; exact Option.some.inj (hown.symm.trans hown2)
  have h6 := u_fits hfc hkC hkind (Or.inr hlay) hi hdty hn hfit
  refine W.putFinK hx hb hown (hts _ hlk) (by rw [hO] at hi; exact hi) hst hcf (hname hin2) (by rw [q2]; exact h6) q1 q3 (by rw [hsl]; exact k2_hasslot (q4 k hk)) rfl rfl hd fun H' g1 g2 g3 => ?_
  rw [hsl] at g1 ⊢
  refine kk.2 p l e R s m args below meth c H' _ lsA n0 w0 Q cx hl (hR.set ⟨hBa, _, hc, t_OB.to (V := updV (vp_V fs) k v) ⟨_, g1, q2, q3, t_set q4 hap hk v⟩ (fun j _ => vp_updV_set hlen v j)⟩ g2 g3) (fun q hq => ?_) e1 e2 e3 e4 hq
  rcases List.mem_append.mp hq with h | h
  · exact hlo q h
  · rw [List.mem_singleton.mp h]; exact hBa
theorem px_iaload {a m : Nat} {g : Nat → Int32} {i : Int32} (hd : decode μ.2.1 pc = .ok (.iaload, 1)) (ha : f a = some (.inl (0, m, .inl g))) (hi : 0 ≤ i.toInt ∧ i.toInt < m) (kk : EX B D d μ (pc + 1) ls (.int (g i.toNatClampNeg) :: st) (n, w, f) r h1) : EX B D d μ pc ls (.int i :: .ref a :: st) (n, w, f) r h1 := by
  refine ⟨kk.1, fun p l e R s m args below meth c H locs lsA n0 w0 Q cx hl hR hlo e1 e2 e3 e4 hq => ?_⟩
  obtain ⟨hBa, cA, hA, hRA, hc⟩ := pm_arr (hR.2.2 a _ ha) (by decide)
  exact va_iald cx.1 cx.2.1 (pm_K1 cx.2.2.2.2.2.2.2.2.1.1 hA hRA) (pm_one (e := .inl (cA, _, .inl g)) hc) 0 0 rfl rfl (pm_rin hi) hd (kk.2 p l e R s m args below meth c H locs lsA n0 w0 Q cx hl hR hlo e1 e2 e3 e4 hq)
theorem px_saload {a m : Nat} {g : Nat → Int32} {i : Int32} (hd : decode μ.2.1 pc = .ok (.iaload, 1)) (ha : f a = some (.inl (9, m, .inl g))) (hi : 0 ≤ i.toInt ∧ i.toInt < m) (kk : EX B D d μ (pc + 1) ls (.int (g i.toNatClampNeg) :: st) (n, w, f) r h1) : EX B D d μ pc ls (.int i :: .ref a :: st) (n, w, f) r h1 := by
  refine ⟨kk.1, fun p l e R s m args below meth c H locs lsA n0 w0 Q cx hl hR hlo e1 e2 e3 e4 hq => ?_⟩
  obtain ⟨scr, g1, g2, g3, g4, g5⟩ := pm_scr (hR.2.2 a _ ha)
  have hin := pm_rin hi
  have hlt : i.toNatClampNeg < _ := Nat.not_le.mp fun q => hin (Or.inr q)
  exact W.iald (v := .int (g i.toNatClampNeg)) cx.1 cx.2.1 g1 g2 g3 (by rw [g4]; exact hin) (g5 _ hlt) rfl rfl hd (kk.2 p l e R s m args below meth c H locs lsA n0 w0 Q cx hl hR hlo e1 e2 e3 e4 hq)
theorem px_laload {a m : Nat} {g : Nat → Int64} {i : Int32} (hd : decode μ.2.1 pc = .ok (.laload, 1)) (ha : f a = some (.inl (1, m, .inr (.inl g)))) (hi : 0 ≤ i.toInt ∧ i.toInt < m) (kk : EX B D d μ (pc + 1) ls (.long (g i.toNatClampNeg) :: st) (n, w, f) r h1) : EX B D d μ pc ls (.int i :: .ref a :: st) (n, w, f) r h1 := by
  refine ⟨kk.1, fun p l e R s m args below meth c H locs lsA n0 w0 Q cx hl hR hlo e1 e2 e3 e4 hq => ?_⟩
  obtain ⟨hBa, cA, hA, hRA, hc⟩ := pm_arr (hR.2.2 a _ ha) (by decide)
  exact va_lald cx.1 cx.2.1 (pm_K1 cx.2.2.2.2.2.2.2.2.1.1 hA hRA) (pm_one (e := .inl (cA, _, .inr (.inl g))) hc) 0 0 rfl rfl (pm_rin hi) hd (kk.2 p l e R s m args below meth c H locs lsA n0 w0 Q cx hl hR hlo e1 e2 e3 e4 hq)
theorem px_baload {a m : Nat} {g : Nat → Int32} {i : Int32} (hd : decode μ.2.1 pc = .ok (.baload, 1)) (ha : f a = some (.inl (2, m, .inl g))) (hi : 0 ≤ i.toInt ∧ i.toInt < m) (kk : EX B D d μ (pc + 1) ls (.int (g i.toNatClampNeg) :: st) (n, w, f) r h1) : EX B D d μ pc ls (.int i :: .ref a :: st) (n, w, f) r h1 := by
  refine ⟨kk.1, fun p l e R s m args below meth c H locs lsA n0 w0 Q cx hl hR hlo e1 e2 e3 e4 hq => ?_⟩
  obtain ⟨hBa, cA, hA, hRA, hc⟩ := pm_arr (hR.2.2 a _ ha) (by decide)
  have hin := pm_rin hi
  have hlt : i.toNatClampNeg < _ := Nat.not_le.mp fun q => hin (Or.inr q)
  exact W.zald (v := .int (g i.toNatClampNeg)) cx.1 cx.2.1 hc (hA _ (fun j => .int (g j))) (fun q => by cases q) (by show ¬ (i < 0 ∨ (arrV _ _ _).slots.size ≤ _); rw [arrV_size]; exact hin) (by show (arrV _ _ _).slots[_]? = _; rw [arrV_read _ _ hlt]) rfl rfl hd (kk.2 p l e R s m args below meth c H locs lsA n0 w0 Q cx hl hR hlo e1 e2 e3 e4 hq)
theorem px_aaload {a t m : Nat} {C : String} {g : Nat → Option Nat} {i : Int32} (hC : pm_ty t = .object C) (hd : decode μ.2.1 pc = .ok (.aaload, 1)) (ha : f a = some (.inl (t, m, .inr (.inr (.inr (.inr g)))))) (ht : t ≠ 9) (hi : 0 ≤ i.toInt ∧ i.toInt < m) (kk : EX B D d μ (pc + 1) ls (va_rf (g i.toNatClampNeg) :: st) (n, w, f) r h1) : EX B D d μ pc ls (.int i :: .ref a :: st) (n, w, f) r h1 := by
  refine ⟨kk.1, fun p l e R s m args below meth c H locs lsA n0 w0 Q cx hl hR hlo e1 e2 e3 e4 hq => ?_⟩
  obtain ⟨hBa, cA, hA, hRA, hc⟩ := pm_arr (hR.2.2 a _ ha) ht
  rw [hC] at hA hRA
  exact va_aldq cx.1 cx.2.1 (pm_K1 cx.2.2.2.2.2.2.2.2.1.1 hA hRA) (pm_one (e := .inl (cA, _, .inr (.inr (.inr (.inr g))))) hc) 0 0 rfl rfl (pm_rin hi) hd (kk.2 p l e R s m args below meth c H locs lsA n0 w0 Q cx hl hR hlo e1 e2 e3 e4 hq)
theorem px_alen {a t : Nat} {x : vp_A} {v : Int32} (hv : Int32.ofNat x.1 = v) (hd : decode μ.2.1 pc = .ok (.arraylength, 1)) (ha : f a = some (.inl (t, x))) (ht : t ≠ 9) (kk : EX B D d μ (pc + 1) ls (.int v :: st) (n, w, f) r h1) : EX B D d μ pc ls (.ref a :: st) (n, w, f) r h1 := by
  refine ⟨kk.1, fun p l e R s m args below meth c H locs lsA n0 w0 Q cx hl hR hlo e1 e2 e3 e4 hq => ?_⟩
  obtain ⟨hBa, cA, hA, hRA, hc⟩ := pm_arr (hR.2.2 a _ ha) ht
  exact va_alen cx.1 cx.2.1 (pm_K1 cx.2.2.2.2.2.2.2.2.1.1 hA hRA) (pm_one (e := .inl (cA, x)) hc) 0 0 rfl rfl hv hd (kk.2 p l e R s m args below meth c H locs lsA n0 w0 Q cx hl hR hlo e1 e2 e3 e4 hq)
theorem px_slen {a m : Nat} {g : Nat → Int32} (hd : decode μ.2.1 pc = .ok (.arraylength, 1)) (ha : f a = some (.inl (9, m, .inl g))) (kk : EX B D d μ (pc + 1) ls (.int (Int32.ofNat m) :: st) (n, w, f) r h1) : EX B D d μ pc ls (.ref a :: st) (n, w, f) r h1 := by
  refine ⟨kk.1, fun p l e R s m args below meth c H locs lsA n0 w0 Q cx hl hR hlo e1 e2 e3 e4 hq => ?_⟩
  obtain ⟨scr, g1, g2, g3, g4, g5⟩ := pm_scr (hR.2.2 a _ ha)
  exact W.alen (n := Int32.ofNat _) cx.1 cx.2.1 g1 g2 (by rw [g4] <;> rfl) rfl rfl hd (kk.2 p l e R s m args below meth c H locs lsA n0 w0 Q cx hl hR hlo e1 e2 e3 e4 hq)
theorem pm_lo {B a : Nat} {locs : List Loc} {k : Nat} (hlo : ∀ q ∈ locs, B ≤ q.base) (h : B ≤ a) : ∀ q ∈ locs ++ [(⟨a, k⟩ : Loc)], B ≤ q.base := by
  intro q hq
  rcases List.mem_append.mp hq with g | g
  · exact hlo q g
  · rw [List.mem_singleton.mp g]; exact h
theorem px_iastore {a m : Nat} {g : Nat → Int32} {i x : Int32} (hd : decode μ.2.1 pc = .ok (.iastore, 1)) (ha : f a = some (.inl (0, m, .inl g))) (hi : 0 ≤ i.toInt ∧ i.toInt < m) (kk : EX B D d μ (pc + 1) ls st (n, w, va_up f a (some (.inl (0, m, .inl (va_up g i.toNatClampNeg x))))) r h1) : EX B D d μ pc ls (.int x :: .int i :: .ref a :: st) (n, w, f) r h1 := by
  refine ⟨kk.1, fun p l e R s m' args below meth c H locs lsA n0 w0 Q cx hl hR hlo e1 e2 e3 e4 hq => ?_⟩
  obtain ⟨hBa, cA, hA, hRA, hc⟩ := pm_arr (hR.2.2 a _ ha) (by decide)
  have hin := pm_rin hi
  refine W.iast cx.1 cx.2.1 hc (hA m (fun j => .int (g j))) (fun q => by cases q) (by show ¬ (i < 0 ∨ (arrV _ _ _).slots.size ≤ _); rw [arrV_size]; exact hin) rfl rfl hd fun H1 g1 z oq => ?_
  refine kk.2 p l e R s m' args below meth c H1 _ lsA n0 w0 Q cx hl (hR.set (pm_arr' (by decide) ⟨hBa, cA, hA, hRA, ?_⟩) z oq) (pm_lo hlo hBa) e1 e2 e3 e4 hq
  rw [g1, vp_cell_i, vp_cell_i, arrV_store]
  congr 2
  funext q
  by_cases hq : q = i.toNatClampNeg
  · subst hq
    simp [updV, va_up]
  · simp [updV, va_up, hq]
theorem px_lastore {a m : Nat} {g : Nat → Int64} {i : Int32} {x : Int64} (hd : decode μ.2.1 pc = .ok (.lastore, 1)) (ha : f a = some (.inl (1, m, .inr (.inl g)))) (hi : 0 ≤ i.toInt ∧ i.toInt < m) (kk : EX B D d μ (pc + 1) ls st (n, w, va_up f a (some (.inl (1, m, .inr (.inl (va_up g i.toNatClampNeg x)))))) r h1) : EX B D d μ pc ls (.long x :: .int i :: .ref a :: st) (n, w, f) r h1 := by
  refine ⟨kk.1, fun p l e R s m' args below meth c H locs lsA n0 w0 Q cx hl hR hlo e1 e2 e3 e4 hq => ?_⟩
  obtain ⟨hBa, cA, hA, hRA, hc⟩ := pm_arr (hR.2.2 a _ ha) (by decide)
  have hin := pm_rin hi
  refine W.last cx.1 cx.2.1 hc (hA m (fun j => .long (g j))) (fun q => by cases q) (by show ¬ (i < 0 ∨ (arrV _ _ _).slots.size ≤ _); rw [arrV_size]; exact hin) rfl rfl hd fun H1 g1 z oq => ?_
  refine kk.2 p l e R s m' args below meth c H1 _ lsA n0 w0 Q cx hl (hR.set (pm_arr' (by decide) ⟨hBa, cA, hA, hRA, ?_⟩) z oq) (pm_lo hlo hBa) e1 e2 e3 e4 hq
  rw [g1, vp_cell_l, vp_cell_l, arrV_store]
  congr 2
  funext q
  by_cases hq : q = i.toNatClampNeg
  · subst hq
    simp [updV, va_up]
  · simp [updV, va_up, hq]
theorem px_bastore {a m : Nat} {g : Nat → Int32} {i x : Int32} (hd : decode μ.2.1 pc = .ok (.bastore, 1)) (ha : f a = some (.inl (2, m, .inl g))) (hi : 0 ≤ i.toInt ∧ i.toInt < m) (hxx : x = 0 ∨ x = 1) (kk : EX B D d μ (pc + 1) ls st (n, w, va_up f a (some (.inl (2, m, .inl (va_up g i.toNatClampNeg x))))) r h1) : EX B D d μ pc ls (.int x :: .int i :: .ref a :: st) (n, w, f) r h1 := by
  refine ⟨kk.1, fun p l e R s m' args below meth c H locs lsA n0 w0 Q cx hl hR hlo e1 e2 e3 e4 hq => ?_⟩
  obtain ⟨hBa, cA, hA, hRA, hc⟩ := pm_arr (hR.2.2 a _ ha) (by decide)
  have hin := pm_rin hi
  refine W.zast cx.1 cx.2.1 hc (hA m (fun j => .int (g j))) (fun q => by cases q) (by show ¬ (i < 0 ∨ (arrV _ _ _).slots.size ≤ _); rw [arrV_size]; exact hin) rfl rfl hd fun H1 g1 z oq => ?_
  refine kk.2 p l e R s m' args below meth c H1 _ lsA n0 w0 Q cx hl (hR.set (pm_arr' (by decide) ⟨hBa, cA, hA, hRA, ?_⟩) z oq) (pm_lo hlo hBa) e1 e2 e3 e4 hq
  rw [g1, pm_bool_nar hxx, vp_cell_i, vp_cell_i, arrV_store]
  congr 2
  funext q
  by_cases hq : q = i.toNatClampNeg
  · subst hq
    simp [updV, va_up]
  · simp [updV, va_up, hq]
theorem px_aastore {a t m v ci : Nat} {q : vw_C} {vs : List Value} {g : Nat → Option Nat} {i : Int32} (hq0 : pm_cl[ci]? = some q) (hC : pm_ty t = .object q.1) (hd : decode μ.2.1 pc = .ok (.aastore, 1)) (ha : f a = some (.inl (t, m, .inr (.inr (.inr (.inr g)))))) (ht : t ≠ 9) (hi : 0 ≤ i.toInt ∧ i.toInt < m) (hv : f v = some (.inr (ci, vs))) (kk : EX B D d μ (pc + 1) ls st (n, w, va_up f a (some (.inl (t, m, .inr (.inr (.inr (.inr (va_up g i.toNatClampNeg (some v))))))))) r h1) : EX B D d μ pc ls (.ref v :: .int i :: .ref a :: st) (n, w, f) r h1 := by
  refine ⟨kk.1, fun p l e R s m' args below meth c H locs lsA n0 w0 Q cx hl hR hlo e1 e2 e3 e4 hq => ?_⟩
  obtain ⟨hBa, cA, hA, hRA, hc⟩ := pm_arr (hR.2.2 a _ ha) ht
  have hRA' := hRA
  rw [hC] at hRA'
  have hin := pm_rin hi
  have hlt : i.toNatClampNeg < m := Nat.not_le.mp fun q => hin (Or.inr q)
  have h0 : ¬ i < 0 := fun q => hin (Or.inl q)
  obtain ⟨-, r', hr', cellV, g1, g2, g3, -⟩ := hR.2.2 v _ hv
  have hcls := (cx.2.2.2.2.2.2.2.2.1.1.1 ci q hq0).2
  obtain ⟨kA, comp, k1, k2, k3, -⟩ := hRA'
  have hcomp : comp = D.1 ci := Option.some.inj (k3.symm.trans hcls.1)
  subst hcomp
  obtain ⟨kC, hkC, -⟩ := hcls.2
  refine W.aast cx.1 cx.2.1 hc (fun q h => by cases h) (fun h => by cases h) k1 k2 rfl hkC ⟨h0, by show _ < (arrV _ _ _).slots.size; rw [arrV_size]; exact hlt⟩ g1 (fun q h => by rw [g3] at h; cases h) (by rw [g2]; exact hkC) (by rw [g2]; exact va_assign hcls) rfl rfl hd fun H1 g4 z oq => ?_
  refine kk.2 p l e R s m' args below meth c H1 _ lsA n0 w0 Q cx hl (hR.set (pm_arr' ht ⟨hBa, cA, hA, hRA, ?_⟩) z oq) (pm_lo hlo hBa) e1 e2 e3 e4 hq
  rw [g4, vp_cell_q, vp_cell_q, arrV_store]
  congr 2
  funext q
  by_cases hq : q = i.toNatClampNeg
  · subst hq
    simp [updV, va_up, va_rf]
  · simp [updV, va_up, hq]
theorem px_aastoreN {a t m : Nat} {C : String} {g : Nat → Option Nat} {i : Int32} (hC : pm_ty t = .object C) (hd : decode μ.2.1 pc = .ok (.aastore, 1)) (ha : f a = some (.inl (t, m, .inr (.inr (.inr (.inr g)))))) (ht : t ≠ 9) (hi : 0 ≤ i.toInt ∧ i.toInt < m) (kk : EX B D d μ (pc + 1) ls st (n, w, va_up f a (some (.inl (t, m, .inr (.inr (.inr (.inr (va_up g i.toNatClampNeg none)))))))) r h1) : EX B D d μ pc ls (.null :: .int i :: .ref a :: st) (n, w, f) r h1 := by
  refine ⟨kk.1, fun p l e R s m' args below meth c H locs lsA n0 w0 Q cx hl hR hlo e1 e2 e3 e4 hq => ?_⟩
  obtain ⟨hBa, cA, hA, hRA, hc⟩ := pm_arr (hR.2.2 a _ ha) ht
  have hA' := hA
  rw [hC] at hA'
  have hin := pm_rin hi
  refine va_WaastN (C := C) cx.1 cx.2.1 hc (hA' m (fun j => va_rf (g j))) (fun h => by cases h) (by show ¬ (i < 0 ∨ (arrV _ _ _).slots.size ≤ _); rw [arrV_size]; exact hin) rfl rfl hd fun H1 g4 z oq => ?_
  refine kk.2 p l e R s m' args below meth c H1 _ lsA n0 w0 Q cx hl (hR.set (pm_arr' ht ⟨hBa, cA, hA, hRA, ?_⟩) z oq) (pm_lo hlo hBa) e1 e2 e3 e4 hq
  rw [g4, vp_cell_q, vp_cell_q, arrV_store]
  congr 2
  funext q
  by_cases hq : q = i.toNatClampNeg
  · subst hq
    simp [updV, va_up, va_rf]
  · simp [updV, va_up, hq]
end PY
