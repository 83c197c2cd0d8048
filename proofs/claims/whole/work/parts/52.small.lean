/-! the small constructors: the object stands already, all its places empty -/
section M52
variable {B : Nat} {D : va_G} {n w : Nat} {f : Nat → Option va_E} {a : Nat}
theorem c_X3_init (hp : f a = some (.inr (3, [.null, .int 0]))) (hn : n = a + 1) : CT B D 1 mX3_init [.ref a] (n, w, f) none (n + 1, w + 50, va_up (va_up f n (some (.inl (0, 50, .inl (fun _ => 0))))) a (some (.inr (3, [.ref n, .int 0])))) := by
  refine CT.of [some (.ref a)] rfl (Nat.le_of_ble_eq_true rfl) pl_X3 trivial ?_
  refine px_aload_n dX3_init_0 rfl ?_
  refine px_objinit lk_X3_3 in_obj co_obj (by omega) (by simp) dX3_init_1 ?_
  refine px_aload_n dX3_init_4 rfl ?_
  refine px_bipush (v := 50) dX3_init_5 (by decide) ?_
  refine px_newint arc_int (by decide) rfl (by decide) dX3_init_7 ?_
  refine px_putfieldF fp_X3_9 rfl rfl dX3_init_9 (by first | exact hp | (rw [va_up_ne _ _ (by omega)]; exact hp)) rfl rfl (by simp) ?_
  exact px_retv dX3_init_12 rfl (by rfl)
theorem c_X2_init (hp : f a = some (.inr (2, [.int 0, .null, .int 0]))) (hn : n = a + 1) : CT B D 1 mX2_init [.ref a] (n, w, f) none (n + 1, w + 20, va_up (va_up f n (some (.inl (1, 20, .inr (.inl (fun _ => 0)))))) a (some (.inr (2, [.int 0, .ref n, .int 0])))) := by
  refine CT.of [some (.ref a)] rfl (Nat.le_of_ble_eq_true rfl) pl_X2 trivial ?_
  refine px_aload_n dX2_init_0 rfl ?_
  refine px_objinit lk_X2_3 in_obj co_obj (by omega) (by simp) dX2_init_1 ?_
  refine px_aload_n dX2_init_4 rfl ?_
  refine px_bipush (v := 20) dX2_init_5 (by decide) ?_
  refine px_newlong arc_long (by decide) rfl (by decide) dX2_init_7 ?_
  refine px_putfieldF fp_X2_9 rfl rfl dX2_init_9 (by first | exact hp | (rw [va_up_ne _ _ (by omega)]; exact hp)) rfl rfl (by simp) ?_
  exact px_retv dX2_init_12 rfl (by rfl)
theorem c_X4_init (hp : f a = some (.inr (4, [.int 0, .null, .null, .null, .int 0, .null, .null]))) : ∃ g : Nat → Option va_E, CT B D 1 mX4_init [.ref a] (a + 1, w, f) none (a + 1 + 1 + 1 + 1 + 1, w + 12 + 12 + 12 + 12, g) ∧ IsT g a 0 none (-1) (fun _ => 0) (fun _ => 0) (fun _ => 0) (fun _ => none) ∧ ∀ N, Ag f g a (a + 5) N := by
  apply Exists.intro
  refine ⟨?_, ?_, ?_⟩
  · refine CT.of [some (.ref a)] rfl (Nat.le_of_ble_eq_true rfl) pl_X4 trivial ?_
    refine px_aload_n dX4_init_0 rfl ?_
    refine px_objinit lk_X4_3 in_obj co_obj (by omega) (by simp) dX4_init_1 ?_
    refine px_aload_n dX4_init_4 rfl ?_
    refine px_bipush (v := 12) dX4_init_5 (by decide) ?_
    refine px_newint arc_int (by decide) rfl (by decide) dX4_init_7 ?_
    refine px_putfieldF fp_X4_9 rfl rfl dX4_init_9 (by first | exact hp | exact va_up_self _ _ _ | (rw [va_up_ne _ _ (by omega)]; first | exact hp | exact va_up_self _ _ _)) rfl rfl (by simp) ?_
    refine px_aload_n dX4_init_12 rfl ?_
    refine px_bipush (v := 12) dX4_init_13 (by decide) ?_
    refine px_newint arc_int (by decide) rfl (by decide) dX4_init_15 ?_
    refine px_putfieldF fp_X4_15 rfl rfl dX4_init_17 (by first | exact hp | exact va_up_self _ _ _ | (rw [va_up_ne _ _ (by omega)]; first | exact hp | exact va_up_self _ _ _)) rfl rfl (by simp) ?_
    refine px_aload_n dX4_init_20 rfl ?_
    refine px_iconst (v := (-1)) dX4_init_21 (by decide) ?_
    refine px_putfield fp_X4_18 dX4_init_22 (by first | exact hp | exact va_up_self _ _ _ | (rw [va_up_ne _ _ (by omega)]; first | exact hp | exact va_up_self _ _ _)) rfl rfl (by simp) ?_
    refine px_aload_n dX4_init_25 rfl ?_
    refine px_bipush (v := 12) dX4_init_26 (by decide) ?_
    refine px_newint arc_int (by decide) rfl (by decide) dX4_init_28 ?_
    refine px_putfieldF fp_X4_22 rfl rfl dX4_init_30 (by first | exact hp | exact va_up_self _ _ _ | (rw [va_up_ne _ _ (by omega)]; first | exact hp | exact va_up_self _ _ _)) rfl rfl (by simp) ?_
    refine px_aload_n dX4_init_33 rfl ?_
    refine px_bipush (v := 12) dX4_init_34 (by decide) ?_
    refine px_anew (t := 3) rfl (by decide) cl_X4_25 aro_RX1 (by decide) rfl (by decide) dX4_init_36 ?_
    refine px_putfieldF fp_X4_27 rfl rfl dX4_init_39 (by first | exact hp | exact va_up_self _ _ _ | (rw [va_up_ne _ _ (by omega)]; first | exact hp | exact va_up_self _ _ _)) rfl rfl (by simp) ?_
    exact px_retv dX4_init_42 rfl (by rfl)
  · refine ⟨?_, ?_, ?_, ?_, ?_⟩
    · exact va_up_self _ _ _
    · repeat (first | exact va_up_self _ _ _ | rw [va_up_ne _ _ (by omega)])
    · repeat (first | exact va_up_self _ _ _ | rw [va_up_ne _ _ (by omega)])
    · repeat (first | exact va_up_self _ _ _ | rw [va_up_ne _ _ (by omega)])
    · repeat (first | exact va_up_self _ _ _ | rw [va_up_ne _ _ (by omega)])
  · intro N
    repeat (first | exact Ag.rf _ _ _ _ | refine Ag.up ?_ (by omega) (by omega))
end M52
