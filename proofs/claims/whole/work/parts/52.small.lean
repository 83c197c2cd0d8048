/-! the small constructors: the object stands already, all its places empty -/
section M52
variable {B : Nat} {D : va_G} {n w : Nat} {f : Nat → Option va_E} {a : Nat}
theorem c_X3_init (hp : f a = some (.inr (3, [.null, .int 0]))) (hn : n = a + 1) : CT B D 1 mX3_init [.ref a] (n, w, f) none (n + 1, w + 50, va_up (va_up f n (some (.inl (0, 50, .inl (fun _ => 0))))) a (some (.inr (3, [.ref n, .int 0])))) := by
  refine CT.of [some (.ref a)] rfl (Nat.le_of_ble_eq_true rfl) pl_X3 trivial ?_
  refine px_aload_n dX3_init_0 rfl ?_
  refine px_objinit lk_X3_3 in_obj co_obj (by omega) (by simp) dX3_init_1 ?_
  refine px_aload_n dX3_init_4 rfl ?_
  refine px_bipush (v := 50) dX3_init_5 (by decide) ?_
  refine px_newint arc_int (by decide) rfl (by decide) dX3_init_7 ?_
  refine px_putfieldF fp_X3_9 rfl rfl dX3_init_9 (by first | exact hp | (rw [va_up_ne _ _ (by omega)]; exact hp)) rfl rfl (by simp) ?_
  exact px_retv dX3_init_12 rfl (by rfl)
end M52
